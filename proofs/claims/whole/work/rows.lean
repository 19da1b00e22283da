section
-- ===== PART A: goes FIRST, ahead of the names: the tables' words, and 'selects' of the private methods out of them =====
/-- a private method of a class that the tables say can be made, by its rows of tables_1 -/
def lw_okq (q : MethodName × Nat) : Prop := (q.1.cls ≠ "java/lang/invoke/MethodHandle" ∧ q.1.cls ≠ "java/lang/invoke/VarHandle") ∧ Cond.instantiable q.1.cls q.2 ∈ tables_1 ∧ Cond.privateMethod q.1 ∈ tables_1 ∧ Cond.instanceMethod q.1 ∈ tables_1
theorem lw_p0 : lw_okq (⟨"java/lang/Throwable", "fillInStackTrace", "(I)Ljava/lang/Throwable;"⟩, 6) := ⟨⟨by decide +kernel, by decide +kernel⟩, List.mem_of_getElem? (i := 196) (by decide +kernel), List.mem_of_getElem? (i := 194) (by decide +kernel), List.mem_of_getElem? (i := 195) (by decide +kernel)⟩
theorem lw_p1 : lw_okq (⟨"FlowGrid", "advance", "(D)D"⟩, 11) := ⟨⟨by decide +kernel, by decide +kernel⟩, List.mem_of_getElem? (i := 14) (by decide +kernel), List.mem_of_getElem? (i := 265) (by decide +kernel), List.mem_of_getElem? (i := 266) (by decide +kernel)⟩
theorem lw_p2 : lw_okq (⟨"FlowGrid", "succeeds", "(D)Z"⟩, 11) := ⟨⟨by decide +kernel, by decide +kernel⟩, List.mem_of_getElem? (i := 14) (by decide +kernel), List.mem_of_getElem? (i := 290) (by decide +kernel), List.mem_of_getElem? (i := 291) (by decide +kernel)⟩
theorem lw_p3 : lw_okq (⟨"FlowGrid$Row", "copy", "(II)V"⟩, 3) := ⟨⟨by decide +kernel, by decide +kernel⟩, List.mem_of_getElem? (i := 22) (by decide +kernel), List.mem_of_getElem? (i := 305) (by decide +kernel), List.mem_of_getElem? (i := 306) (by decide +kernel)⟩
theorem lw_p4 : lw_okq (⟨"FlowGrid$Row", "mirror", "(II)V"⟩, 3) := ⟨⟨by decide +kernel, by decide +kernel⟩, List.mem_of_getElem? (i := 22) (by decide +kernel), List.mem_of_getElem? (i := 309) (by decide +kernel), List.mem_of_getElem? (i := 310) (by decide +kernel)⟩
theorem lw_p5 : lw_okq (⟨"FlowGrid$Faces", "fillSlopes", "(LFlowGrid$Row;I)V"⟩, 6) := ⟨⟨by decide +kernel, by decide +kernel⟩, List.mem_of_getElem? (i := 45) (by decide +kernel), List.mem_of_getElem? (i := 317) (by decide +kernel), List.mem_of_getElem? (i := 318) (by decide +kernel)⟩
theorem lw_p6 : lw_okq (⟨"FlowGrid$Faces", "slopeAt", "([DII)D"⟩, 6) := ⟨⟨by decide +kernel, by decide +kernel⟩, List.mem_of_getElem? (i := 45) (by decide +kernel), List.mem_of_getElem? (i := 321) (by decide +kernel), List.mem_of_getElem? (i := 322) (by decide +kernel)⟩
theorem lw_p7 : lw_okq (⟨"FlowGrid$Faces", "guess", "(LFlowGrid$Row;I)V"⟩, 6) := ⟨⟨by decide +kernel, by decide +kernel⟩, List.mem_of_getElem? (i := 45) (by decide +kernel), List.mem_of_getElem? (i := 334) (by decide +kernel), List.mem_of_getElem? (i := 335) (by decide +kernel)⟩
theorem lw_p8 : lw_okq (⟨"FlowGrid$Faces", "solveNarrow", "(I)V"⟩, 6) := ⟨⟨by decide +kernel, by decide +kernel⟩, List.mem_of_getElem? (i := 45) (by decide +kernel), List.mem_of_getElem? (i := 344) (by decide +kernel), List.mem_of_getElem? (i := 345) (by decide +kernel)⟩
theorem lw_p9 : lw_okq (⟨"FlowGrid$Faces", "solveBroad", "(I)V"⟩, 6) := ⟨⟨by decide +kernel, by decide +kernel⟩, List.mem_of_getElem? (i := 45) (by decide +kernel), List.mem_of_getElem? (i := 362) (by decide +kernel), List.mem_of_getElem? (i := 363) (by decide +kernel)⟩
theorem lw_p10 : lw_okq (⟨"FlowGridModel", "empty", "(I)V"⟩, 20) := ⟨⟨by decide +kernel, by decide +kernel⟩, List.mem_of_getElem? (i := 453) (by decide +kernel), List.mem_of_getElem? (i := 459) (by decide +kernel), List.mem_of_getElem? (i := 460) (by decide +kernel)⟩
theorem lw_p11 : lw_okq (⟨"FlowGridModel", "fails", "(ZI)Z"⟩, 20) := ⟨⟨by decide +kernel, by decide +kernel⟩, List.mem_of_getElem? (i := 453) (by decide +kernel), List.mem_of_getElem? (i := 535) (by decide +kernel), List.mem_of_getElem? (i := 536) (by decide +kernel)⟩
theorem lw_p12 : lw_okq (⟨"FlowGridModel", "made", "(D)D"⟩, 20) := ⟨⟨by decide +kernel, by decide +kernel⟩, List.mem_of_getElem? (i := 453) (by decide +kernel), List.mem_of_getElem? (i := 562) (by decide +kernel), List.mem_of_getElem? (i := 563) (by decide +kernel)⟩
theorem lw_p13 : lw_okq (⟨"FlowGridModel", "bounded", "(D)D"⟩, 20) := ⟨⟨by decide +kernel, by decide +kernel⟩, List.mem_of_getElem? (i := 453) (by decide +kernel), List.mem_of_getElem? (i := 566) (by decide +kernel), List.mem_of_getElem? (i := 567) (by decide +kernel)⟩
theorem lw_p14 : lw_okq (⟨"FlowGridModel", "tried", "(D)Z"⟩, 20) := ⟨⟨by decide +kernel, by decide +kernel⟩, List.mem_of_getElem? (i := 453) (by decide +kernel), List.mem_of_getElem? (i := 584) (by decide +kernel), List.mem_of_getElem? (i := 585) (by decide +kernel)⟩
theorem lw_p15 : lw_okq (⟨"FlowGridModel", "stage", "(IID)Z"⟩, 20) := ⟨⟨by decide +kernel, by decide +kernel⟩, List.mem_of_getElem? (i := 453) (by decide +kernel), List.mem_of_getElem? (i := 588) (by decide +kernel), List.mem_of_getElem? (i := 589) (by decide +kernel)⟩
def lw_privs_1 : List (MethodName × Nat) := [(⟨"java/lang/Throwable", "fillInStackTrace", "(I)Ljava/lang/Throwable;"⟩, 6), (⟨"FlowGrid", "advance", "(D)D"⟩, 11), (⟨"FlowGrid", "succeeds", "(D)Z"⟩, 11), (⟨"FlowGrid$Row", "copy", "(II)V"⟩, 3), (⟨"FlowGrid$Row", "mirror", "(II)V"⟩, 3), (⟨"FlowGrid$Faces", "fillSlopes", "(LFlowGrid$Row;I)V"⟩, 6), (⟨"FlowGrid$Faces", "slopeAt", "([DII)D"⟩, 6), (⟨"FlowGrid$Faces", "guess", "(LFlowGrid$Row;I)V"⟩, 6), (⟨"FlowGrid$Faces", "solveNarrow", "(I)V"⟩, 6), (⟨"FlowGrid$Faces", "solveBroad", "(I)V"⟩, 6), (⟨"FlowGridModel", "empty", "(I)V"⟩, 20), (⟨"FlowGridModel", "fails", "(ZI)Z"⟩, 20), (⟨"FlowGridModel", "made", "(D)D"⟩, 20), (⟨"FlowGridModel", "bounded", "(D)D"⟩, 20), (⟨"FlowGridModel", "tried", "(D)Z"⟩, 20), (⟨"FlowGridModel", "stage", "(IID)Z"⟩, 20)]
theorem lw_r1 : ∀ q ∈ lw_privs_1, lw_okq q := List.forall_mem_cons.mpr ⟨lw_p0, List.forall_mem_cons.mpr ⟨lw_p1, List.forall_mem_cons.mpr ⟨lw_p2, List.forall_mem_cons.mpr ⟨lw_p3, List.forall_mem_cons.mpr ⟨lw_p4, List.forall_mem_cons.mpr ⟨lw_p5, List.forall_mem_cons.mpr ⟨lw_p6, List.forall_mem_cons.mpr ⟨lw_p7, List.forall_mem_cons.mpr ⟨lw_p8, List.forall_mem_cons.mpr ⟨lw_p9, List.forall_mem_cons.mpr ⟨lw_p10, List.forall_mem_cons.mpr ⟨lw_p11, List.forall_mem_cons.mpr ⟨lw_p12, List.forall_mem_cons.mpr ⟨lw_p13, List.forall_mem_cons.mpr ⟨lw_p14, List.forall_mem_cons.mpr ⟨lw_p15, fun _ h => absurd h List.not_mem_nil⟩⟩⟩⟩⟩⟩⟩⟩⟩⟩⟩⟩⟩⟩⟩⟩
theorem lw_p16 : lw_okq (⟨"FlowGridModel", "close", "(I)V"⟩, 20) := ⟨⟨by decide +kernel, by decide +kernel⟩, List.mem_of_getElem? (i := 453) (by decide +kernel), List.mem_of_getElem? (i := 592) (by decide +kernel), List.mem_of_getElem? (i := 593) (by decide +kernel)⟩
theorem lw_p17 : lw_okq (⟨"FlowGridModel", "face", "(II)V"⟩, 20) := ⟨⟨by decide +kernel, by decide +kernel⟩, List.mem_of_getElem? (i := 453) (by decide +kernel), List.mem_of_getElem? (i := 596) (by decide +kernel), List.mem_of_getElem? (i := 597) (by decide +kernel)⟩
theorem lw_p18 : lw_okq (⟨"FlowGridModel", "slopes", "(I)V"⟩, 20) := ⟨⟨by decide +kernel, by decide +kernel⟩, List.mem_of_getElem? (i := 453) (by decide +kernel), List.mem_of_getElem? (i := 600) (by decide +kernel), List.mem_of_getElem? (i := 601) (by decide +kernel)⟩
theorem lw_p19 : lw_okq (⟨"FlowGridModel", "slope", "(DD)D"⟩, 20) := ⟨⟨by decide +kernel, by decide +kernel⟩, List.mem_of_getElem? (i := 453) (by decide +kernel), List.mem_of_getElem? (i := 604) (by decide +kernel), List.mem_of_getElem? (i := 605) (by decide +kernel)⟩
def lw_privs_2 : List (MethodName × Nat) := [(⟨"FlowGridModel", "close", "(I)V"⟩, 20), (⟨"FlowGridModel", "face", "(II)V"⟩, 20), (⟨"FlowGridModel", "slopes", "(I)V"⟩, 20), (⟨"FlowGridModel", "slope", "(DD)D"⟩, 20)]
theorem lw_r2 : ∀ q ∈ lw_privs_2, lw_okq q := List.forall_mem_cons.mpr ⟨lw_p16, List.forall_mem_cons.mpr ⟨lw_p17, List.forall_mem_cons.mpr ⟨lw_p18, List.forall_mem_cons.mpr ⟨lw_p19, fun _ h => absurd h List.not_mem_nil⟩⟩⟩⟩
def lw_privs : List (MethodName × Nat) := lw_privs_1 ++ (lw_privs_2)
def lw_tbl : List Cond := k2_sels lw_privs ++ tables_1
theorem lw_privs_ok : ∀ q ∈ lw_privs, lw_okq q := by
  show ∀ q ∈ lw_privs_1 ++ (lw_privs_2), lw_okq q
  exact List.forall_mem_append.mpr ⟨lw_r1, lw_r2⟩
end
section
/-! ===== BEGIN words of one list among another's, by their places ===== -/
theorem goodIn_r {big : List Cond} (ws : List Cond) (ps : List Nat) (hp : ws = ps.filterMap (fun i => big[i]?)) (h : ws.all goodWord = true) : GoodIn big ws := by
  intro w hw
  have h1 := List.all_eq_true.mp h w hw
  rw [hp] at hw
  obtain ⟨i, -, hi⟩ := List.mem_filterMap.mp hw
  have hm : w ∈ big := by first | exact List.mem_of_getElem? hi | exact List.getElem?_mem hi
  exact ⟨hm, good_of_word h1⟩
theorem goodIn_app {big a b : List Cond} (ha : GoodIn big a) (hb : GoodIn big b) : GoodIn big (a ++ b) := fun w h => (List.mem_append.mp h).elim (ha w) (hb w)
theorem goodIn_ca {big a b : List Cond} {c : Cond} (ha : GoodIn big (c :: a)) (hb : GoodIn big b) : GoodIn big (c :: (a ++ b)) := fun w h => (List.mem_cons.mp h).elim (fun e => ha w (List.mem_cons.mpr (Or.inl e))) (fun h => (List.mem_append.mp h).elim (fun h => ha w (List.mem_cons.mpr (Or.inr h))) (hb w))
theorem goodIn_sub {big ws : List Cond} (hm : ∀ w ∈ ws, w ∈ big) (h : ws.all goodWord = true) : GoodIn big ws := fun w hw => ⟨hm w hw, good_of_word (List.all_eq_true.mp h w hw)⟩
/-! ===== END ===== -/

/-! ===== BEGIN exceptions that leave a method, and their catching by the caller (launches without stack traces) ===== -/
section VXA
/-! The laws vx_back, vx_callV, vx_callS, vx_callSW, vx_throw0, vx_throwS follow proofs of the library, with one case more: JvmDerived/Free/Laws.lean (Back.of_free), Shelf42/LK1.lean (callV, callS), Shelf/KitTraced.lean (throwNew0V, throwNewS). -/
/-- where a method has thrown q: the class by its name, the cell, what was written, the world -/
def vx_T (XC : String → State → State → Prop) (st : State) (q : Addr) (t : State) (mc ms : Nat) (free : Addr → Prop) : Prop :=
  ∃ (E : String) (ce : Cell) (L : List Loc), XC E st t ∧ t.heap[q]? = some ce ∧ ce.vm = .none ∧ st.vm.findClass E = some ce.cls ∧ st.WarmedH t.vm ∧ st.sameButNew ({ t with vm := st.vm } : State) L mc ms ∧ ∀ z ∈ L, free z.base
def vx_Q (Qc : Array Value → State → Outcome → State → Prop) (XC : String → State → State → Prop) (mc ms : Nat) (free : Addr → Prop) : Array Value → State → Outcome → State → Prop := fun a st o t =>
  (Qc a st o t ∧ ∃ L, FrameEnd st o t L mc ms ∧ ∀ q ∈ L, free q.base) ∨ ∃ q, o = .threw q ∧ vx_T XC st q t mc ms free
/-- a callee that returns or throws -/
def vx_Met (l : Launch) (y : MethodName) (ws : List Cond) (rm : Room) (Pc : Array Value → State → Prop) (Qc : Array Value → State → Outcome → State → Prop) (XC : String → State → State → Prop) (mc ms : Nat) (free : Addr → Prop) : Prop :=
  MetFree l y (headSpec ws rm) Pc (fun _ _ _ _ _ => True) (vx_Q Qc XC mc ms free)
def vx_Post (XC : String → State → State → Prop) (mc ms : Nat) (free : Addr → Prop) : Pt → Array Value → Addr → Pt → Prop := fun A a q B =>
  ∃ (g : JFrame) (mk : MethodId) (t : State) (L : List Loc) (E : String) (ce : Cell), B.U.heap = t.heap ∧ B.U.vm = t.vm ∧ XC E (A.U.calling g mk a) t ∧ t.heap[q]? = some ce ∧ ce.vm = .none ∧ A.U.vm.findClass E = some ce.cls ∧ B.locs = A.locs ++ L ∧ (∀ z ∈ L, free z.base) ∧ B.cells = A.cells + mc ∧ B.slots = A.slots + ms
def vx_Back (l : Launch) (R : Room) (p : Program) (e : Env) (below : List Frame) (s : State) (sargs : Array Value) (y : MethodName) (len W9 : Nat)
    (Pre : Pt → Array Value → Prop) (Post : Pt → Array Value → Option Value → Pt → Prop) (PostX : Pt → Array Value → Addr → Pt → Prop) : Prop :=
  ∀ (m : MethodId) (meth : Method) (c : Code) (A : Pt) (g : JFrame) (ig : Instr) (mk : MethodId) (a : Array Value),
    Stand p l e R s m sargs below meth c A.U A.locs A.cells A.slots → g.method = m → g.locals.size = c.maxLocals → decode c.code g.pc = .ok (ig, len) →
    2 * g.monitorRoom + (g.stack.map fun v => v.category).sum ≤ W9 → A.U.methodNamed? y = some mk → Pre A a →
    (∃ (v : Option Value) (B : Pt), Stand p l e R s m sargs below meth c B.U B.locs B.cells B.slots ∧ Post A a v B ∧
      Steps p.tables e below (doInvoke e (A.U.setTop g) [] mk a).1 (B.U.setTop { g with pc := g.pc + len, stack := v.toList ++ g.stack })) ∨
    (∃ (q : Addr) (B : Pt), Stand p l e R s m sargs below meth c B.U B.locs B.cells B.slots ∧ PostX A a q B ∧
      Steps p.tables e below (doInvoke e (A.U.setTop g) [] mk a).1 ((B.U.setTop g).pushFrame (.throwing q)))
section Payer
variable {l : Launch} {R : Room} {p : Program} {e : Env} {below : List Frame} {s : State} {sargs : Array Value} {y : MethodName} {len W9 : Nat}
theorem vx_back {ws : List Cond} {rm : Room} {Pc : Array Value → State → Prop} {Qc : Array Value → State → Outcome → State → Prop} {XC : String → State → State → Prop} {mc ms : Nat} {free : Addr → Prop} {bytes : ByteArray} {maxL : Nat} {ret : Option FieldType}
    (hM : vx_Met l y ws rm Pc Qc XC mc ms free) (hblind : FrameBlind Pc) (hrc : rm.cells = mc) (hrs : rm.slots = ms)
    (hframes : rm.frames + 1 ≤ R.frames) (hlocals : W9 + (maxL + 11) + rm.locals ≤ R.locals)
    (hws : ∀ w ∈ ws, ∀ a' U, s.WarmedH U.vm → w.before a' U = true) (hcode : Cond.code y bytes maxL ret ∈ ws) (hinit : ∀ a' U, s.WarmedH U.vm → (Cond.initialized y.cls).before a' U = true) :
    vx_Back l R p e below s sargs y len W9 (PreOf R mc ms Pc) (PostOf Qc mc ms free) (vx_Post XC mc ms free) := by
  intro m meth c A g ig mk a X hg hsize hdg hW hn hp
  have h1 : (headSpec ws rm).pre.before a A.U = true := atoms_intro fun w hw => hws w hw _ _ X.warmed
  have h2 : (Cond.code y bytes maxL ret).before a A.U = true := hws _ hcode _ _ X.warmed
  have h3 : (Cond.initialized y.cls).before a A.U = true := hinit _ _ X.warmed
  have h4 : A.cells + (headSpec ws rm).room.cells ≤ R.cells := by rw [show (headSpec ws rm).room.cells = mc from hrc]; exact hp.1
  have h5 : A.slots + (headSpec ws rm).room.slots ≤ R.slots := by rw [show (headSpec ws rm).room.slots = ms from hrs]; exact hp.2.1
  have hPc : Pc a (A.U.calling g mk a) := hblind _ _ _ _ hp.2.2
  obtain ⟨U, Ls, c0, s0⟩ := A
  dsimp only [Pt.U, Pt.locs, Pt.cells, Pt.slots] at h1 h2 h3 h4 h5 X hn hPc ⊢
  obtain ⟨methY, cY, hmY, hcY, -, hlY, -, -, -, -⟩ := Cond.code_spec hn h2
  obtain ⟨kY, hkY, -⟩ := className_of_methodNamed hn
  have hinitY : kY.init = .initialized := Cond.initialized_spec (findClass_of_methodNamed hn) hkY h3
  have h : At U g.method c below := by rw [hg]; exact X.here
  have hlocals9 : W9 + (maxL + 11) + (headSpec ws rm).room.locals ≤ R.locals := hlocals
  have happ : (headSpec ws rm).appliesLoose y e.platform (U.calling g mk a) = true :=
    Spec.appliesLoose_calling (g := g) h hdg hn hkY hinitY
      (X.room_calling (g := g) (R' := (headSpec ws rm).room) hsize hmY hcY hframes (by rw [hlY]; omega) h4 h5) h1
  obtain ⟨mid, hmid⟩ := h.above
  have hfr : (U.setTop g).frames = (.java g :: mid) ++ below := by rw [State.frames_setTop' g h.top, hmid]; rfl
  obtain ⟨o, s₂, hsteps, -, hend, hq⟩ := Steps.callFree hM p X.admits X.cas X.clock (acts := []) hfr happ hPc trivial
  have hq' : vx_Q Qc XC mc ms free a (U.calling g mk a) o s₂ := hq
  rw [State.frames_setTop' g h.top] at hend
  obtain ⟨g₀, hg0⟩ := Option.isSome_iff_exists.mp h.top
  obtain ⟨r, hr⟩ := State.topJava?_eq_some.mp hg0
  have hr' : (({ U with heap := s₂.heap, slotsUsed := s₂.slotsUsed } : State).setVm s₂.vm).frames = .java g₀ :: r := hr
  rcases hq' with ⟨hqc, L, hfe, hL⟩ | ⟨q, rfl, E, ce, L, hx, hce, hcv, hcl, hW₂, hsm, hL⟩
  · obtain ⟨⟨v, rfl⟩, hW₂, e2, q2, q3, q4, q5, q6⟩ := id hfe
    have e3 : s₂ = ({ (U.calling g mk a).setFrames s₂.frames with heap := s₂.heap, slotsUsed := s₂.slotsUsed } : State).setVm s₂.vm := by
      have : s₂ = ({ s₂ with vm := (U.calling g mk a).vm } : State).setVm s₂.vm := rfl
      rw [e2] at this
      exact this
    obtain ⟨c₂, i₂, len₂, hc₂, hd₂, hf₂⟩ := hend
    have hW' : U.WarmedH s₂.vm := hW₂
    have hcc : c₂ = c := by
      have h1 : s₂.code? g.method = U.code? g.method := by
        rw [State.code?_eq, State.code?_eq, hW'.alike.method?]
      exact Option.some.inj (hc₂.symm.trans (h1.trans h.code))
    subst hcc
    have hlen : len₂ = len := by rw [hdg] at hd₂; cases hd₂; rfl
    subst hlen
    have hs₂ : s₂ = (({ U with heap := s₂.heap, slotsUsed := s₂.slotsUsed } : State).setVm s₂.vm).setTop { g with pc := g.pc + len₂, stack := v.toList ++ g.stack } := by
      refine e3.trans ?_
      rw [hf₂, State.calling_eq h.top, State.setFrames_setFrames, State.setTop_of_frames _ hr', hr]
      rfl
    have hsame : U.sameButNew ({ U with heap := s₂.heap, slotsUsed := s₂.slotsUsed } : State) L mc ms := by
      refine ⟨?_, q2, q3, q4, q5, q6⟩
      obtain ⟨t, ht, -⟩ := State.frames_cons hr
      show ({ U with heap := s₂.heap, slotsUsed := s₂.slotsUsed } : State) = { U.setFrames U.frames with heap := s₂.heap, slotsUsed := s₂.slotsUsed }
      rw [State.setFrames_self ht]
    subst hg
    refine Or.inl ⟨v, ⟨(({ U with heap := s₂.heap, slotsUsed := s₂.slotsUsed } : State).setVm s₂.vm), Ls ++ L, c0 + mc, s0 + ms⟩,
      ⟨X.admits, X.cas, X.clock, X.frames, X.room, X.hears, X.method, X.code, (X.here.setHeapUsed s₂.heap s₂.slotsUsed).setVm hW'.alike, X.tail, State.WarmedH.trans X.warmed hW', X.limits, X.bytes, X.same.trans (hsame.setVm s.vm)⟩,
      ⟨g, mk, s₂, L, rfl, rfl, hqc, rfl, hL, rfl, rfl⟩, ?_⟩
    show Steps p.tables e below _ ((({ U with heap := s₂.heap, slotsUsed := s₂.slotsUsed } : State).setVm s₂.vm).setTop { g with pc := g.pc + len₂, stack := v.toList ++ g.stack })
    rw [← hs₂]
    exact hsteps
  · obtain ⟨e2, q2, q3, q4, q5, q6⟩ := id hsm
    have e3 : s₂ = ({ (U.calling g mk a).setFrames s₂.frames with heap := s₂.heap, slotsUsed := s₂.slotsUsed } : State).setVm s₂.vm := by
      have : s₂ = ({ s₂ with vm := (U.calling g mk a).vm } : State).setVm s₂.vm := rfl
      rw [e2] at this
      exact this
    have hf₂ : s₂.frames = .throwing q :: .java g :: U.frames.tail := hend
    have hW' : U.WarmedH s₂.vm := hW₂
    have hs₂ : s₂ = ((({ U with heap := s₂.heap, slotsUsed := s₂.slotsUsed } : State).setVm s₂.vm).setTop g).pushFrame (.throwing q) := by
      refine e3.trans ?_
      rw [hf₂, State.calling_eq h.top, State.setFrames_setFrames, State.pushFrame, State.frames_setTop _ hr', State.setTop_of_frames _ hr', State.setFrames_setFrames, hr]
      rfl
    have hsame : U.sameButNew ({ U with heap := s₂.heap, slotsUsed := s₂.slotsUsed } : State) L mc ms := by
      refine ⟨?_, q2, q3, q4, q5, q6⟩
      obtain ⟨t, ht, -⟩ := State.frames_cons hr
      show ({ U with heap := s₂.heap, slotsUsed := s₂.slotsUsed } : State) = { U.setFrames U.frames with heap := s₂.heap, slotsUsed := s₂.slotsUsed }
      rw [State.setFrames_self ht]
    subst hg
    refine Or.inr ⟨q, ⟨(({ U with heap := s₂.heap, slotsUsed := s₂.slotsUsed } : State).setVm s₂.vm), Ls ++ L, c0 + mc, s0 + ms⟩,
      ⟨X.admits, X.cas, X.clock, X.frames, X.room, X.hears, X.method, X.code, (X.here.setHeapUsed s₂.heap s₂.slotsUsed).setVm hW'.alike, X.tail, State.WarmedH.trans X.warmed hW', X.limits, X.bytes, X.same.trans (hsame.setVm s.vm)⟩,
      ⟨g, mk, s₂, L, E, ce, rfl, rfl, hx, hce, hcv, hcl, rfl, hL, rfl, rfl⟩, ?_⟩
    show Steps p.tables e below _ (((({ U with heap := s₂.heap, slotsUsed := s₂.slotsUsed } : State).setVm s₂.vm).setTop g).pushFrame (.throwing q))
    rw [← hs₂]
    exact hsteps
end Payer
section Calls
variable {p : Program} {l : Launch} {e : Env} {R : Room} {s : State} {m : MethodId} {args : Array Value} {below : List Frame} {meth : Method} {c : Code} {T : State} {locs : List Loc} {cells slots : Nat}
theorem vx_callV (X : Stand p l e R s m args below meth c T locs cells slots) (hexec : p.tables.exec = Jvm.exec) {own C : String} {index : Nat} {y : MethodName} {bytes : ByteArray} {maxL : Nat} {ret : Option FieldType}
    (hown : s.vm.findClass own = some m.cls) (hlink : (Cond.methodLink own index y).before args s = true) (hinst : (Cond.instanceMethod y).before args s = true) (hsel : (Cond.selects C y y).before args s = true)
    (hcode : (Cond.code y bytes maxL ret).before args s = true) (hy : y.cls ≠ "java/lang/invoke/MethodHandle" ∧ y.cls ≠ "java/lang/invoke/VarHandle")
    {W9 : Nat} {Pre : Pt → Array Value → Prop} {Post : Pt → Array Value → Option Value → Pt → Prop} {PostX : Pt → Array Value → Addr → Pt → Prop} (hK : vx_Back l R p e below s args y 3 W9 Pre Post PostX)
    {b : Addr} {cellB : Cell} (hcell : T.heap[b]? = some cellB) (hobj : cellB.vm.isStatics = false) (hcls : s.vm.findClass C = some cellB.cls)
    {g : JFrame} (hg : g.method = m) (hsize : g.locals.size = c.maxLocals) {argsL rest : List Value} (hlen : ∀ sig, parseMethodDescriptor y.desc = some sig → argsL.length = sig.parameters.length)
    (hstack : g.stack = argsL.reverse ++ .ref b :: rest) (hW : 2 * g.monitorRoom + (rest.map fun v => v.category).sum ≤ W9) (hdg : decode c.code g.pc = .ok (.invokevirtual index, 3))
    (hpre : ∀ vm₁, s.WarmedH vm₁ → Pre ⟨T.setVm vm₁, locs, cells, slots⟩ (Value.ref b :: argsL).toArray) :
    (∃ (v : Option Value) (vm₁ : Vm) (B : Pt), s.WarmedH vm₁ ∧ Stand p l e R s m args below meth c B.U B.locs B.cells B.slots ∧ Post ⟨T.setVm vm₁, locs, cells, slots⟩ (Value.ref b :: argsL).toArray v B ∧
      ∀ target, Steps p.tables e below (B.U.setTop { g with pc := g.pc + 3, stack := v.toList ++ rest }) target → Steps p.tables e below (T.setTop g) target) ∨
    (∃ (q : Addr) (vm₁ : Vm) (B : Pt), s.WarmedH vm₁ ∧ Stand p l e R s m args below meth c B.U B.locs B.cells B.slots ∧ PostX ⟨T.setVm vm₁, locs, cells, slots⟩ (Value.ref b :: argsL).toArray q B ∧
      Steps p.tables e below (T.setTop g) ((B.U.setTop { g with stack := rest }).pushFrame (.throwing q))) := by
  obtain ⟨mk, methM, hnamed, hmethM, hstM, habM⟩ := Cond.instanceMethod_spec hinst
  obtain ⟨methM', cM, hmethM', -, -, -, -, -, -, hsigM⟩ := Cond.code_spec hnamed hcode
  cases hmethM.symm.trans hmethM'
  obtain ⟨c2, r2, m2, q1, q2, q3, q4, kP, hkP, hkPi⟩ := Cond.selects_spec hsel
  cases hcls.symm.trans q1
  cases (State.methodFound?_of_named hnamed hy).symm.trans q2
  cases hnamed.symm.trans q3
  have hselP : selectMethod e.platform s.vm cellB.cls mk = .method mk := by rw [Launch.admits_selectMethod X.admits]; exact q4
  obtain ⟨vm₁, X₁, hstep₁⟩ := X.invokevirtual hexec hown hlink hnamed hmethM hstM hkP hkPi hy (a := b) (cell := cellB) hcell
    (fun z h => by rw [h] at hobj; cases hobj) hselP hmethM habM hkP hkPi (g := g) hg (argsL := argsL) (rest := rest) (hlen _ hsigM) hstack hdg
  rcases hK m meth c ⟨T.setVm vm₁, locs, cells, slots⟩ { g with stack := rest } (.invokevirtual index) mk (Value.ref b :: argsL).toArray X₁ hg hsize hdg hW (X₁.named hnamed) (hpre vm₁ X₁.warmed) with ⟨v, B, X', hpost, hsteps⟩ | ⟨q, B, X', hpost, hsteps⟩
  · exact Or.inl ⟨v, vm₁, B, X₁.warmed, X', hpost, fun target h => hstep₁ _ fun acts => by rw [doInvoke_state]; exact hsteps.trans h⟩
  · exact Or.inr ⟨q, vm₁, B, X₁.warmed, X', hpost, hstep₁ _ fun acts => by rw [doInvoke_state]; exact hsteps⟩
theorem vx_callS (X : Stand p l e R s m args below meth c T locs cells slots) (hexec : p.tables.exec = Jvm.exec) {own : String} {index : Nat} {y : MethodName} {bytes : ByteArray} {maxL : Nat} {ret : Option FieldType}
    (hown : s.vm.findClass own = some m.cls) (hlink : (Cond.methodLink own index y).before args s = true) (hstat : (Cond.static y).before args s = true) (hinit : (Cond.initialized y.cls).before args s = true)
    (hcode : (Cond.code y bytes maxL ret).before args s = true) (hy : y.cls ≠ "java/lang/invoke/MethodHandle" ∧ y.cls ≠ "java/lang/invoke/VarHandle")
    {W9 : Nat} {Pre : Pt → Array Value → Prop} {Post : Pt → Array Value → Option Value → Pt → Prop} {PostX : Pt → Array Value → Addr → Pt → Prop} (hK : vx_Back l R p e below s args y 3 W9 Pre Post PostX)
    {g : JFrame} (hg : g.method = m) (hsize : g.locals.size = c.maxLocals) {argsL rest : List Value} (hlen : ∀ sig, parseMethodDescriptor y.desc = some sig → argsL.length = sig.parameters.length)
    (hstack : g.stack = argsL.reverse ++ rest) (hW : 2 * g.monitorRoom + (rest.map fun v => v.category).sum ≤ W9) (hdg : decode c.code g.pc = .ok (.invokestatic index, 3))
    (hpre : ∀ vm₁, s.WarmedH vm₁ → Pre ⟨T.setVm vm₁, locs, cells, slots⟩ argsL.toArray) :
    (∃ (v : Option Value) (vm₁ : Vm) (B : Pt), s.WarmedH vm₁ ∧ Stand p l e R s m args below meth c B.U B.locs B.cells B.slots ∧ Post ⟨T.setVm vm₁, locs, cells, slots⟩ argsL.toArray v B ∧
      ∀ target, Steps p.tables e below (B.U.setTop { g with pc := g.pc + 3, stack := v.toList ++ rest }) target → Steps p.tables e below (T.setTop g) target) ∨
    (∃ (q : Addr) (vm₁ : Vm) (B : Pt), s.WarmedH vm₁ ∧ Stand p l e R s m args below meth c B.U B.locs B.cells B.slots ∧ PostX ⟨T.setVm vm₁, locs, cells, slots⟩ argsL.toArray q B ∧
      Steps p.tables e below (T.setTop g) ((B.U.setTop { g with stack := rest }).pushFrame (.throwing q))) := by
  obtain ⟨mk, hnamed⟩ := Cond.code_named hcode
  obtain ⟨methM, cM, hmethM, -, -, -, -, -, -, hsigM⟩ := Cond.code_spec hnamed hcode
  have hstatic : methM.isStatic = true := Cond.static_spec hnamed hmethM hstat
  obtain ⟨kP, hkP, -⟩ := className_of_methodNamed hnamed
  have hinitP : kP.init = .initialized := Cond.initialized_spec (findClass_of_methodNamed hnamed) hkP hinit
  obtain ⟨vm₁, X₁, hstep₁⟩ := X.invokestatic hexec hown hlink hnamed hmethM hstatic hkP hinitP hy (g := g) hg (argsL := argsL) (rest := rest) (hlen _ hsigM) hstack hdg
  rcases hK m meth c ⟨T.setVm vm₁, locs, cells, slots⟩ { g with stack := rest } (.invokestatic index) mk argsL.toArray X₁ hg hsize hdg hW (X₁.named hnamed) (hpre vm₁ X₁.warmed) with ⟨v, B, X', hpost, hsteps⟩ | ⟨q, B, X', hpost, hsteps⟩
  · exact Or.inl ⟨v, vm₁, B, X₁.warmed, X', hpost, fun target h => hstep₁ _ fun acts => by rw [doInvoke_state]; exact hsteps.trans h⟩
  · exact Or.inr ⟨q, vm₁, B, X₁.warmed, X', hpost, hstep₁ _ fun acts => by rw [doInvoke_state]; exact hsteps⟩
end Calls
theorem vx_cls {s : State} {T : State} {vm₁ : Vm} {E : String} {k : ClassId} (hW : s.WarmedH vm₁) (h : (T.setVm vm₁).vm.findClass E = some k) : s.vm.findClass E = some k := by
  have h1 : vm₁.findClass E = some k := h
  rw [hW.alike.findClass] at h1
  exact h1
/-- the method's frame g, with q thrown over it -/
def vx_W (p : Program) (l : Launch) (e : Env) (R : Room) (s : State) (m : MethodId) (args : Array Value) (below : List Frame) (meth : Method) (c : Code) (H : Heap) (locs : List Loc) (cells slots : Nat) (Q : State → Prop) (g : JFrame) (q : Addr) : Prop :=
  ∀ T : State, T.heap = H → Stand p l e R s m args below meth c T locs cells slots → ∃ t, Steps p.tables e below ((T.setTop g).pushFrame (.throwing q)) t ∧ Q t
def vx_Run (p : Program) (l : Launch) (e : Env) (R : Room) (s : State) (m : MethodId) (args : Array Value) (below : List Frame) (meth : Method) (c : Code) (H : Heap) (locs : List Loc) (cells slots mc ms : Nat) (g : JFrame) (rest : List Value) (Qa : State → Outcome → State → Prop) (XC : String → State → State → Prop) (free : Addr → Prop) : Prop :=
  ∀ T : State, T.heap = H → Stand p l e R s m args below meth c T locs cells slots →
    (∃ (v : Option Value) (st₀ t T' : State) (L : List Loc), st₀.heap = H ∧ Stand p l e R s m args below meth c T' (locs ++ L) (cells + mc) (slots + ms) ∧ (∀ q ∈ L, free q.base) ∧ T'.heap = t.heap ∧ T'.vm = t.vm ∧ Qa st₀ (.returned v) t ∧
      Goes p e below T g T' { g with pc := g.pc + 3, stack := v.toList ++ rest }) ∨
    (∃ (q : Addr) (st₀ t T' : State) (L : List Loc) (E : String) (ce : Cell), st₀.heap = H ∧ Stand p l e R s m args below meth c T' (locs ++ L) (cells + mc) (slots + ms) ∧ (∀ z ∈ L, free z.base) ∧ T'.heap = t.heap ∧ T'.vm = t.vm ∧ XC E st₀ t ∧ t.heap[q]? = some ce ∧ ce.vm = .none ∧ s.vm.findClass E = some ce.cls ∧
      Steps p.tables e below (T.setTop g) ((T'.setTop { g with stack := rest }).pushFrame (.throwing q)))
def vx_X {S : Type} (px : S → Prop) (B : String → S → State → Prop) (A : Nat → Prop) : String → State → State → Prop := fun E st t => ∃ u : S, px u ∧ B E u t ∧ va_F A st t
section Runs
variable {p : Program} {l : Launch} {e : Env} {R : Room} {s : State} {m : MethodId} {args : Array Value} {below : List Frame} {meth : Method} {c : Code} {H : Heap} {locs : List Loc} {cells slots : Nat}
variable {y : MethodName} {bytes cc : ByteArray} {maxL nL mc ms n index : Nat} {ret : Option FieldType} {ws : List Cond} {rm : Room} {Pc : Array Value → State → Prop} {Qc : Array Value → State → Outcome → State → Prop} {XC : String → State → State → Prop} {free : Addr → Prop} {Ts : List Cond} {own C : String} {b : Addr} {As rest : List Value} {g : JFrame}
theorem vx_callBack (cb : CallB R s args own index y bytes maxL ret ws rm mc ms n) (hM : vx_Met l y ws rm Pc Qc XC mc ms free) (hbl : FrameBlind Pc) : vx_Back l R p e below s args y 3 8 (PreOf R mc ms Pc) (PostOf Qc mc ms free) (vx_Post XC mc ms free) := by
  obtain ⟨hrc, hrs, hfr, hlo, hws, hcw, -, hini, -⟩ := cb
  exact vx_back (bytes := bytes) (maxL := maxL) (ret := ret) hM hbl hrc hrs hfr hlo hws hcw (fun a' U hW => word_at hW (Or.inl (by first | rfl | simp [Cond.onTables, Cond.keeps, Cond.steady])) hini)
theorem vx_runV (S : CallFix p m c cc nL s args Ts own) (hM : vx_Met l y ws rm Pc Qc XC mc ms free) (cw : CallW R s args own C index y bytes maxL ret ws rm mc ms n) (hp : PreV s H C b Pc As)
    (hg : g.method = m) (hn : As.length = n) (hsize : g.locals.size = nL) (hstack : g.stack = As.reverse ++ .ref b :: rest) (hW : 2 * g.monitorRoom + (rest.map fun v => v.category).sum ≤ 8) (hdg : decode cc g.pc = .ok (.invokevirtual index, 3)) (hf : cells + mc ≤ R.cells ∧ slots + ms ≤ R.slots) :
    vx_Run p l e R s m args below meth c H locs cells slots mc ms g rest (Qc (Value.ref b :: As).toArray) XC free := by
  have hK : vx_Back l R p e below s args y 3 8 (PreOf R mc ms Pc) (PostOf Qc mc ms free) (vx_Post XC mc ms free) := vx_callBack cw.1 hM hp.1
  obtain ⟨⟨-, -, -, -, -, -, hcode, -, hy, hlen, hl⟩, hin, hse⟩ := cw
  obtain ⟨hx, hb, hml, ho, -⟩ := S
  obtain ⟨-, ⟨cellB, hcB, hoB, hclB⟩, hPc⟩ := hp
  intro T hT X
  rcases vx_callV X hx (C := C) (bytes := bytes) (maxL := maxL) (ret := ret) ho hl hin hse hcode hy hK (by rw [hT]; exact hcB) hoB hclB hg (hsize.trans hml.symm) (argsL := As) (rest := rest) (fun sig h => hn.trans (hlen sig h)) hstack hW (by rw [hb]; exact hdg)
    (fun vm₁ hW₁ => ⟨hf.1, hf.2, hPc (T.setVm vm₁) hT hW₁⟩) with ⟨v, vm₁, ⟨U', l2, c2, s2⟩, hW₁, X', ⟨g', mk, t, L, e1, e2, hq, h1, hL, h2, h3⟩, st⟩ | ⟨q, vm₁, ⟨U', l2, c2, s2⟩, hW₁, X', ⟨g', mk, t, L, E, ce, e1, e2, hq, hce, hcv, hcl, h1, hL, h2, h3⟩, st⟩
  · dsimp only [Pt.U, Pt.locs, Pt.cells, Pt.slots] at X' e1 e2 h1 h2 h3 st
    subst h1; subst h2; subst h3
    exact Or.inl ⟨v, (T.setVm vm₁).calling g' mk (Value.ref b :: As).toArray, t, U', L, hT, X', hL, e1, e2, hq, st⟩
  · dsimp only [Pt.U, Pt.locs, Pt.cells, Pt.slots] at X' e1 e2 h1 h2 h3 st hcl
    subst h1; subst h2; subst h3
    exact Or.inr ⟨q, (T.setVm vm₁).calling g' mk (Value.ref b :: As).toArray, t, U', L, E, ce, hT, X', hL, e1, e2, hq, hce, hcv, vx_cls hW₁ hcl, st⟩
theorem vx_runS (S : CallFix p m c cc nL s args Ts own) (hM : vx_Met l y ws rm Pc Qc XC mc ms free) (cw : CallB R s args own index y bytes maxL ret ws rm mc ms n ∧ (Cond.static y).before args s = true) (hp : PreS s H Pc As)
    (hg : g.method = m) (hn : As.length = n) (hsize : g.locals.size = nL) (hstack : g.stack = As.reverse ++ rest) (hW : 2 * g.monitorRoom + (rest.map fun v => v.category).sum ≤ 8) (hdg : decode cc g.pc = .ok (.invokestatic index, 3)) (hf : cells + mc ≤ R.cells ∧ slots + ms ≤ R.slots) :
    vx_Run p l e R s m args below meth c H locs cells slots mc ms g rest (Qc As.toArray) XC free := by
  have hK : vx_Back l R p e below s args y 3 8 (PreOf R mc ms Pc) (PostOf Qc mc ms free) (vx_Post XC mc ms free) := vx_callBack cw.1 hM hp.1
  obtain ⟨⟨-, -, -, -, -, -, hcode, hini, hy, hlen, hl⟩, hstt⟩ := cw
  obtain ⟨hx, hb, hml, ho, -⟩ := S
  intro T hT X
  rcases vx_callS X hx (bytes := bytes) (maxL := maxL) (ret := ret) ho hl hstt hini hcode hy hK hg (hsize.trans hml.symm) (argsL := As) (rest := rest) (fun sig h => hn.trans (hlen sig h)) hstack hW (by rw [hb]; exact hdg)
    (fun vm₁ hW₁ => ⟨hf.1, hf.2, hp.2 (T.setVm vm₁) hT hW₁⟩) with ⟨v, vm₁, ⟨U', l2, c2, s2⟩, hW₁, X', ⟨g', mk, t, L, e1, e2, hq, h1, hL, h2, h3⟩, st⟩ | ⟨q, vm₁, ⟨U', l2, c2, s2⟩, hW₁, X', ⟨g', mk, t, L, E, ce, e1, e2, hq, hce, hcv, hcl, h1, hL, h2, h3⟩, st⟩
  · dsimp only [Pt.U, Pt.locs, Pt.cells, Pt.slots] at X' e1 e2 h1 h2 h3 st
    subst h1; subst h2; subst h3
    exact Or.inl ⟨v, (T.setVm vm₁).calling g' mk As.toArray, t, U', L, hT, X', hL, e1, e2, hq, st⟩
  · dsimp only [Pt.U, Pt.locs, Pt.cells, Pt.slots] at X' e1 e2 h1 h2 h3 st hcl
    subst h1; subst h2; subst h3
    exact Or.inr ⟨q, (T.setVm vm₁).calling g' mk As.toArray, t, U', L, E, ce, hT, X', hL, e1, e2, hq, hce, hcv, vx_cls hW₁ hcl, st⟩
end Runs
section Rows
variable {p : Program} {l : Launch} {e : Env} {R : Room} {s : State} {m : MethodId} {args : Array Value} {below : List Frame} {meth : Method} {c : Code} {H : Heap} {locs : List Loc} {cells slots : Nat} {Q : State → Prop}
variable {mc ms : Nat} {free : Addr → Prop} {A0 A1 : Nat → Prop} {H0 : Heap} {a : Array Value} {pc : Nat} {ls : Array Slot} {st0 rest : List Value}
theorem vx_keep {st₀ t T' : State} {L : List Loc} (h0 : st₀.heap = H) (e1 : T'.heap = t.heap) (hS : va_S A0 H0 H locs) (hA : ∀ q, q < H.size → A1 q → A0 q) (hf : ∀ q, free q → A0 q) (hL : ∀ q ∈ L, free q.base) (hF : va_F A1 st₀ t) :
    H.size ≤ T'.heap.size ∧ (∀ q : Nat, q < H.size → ¬ A1 q → T'.heap[q]? = H[q]?) ∧ va_S A0 H0 T'.heap (locs ++ L) := by
  obtain ⟨hz, hk⟩ := hF
  rw [h0] at hz hk
  exact ⟨by rw [e1]; exact hz, fun q h1 h2 => by rw [e1]; exact hk q h1 h2,
    ⟨Nat.le_trans hS.1 (by rw [e1]; exact hz), fun q h1 h2 => by rw [e1, hk q (Nat.lt_of_lt_of_le h1 hS.1) (fun z => h2 (hA q (Nat.lt_of_lt_of_le h1 hS.1) z))]; exact hS.2.1 q h1 h2, fun q hq => by
      rcases List.mem_append.mp hq with h | h
      · exact hS.2.2 q h
      · exact hf _ (hL q h)⟩⟩
theorem vx_calli {S SX : Type} {post : Int32 → S → Prop} {px : SX → Prop} {B : S → State → Prop} {BX : String → SX → State → Prop} {AX : Nat → Prop} (hr : vx_Run p l e R s m args below meth c H locs cells slots mc ms (F0 m pc ls st0) rest (va_Qi post B A1 a) (vx_X px BX AX) free) (hS : va_S A0 H0 H locs) (hA : ∀ q, q < H.size → A1 q → A0 q) (hf : ∀ q, free q → A0 q) (hAX : ∀ q, q < H.size → AX q → A0 q)
    (kx : ∀ (E : String) (ce : Cell) (q9 : Addr) (u : SX) (t : State) (H1 : Heap) (locs1 : List Loc), t.heap = H1 → s.vm.Alike t.vm → px u → BX E u t → H.size ≤ H1.size → (∀ q : Nat, q < H.size → ¬ AX q → H1[q]? = H[q]?) → va_S A0 H0 H1 locs1 → H1[q9]? = some ce → ce.vm = .none → s.vm.findClass E = some ce.cls → vx_W p l e R s m args below meth c H1 locs1 (cells + mc) (slots + ms) Q (F0 m pc ls rest) q9)
    (kk : ∀ (r : Int32) (u : S) (t : State) (H1 : Heap) (locs1 : List Loc), t.heap = H1 → s.vm.Alike t.vm → post r u → B u t → H.size ≤ H1.size → (∀ q : Nat, q < H.size → ¬ A1 q → H1[q]? = H[q]?) → va_S A0 H0 H1 locs1 → W p l e R s m args below meth c H1 locs1 (cells + mc) (slots + ms) Q (F0 m (pc + 3) ls (.int r :: rest))) : W p l e R s m args below meth c H locs cells slots Q (F0 m pc ls st0) := by
  intro T hT X
  rcases hr T hT X with ⟨v, st₀, t, T', L, h0, X', hL, e1, e2, ⟨⟨r, u, hv, hp, hb⟩, hF⟩, st⟩ | ⟨q, st₀, t, T', L, E, ce, h0, X', hL, e1, e2, ⟨u, hp, hb, hF⟩, hce, hcv, hcl, st⟩
  · cases hv
    obtain ⟨k1, k2, k3⟩ := vx_keep h0 e1 hS hA hf hL hF
    obtain ⟨t2, a1, b1⟩ := kk r u t T'.heap (locs ++ L) e1.symm (by rw [← e2]; exact X'.warmed.alike) hp hb k1 k2 k3 T' rfl X'
    exact ⟨t2, st t2 a1, b1⟩
  · obtain ⟨k1, k2, k3⟩ := vx_keep h0 e1 hS hAX hf hL hF
    obtain ⟨t2, a1, b1⟩ := kx E ce q u t T'.heap (locs ++ L) e1.symm (by rw [← e2]; exact X'.warmed.alike) hp hb k1 k2 k3 (by rw [e1]; exact hce) hcv hcl T' rfl X'
    exact ⟨t2, st.trans a1, b1⟩
theorem vx_calll {S SX : Type} {post : Int64 → S → Prop} {px : SX → Prop} {B : S → State → Prop} {BX : String → SX → State → Prop} {AX : Nat → Prop} (hr : vx_Run p l e R s m args below meth c H locs cells slots mc ms (F0 m pc ls st0) rest (va_Ql post B A1 a) (vx_X px BX AX) free) (hS : va_S A0 H0 H locs) (hA : ∀ q, q < H.size → A1 q → A0 q) (hf : ∀ q, free q → A0 q) (hAX : ∀ q, q < H.size → AX q → A0 q)
    (kx : ∀ (E : String) (ce : Cell) (q9 : Addr) (u : SX) (t : State) (H1 : Heap) (locs1 : List Loc), t.heap = H1 → s.vm.Alike t.vm → px u → BX E u t → H.size ≤ H1.size → (∀ q : Nat, q < H.size → ¬ AX q → H1[q]? = H[q]?) → va_S A0 H0 H1 locs1 → H1[q9]? = some ce → ce.vm = .none → s.vm.findClass E = some ce.cls → vx_W p l e R s m args below meth c H1 locs1 (cells + mc) (slots + ms) Q (F0 m pc ls rest) q9)
    (kk : ∀ (r : Int64) (u : S) (t : State) (H1 : Heap) (locs1 : List Loc), t.heap = H1 → s.vm.Alike t.vm → post r u → B u t → H.size ≤ H1.size → (∀ q : Nat, q < H.size → ¬ A1 q → H1[q]? = H[q]?) → va_S A0 H0 H1 locs1 → W p l e R s m args below meth c H1 locs1 (cells + mc) (slots + ms) Q (F0 m (pc + 3) ls (.long r :: rest))) : W p l e R s m args below meth c H locs cells slots Q (F0 m pc ls st0) := by
  intro T hT X
  rcases hr T hT X with ⟨v, st₀, t, T', L, h0, X', hL, e1, e2, ⟨⟨r, u, hv, hp, hb⟩, hF⟩, st⟩ | ⟨q, st₀, t, T', L, E, ce, h0, X', hL, e1, e2, ⟨u, hp, hb, hF⟩, hce, hcv, hcl, st⟩
  · cases hv
    obtain ⟨k1, k2, k3⟩ := vx_keep h0 e1 hS hA hf hL hF
    obtain ⟨t2, a1, b1⟩ := kk r u t T'.heap (locs ++ L) e1.symm (by rw [← e2]; exact X'.warmed.alike) hp hb k1 k2 k3 T' rfl X'
    exact ⟨t2, st t2 a1, b1⟩
  · obtain ⟨k1, k2, k3⟩ := vx_keep h0 e1 hS hAX hf hL hF
    obtain ⟨t2, a1, b1⟩ := kx E ce q u t T'.heap (locs ++ L) e1.symm (by rw [← e2]; exact X'.warmed.alike) hp hb k1 k2 k3 (by rw [e1]; exact hce) hcv hcl T' rfl X'
    exact ⟨t2, st.trans a1, b1⟩
theorem vx_callf {S SX : Type} {post : UInt32 → S → Prop} {px : SX → Prop} {B : S → State → Prop} {BX : String → SX → State → Prop} {AX : Nat → Prop} (hr : vx_Run p l e R s m args below meth c H locs cells slots mc ms (F0 m pc ls st0) rest (va_Qf post B A1 a) (vx_X px BX AX) free) (hS : va_S A0 H0 H locs) (hA : ∀ q, q < H.size → A1 q → A0 q) (hf : ∀ q, free q → A0 q) (hAX : ∀ q, q < H.size → AX q → A0 q)
    (kx : ∀ (E : String) (ce : Cell) (q9 : Addr) (u : SX) (t : State) (H1 : Heap) (locs1 : List Loc), t.heap = H1 → s.vm.Alike t.vm → px u → BX E u t → H.size ≤ H1.size → (∀ q : Nat, q < H.size → ¬ AX q → H1[q]? = H[q]?) → va_S A0 H0 H1 locs1 → H1[q9]? = some ce → ce.vm = .none → s.vm.findClass E = some ce.cls → vx_W p l e R s m args below meth c H1 locs1 (cells + mc) (slots + ms) Q (F0 m pc ls rest) q9)
    (kk : ∀ (r : UInt32) (u : S) (t : State) (H1 : Heap) (locs1 : List Loc), t.heap = H1 → s.vm.Alike t.vm → post r u → B u t → H.size ≤ H1.size → (∀ q : Nat, q < H.size → ¬ A1 q → H1[q]? = H[q]?) → va_S A0 H0 H1 locs1 → W p l e R s m args below meth c H1 locs1 (cells + mc) (slots + ms) Q (F0 m (pc + 3) ls (.float r :: rest))) : W p l e R s m args below meth c H locs cells slots Q (F0 m pc ls st0) := by
  intro T hT X
  rcases hr T hT X with ⟨v, st₀, t, T', L, h0, X', hL, e1, e2, ⟨⟨r, u, hv, hp, hb⟩, hF⟩, st⟩ | ⟨q, st₀, t, T', L, E, ce, h0, X', hL, e1, e2, ⟨u, hp, hb, hF⟩, hce, hcv, hcl, st⟩
  · cases hv
    obtain ⟨k1, k2, k3⟩ := vx_keep h0 e1 hS hA hf hL hF
    obtain ⟨t2, a1, b1⟩ := kk r u t T'.heap (locs ++ L) e1.symm (by rw [← e2]; exact X'.warmed.alike) hp hb k1 k2 k3 T' rfl X'
    exact ⟨t2, st t2 a1, b1⟩
  · obtain ⟨k1, k2, k3⟩ := vx_keep h0 e1 hS hAX hf hL hF
    obtain ⟨t2, a1, b1⟩ := kx E ce q u t T'.heap (locs ++ L) e1.symm (by rw [← e2]; exact X'.warmed.alike) hp hb k1 k2 k3 (by rw [e1]; exact hce) hcv hcl T' rfl X'
    exact ⟨t2, st.trans a1, b1⟩
theorem vx_calld {S SX : Type} {post : UInt64 → S → Prop} {px : SX → Prop} {B : S → State → Prop} {BX : String → SX → State → Prop} {AX : Nat → Prop} (hr : vx_Run p l e R s m args below meth c H locs cells slots mc ms (F0 m pc ls st0) rest (va_Qd post B A1 a) (vx_X px BX AX) free) (hS : va_S A0 H0 H locs) (hA : ∀ q, q < H.size → A1 q → A0 q) (hf : ∀ q, free q → A0 q) (hAX : ∀ q, q < H.size → AX q → A0 q)
    (kx : ∀ (E : String) (ce : Cell) (q9 : Addr) (u : SX) (t : State) (H1 : Heap) (locs1 : List Loc), t.heap = H1 → s.vm.Alike t.vm → px u → BX E u t → H.size ≤ H1.size → (∀ q : Nat, q < H.size → ¬ AX q → H1[q]? = H[q]?) → va_S A0 H0 H1 locs1 → H1[q9]? = some ce → ce.vm = .none → s.vm.findClass E = some ce.cls → vx_W p l e R s m args below meth c H1 locs1 (cells + mc) (slots + ms) Q (F0 m pc ls rest) q9)
    (kk : ∀ (r : UInt64) (u : S) (t : State) (H1 : Heap) (locs1 : List Loc), t.heap = H1 → s.vm.Alike t.vm → post r u → B u t → H.size ≤ H1.size → (∀ q : Nat, q < H.size → ¬ A1 q → H1[q]? = H[q]?) → va_S A0 H0 H1 locs1 → W p l e R s m args below meth c H1 locs1 (cells + mc) (slots + ms) Q (F0 m (pc + 3) ls (.double r :: rest))) : W p l e R s m args below meth c H locs cells slots Q (F0 m pc ls st0) := by
  intro T hT X
  rcases hr T hT X with ⟨v, st₀, t, T', L, h0, X', hL, e1, e2, ⟨⟨r, u, hv, hp, hb⟩, hF⟩, st⟩ | ⟨q, st₀, t, T', L, E, ce, h0, X', hL, e1, e2, ⟨u, hp, hb, hF⟩, hce, hcv, hcl, st⟩
  · cases hv
    obtain ⟨k1, k2, k3⟩ := vx_keep h0 e1 hS hA hf hL hF
    obtain ⟨t2, a1, b1⟩ := kk r u t T'.heap (locs ++ L) e1.symm (by rw [← e2]; exact X'.warmed.alike) hp hb k1 k2 k3 T' rfl X'
    exact ⟨t2, st t2 a1, b1⟩
  · obtain ⟨k1, k2, k3⟩ := vx_keep h0 e1 hS hAX hf hL hF
    obtain ⟨t2, a1, b1⟩ := kx E ce q u t T'.heap (locs ++ L) e1.symm (by rw [← e2]; exact X'.warmed.alike) hp hb k1 k2 k3 (by rw [e1]; exact hce) hcv hcl T' rfl X'
    exact ⟨t2, st.trans a1, b1⟩
theorem vx_callv {S SX : Type} {post : S → Prop} {px : SX → Prop} {B : S → State → Prop} {BX : String → SX → State → Prop} {AX : Nat → Prop} (hr : vx_Run p l e R s m args below meth c H locs cells slots mc ms (F0 m pc ls st0) rest (va_Qv post B A1 a) (vx_X px BX AX) free) (hS : va_S A0 H0 H locs) (hA : ∀ q, q < H.size → A1 q → A0 q) (hf : ∀ q, free q → A0 q) (hAX : ∀ q, q < H.size → AX q → A0 q)
    (kx : ∀ (E : String) (ce : Cell) (q9 : Addr) (u : SX) (t : State) (H1 : Heap) (locs1 : List Loc), t.heap = H1 → s.vm.Alike t.vm → px u → BX E u t → H.size ≤ H1.size → (∀ q : Nat, q < H.size → ¬ AX q → H1[q]? = H[q]?) → va_S A0 H0 H1 locs1 → H1[q9]? = some ce → ce.vm = .none → s.vm.findClass E = some ce.cls → vx_W p l e R s m args below meth c H1 locs1 (cells + mc) (slots + ms) Q (F0 m pc ls rest) q9)
    (kk : ∀ (u : S) (t : State) (H1 : Heap) (locs1 : List Loc), t.heap = H1 → s.vm.Alike t.vm → post u → B u t → H.size ≤ H1.size → (∀ q : Nat, q < H.size → ¬ A1 q → H1[q]? = H[q]?) → va_S A0 H0 H1 locs1 → W p l e R s m args below meth c H1 locs1 (cells + mc) (slots + ms) Q (F0 m (pc + 3) ls (rest))) : W p l e R s m args below meth c H locs cells slots Q (F0 m pc ls st0) := by
  intro T hT X
  rcases hr T hT X with ⟨v, st₀, t, T', L, h0, X', hL, e1, e2, ⟨⟨u, hv, hp, hb⟩, hF⟩, st⟩ | ⟨q, st₀, t, T', L, E, ce, h0, X', hL, e1, e2, ⟨u, hp, hb, hF⟩, hce, hcv, hcl, st⟩
  · cases hv
    obtain ⟨k1, k2, k3⟩ := vx_keep h0 e1 hS hA hf hL hF
    obtain ⟨t2, a1, b1⟩ := kk u t T'.heap (locs ++ L) e1.symm (by rw [← e2]; exact X'.warmed.alike) hp hb k1 k2 k3 T' rfl X'
    exact ⟨t2, st t2 a1, b1⟩
  · obtain ⟨k1, k2, k3⟩ := vx_keep h0 e1 hS hAX hf hL hF
    obtain ⟨t2, a1, b1⟩ := kx E ce q u t T'.heap (locs ++ L) e1.symm (by rw [← e2]; exact X'.warmed.alike) hp hb k1 k2 k3 (by rw [e1]; exact hce) hcv hcl T' rfl X'
    exact ⟨t2, st.trans a1, b1⟩
/-- caught by the row x of this method's table; the rows ahead don't take it -/
theorem vx_catch {own name : String} {E : String} {ce : Cell} {q : Addr} (hown : s.vm.findClass own = some m.cls) (pre : List ExceptionTableEntry) (x : ExceptionTableEntry) (suf : List ExceptionTableEntry) (hsplit : c.exceptionTable.toList = pre ++ x :: suf)
    (hpass : ∀ z ∈ pre, covers z pc = false ∨ (z.catchType ≠ 0 ∧ ∃ nm : String, (Cond.classLink own z.catchType nm).before args s = true ∧ va_Nc E nm s)) (hx : covers x pc = true) (h0 : x.catchType ≠ 0)
    (hlink : (Cond.classLink own x.catchType name).before args s = true) (hcast : (Cond.castable E name).before args s = true) (hcell : H[q]? = some ce) (hv : ce.vm = .none) (hcl : s.vm.findClass E = some ce.cls)
    (kk : W p l e R s m args below meth c H locs cells slots Q (F0 m x.handlerPc ls [.ref q])) : vx_W p l e R s m args below meth c H locs cells slots Q (F0 m pc ls rest) q := by
  intro T hT X
  have hpl : e.platform.magicAccessors = ({} : Platform).magicAccessors := by rw [X.admits.platform]
  obtain ⟨c3, c4, hc3, hc4, hasg⟩ := Cond.castable_spec hcast
  cases Option.some.inj (hc3.symm.trans hcl)
  obtain ⟨c5, hc5, hcl5⟩ := Cond.classLink_spec hown hlink e.platform hpl
  cases Option.some.inj (hc4.symm.trans hc5)
  obtain ⟨vm', X', st⟩ := X.thenCaughtThrough q (g := F0 m pc ls rest) rfl (Steps.refl _) (by rw [hT]; exact hcell) (by rw [hv]; rfl) (by obtain ⟨k9, h9, -⟩ := Vm.findClass_spec hcl; exact ⟨k9, h9⟩) pre x suf hsplit
    (fun z hz => by
      rcases hpass z hz with h | ⟨hz0, nm, hl1, hn1⟩
      · exact Or.inl h
      · obtain ⟨c6, hc6, hcl6⟩ := Cond.classLink_spec hown hl1 e.platform hpl
        obtain ⟨a8, b8, h1, h2, h3⟩ := hn1
        cases Option.some.inj (h1.symm.trans hcl)
        cases Option.some.inj (h2.symm.trans hc6)
        exact Or.inr ⟨hz0, _, hcl6, h3⟩) hx (Or.inr ⟨h0, c4, hcl5, hasg⟩)
  obtain ⟨t, a1, b1⟩ := kk (T.setVm vm') hT X'
  exact ⟨t, st.trans a1, b1⟩
end Rows
section Ends
variable {p : Program} {l : Launch} {e : Env} {R : Room} {s : State} {m : MethodId} {args : Array Value} {below : List Frame} {meth : Method} {c : Code} {H : Heap} {locs : List Loc} {cells slots : Nat} {Q : State → Prop}
variable {mc ms : Nat} {free : Addr → Prop} {A0 A1 : Nat → Prop} {H0 : Heap} {a : Array Value} {ls : Array Slot} {st0 rest : List Value}
variable {Qc : Array Value → State → Outcome → State → Prop} {XC : String → State → State → Prop}
/-- what a body that may throw owes at its end -/
def vx_MQ (below : List Frame) (Qc : Array Value → State → Outcome → State → Prop) (XC : String → State → State → Prop) (a : Array Value) (s : State) (mc ms : Nat) (free : Addr → Prop) : State → Prop := fun t =>
  ∃ o, t.status = .running ∧ Ended t below o ∧ vx_Q Qc XC mc ms free a s o t
theorem vx_ret {g : JFrame} {mc ms : Nat} (k : W p l e R s m args below meth c H locs cells slots (MQ below Qc args s mc ms free) g) : W p l e R s m args below meth c H locs cells slots (vx_MQ below Qc XC args s mc ms free) g := by
  intro T hT X
  obtain ⟨t, a1, o, b1, b2, b3, b4⟩ := k T hT X
  exact ⟨t, a1, o, b1, b2, Or.inl ⟨b3, b4⟩⟩
/-- not caught here: it goes on to the caller -/
theorem vx_widen {g : JFrame} {q : Addr} {k n : Nat} (h1 : cells ≤ k) (h2 : slots ≤ n) (kk : vx_W p l e R s m args below meth c H locs k n Q g q) : vx_W p l e R s m args below meth c H locs cells slots Q g q := fun T hT X => kk T hT (stand_widen X h1 h2)
theorem vx_out {pc : Nat} {E : String} {ce : Cell} {q : Addr} {mc ms : Nat} (hout : ∀ x ∈ c.exceptionTable.toList, covers x pc = false) (hlocks : meth.locks = false) (hcell : H[q]? = some ce) (hv : ce.vm = .none) (hcl : s.vm.findClass E = some ce.cls)
    (hx : ∀ t : State, t.heap = H → s.vm.Alike t.vm → XC E s t) (hf : ∀ z ∈ locs, free z.base) (hc : cells ≤ mc) (hs : slots ≤ ms) :
    vx_W p l e R s m args below meth c H locs cells slots (vx_MQ below Qc XC args s mc ms free) (F0 m pc ls rest) q := by
  intro T hT X
  obtain ⟨st1, hrun, hend, hW, hsm⟩ := X.leaveThrown q (g := F0 m pc ls rest) rfl rfl rfl hout hlocks
  have hcell9 : (T.setFrames (.throwing q :: below)).heap[q]? = some ce := by
    show T.heap[q]? = some ce
    rw [hT]; exact hcell
  exact ⟨_, st1, .threw q, hrun, hend, Or.inr ⟨q, rfl, E, ce, locs, hx _ hT hW.alike, hcell9, hv, hcl, hW, hsm.mono hc hs, hf⟩⟩
theorem vx_frame {U : State} {k n : Nat} (h : s.sameButNew ({ U with vm := s.vm } : State) locs k n) : s.heap.size ≤ U.heap.size ∧ ∀ q : Nat, q < s.heap.size → (∀ z ∈ locs, z.base ≠ q) → U.heap[q]? = s.heap[q]? := by
  obtain ⟨-, h2, -, -, -, h6⟩ := h
  refine ⟨h2, fun q hq hz => ?_⟩
  obtain ⟨c9, e1, e2, e3, e4⟩ := h6 q _ (Array.getElem?_eq_getElem hq)
  have hs : c9.slots = (s.heap[q]).slots := Array.ext_getElem? fun i => e4 i fun hm => hz _ hm rfl
  have h9 : c9 = s.heap[q] := by
    rw [hs] at e2
    exact e2
  have e5 : U.heap[q]? = some c9 := e1
  rw [e5, h9, Array.getElem?_eq_getElem hq]
/-- the words of a throw but the four that speak of the heap -/
def vx_no (w : Cond) : Bool := decide (w ≠ .isRef (.static Bundle.tN "UNASSIGNED_STACK" Bundle.steD)) && decide (w ≠ .isRef (.static Bundle.tN "SUPPRESSED_SENTINEL" Bundle.listD)) && decide (w ≠ .laysStatic Bundle.tN "UNASSIGNED_STACK" Bundle.steD) && decide (w ≠ .laysStatic Bundle.tN "SUPPRESSED_SENTINEL" Bundle.listD)
def vx_at0 (own : String) (ic : Nat) (X : String) (names : List String) : List Cond := (Bundle.ownAtoms0 own ic X names).filter vx_no
def vx_atS (own : String) (ic : Nat) (X : String) (names : List String) : List Cond := (Bundle.ownAtoms own ic X names).filter vx_no
/-- a word that the tables alone decide, or a good one -/
def vx_ot (w : Cond) : Bool := w.onTables || goodWord w
theorem vx_ot_at {args a' : Array Value} {s U : State} {w : Cond} (hW : s.WarmedH U.vm) (hvm : s.vm = U.vm) (hg : vx_ot w = true) (h : w.before args s = true) : w.before a' U = true := by
  simp only [vx_ot, Bool.or_eq_true] at hg
  rcases hg with hg | hg
  · exact va_tabs hg hvm h
  · exact word_at hW (good_of_word hg) h
/-- a list's words: the good ones out of the method's own list, the others by premises of their own -/
theorem vx_hat {args : Array Value} {s : State} {L B : List Cond} (h1 : ∀ w ∈ L.filter goodWord, w.before args s = true) (h2 : ∀ w ∈ L.filter (fun w => !goodWord w), w ∈ B) (h3 : ∀ w ∈ B, w.before args s = true) : ∀ w ∈ L, w.before args s = true := by
  intro w hw
  by_cases g : goodWord w = true
  · exact h1 w (List.mem_filter.mpr ⟨hw, g⟩)
  · refine h3 w (h2 w (List.mem_filter.mpr ⟨hw, ?_⟩))
    show (!goodWord w) = true
    cases hgw : goodWord w
    · rfl
    · exact absurd hgw g
theorem vx_c {args : Array Value} {s : State} {w : Cond} {B : List Cond} (h : w.before args s = true) (t : ∀ w ∈ B, w.before args s = true) : ∀ w' ∈ w :: B, w'.before args s = true := fun w' h' => (List.mem_cons.mp h').elim (fun e => by rw [e]; exact h) (t w')
theorem vx_n {args : Array Value} {s : State} : ∀ w ∈ ([] : List Cond), w.before args s = true := fun _ h => nomatch h
theorem vx_own {args : Array Value} {s : State} {L : List Cond} (h1 : ∀ w ∈ L.filter vx_no, w.before args s = true)
    (hU : (Cond.isRef (.static Bundle.tN "UNASSIGNED_STACK" Bundle.steD)).before args s = true) (hN : (Cond.isRef (.static Bundle.tN "SUPPRESSED_SENTINEL" Bundle.listD)).before args s = true)
    (lU : (Cond.laysStatic Bundle.tN "UNASSIGNED_STACK" Bundle.steD).before args s = true) (lN : (Cond.laysStatic Bundle.tN "SUPPRESSED_SENTINEL" Bundle.listD).before args s = true) : ∀ w ∈ L, w.before args s = true := by
  intro w hw
  by_cases e1 : w = .isRef (.static Bundle.tN "UNASSIGNED_STACK" Bundle.steD)
  · rw [e1]; exact hU
  · by_cases e2 : w = .isRef (.static Bundle.tN "SUPPRESSED_SENTINEL" Bundle.listD)
    · rw [e2]; exact hN
    · by_cases e3 : w = .laysStatic Bundle.tN "UNASSIGNED_STACK" Bundle.steD
      · rw [e3]; exact lU
      · by_cases e4 : w = .laysStatic Bundle.tN "SUPPRESSED_SENTINEL" Bundle.listD
        · rw [e4]; exact lN
        · exact h1 w (List.mem_filter.mpr ⟨hw, by unfold vx_no; rw [decide_eq_true e1, decide_eq_true e2, decide_eq_true e3, decide_eq_true e4]; rfl⟩)
/-- where a static field lies, its class's statics cell in H -/
def vx_L (C n d : String) (A : Nat → Prop) (U : State) (H : Heap) : Prop := ∃ (c : ClassId) (k : Class) (i : Nat) (f : Field) (a : Nat) (cell : Cell), U.vm.findClass C = some c ∧ U.fieldFound? C n d = some (c, k, i, f) ∧ f.isStatic = true ∧ k.statics = some a ∧ H[a]? = some cell ∧ cell.vm.isStatics = true ∧ cell.cls = c ∧ f.slot < cell.slots.size ∧ k.staticTypes[f.slot]? = some f.type ∧ ¬ A a
theorem vx_L.moved {C n d : String} {A : Nat → Prop} {u U : State} {H : Heap} (hvm : u.vm.Alike U.vm) (h : vx_L C n d A u H) : vx_L C n d A U H := by
  obtain ⟨c, k, i, f, a, cell, h1, h2, h3, h4, h5, h6, h7, h8, h9, h10⟩ := h
  obtain ⟨k', hi', he⟩ := State.fieldFound?_setVm hvm h2
  exact ⟨c, k', i, f, a, cell, by rw [hvm.findClass]; exact h1, hi', h3, by rw [he]; exact h4, h5, h6, h7, h8, by rw [he]; exact h9, h10⟩
theorem vx_L.kept {C n d : String} {A : Nat → Prop} {U : State} {H H1 : Heap} (h : vx_L C n d A U H) (hq : ∀ a : Nat, a < H.size → ¬ A a → H1[a]? = H[a]?) : vx_L C n d A U H1 := by
  obtain ⟨c, k, i, f, a, cell, h1, h2, h3, h4, h5, h6, h7, h8, h9, h10⟩ := h
  exact ⟨c, k, i, f, a, cell, h1, h2, h3, h4, by rw [hq a (Array.getElem?_eq_some_iff.mp h5).1 h10]; exact h5, h6, h7, h8, h9, h10⟩
theorem vx_L.narrow {C n d : String} {A B : Nat → Prop} {U : State} {H : Heap} (h : vx_L C n d A U H) (hAB : ∀ q, B q → A q) : vx_L C n d B U H := by
  obtain ⟨c, k, i, f, a, cell, h1, h2, h3, h4, h5, h6, h7, h8, h9, h10⟩ := h
  exact ⟨c, k, i, f, a, cell, h1, h2, h3, h4, h5, h6, h7, h8, h9, fun z => h10 (hAB _ z)⟩
theorem vx_L.word {C n d : String} {A : Nat → Prop} {s : State} {args : Array Value} (h : vx_L C n d A s s.heap) : (Cond.laysStatic C n d).before args s = true := by
  obtain ⟨c, k, i, f, a, cell, h1, h2, h3, h4, h5, h6, h7, h8, h9, -⟩ := h
  show (Cond.laysStatic C n d).holds args s none s [] = true
  exact Cond.laysStatic_of h1 h2 h3 h4 h5 h6 h7 h8 h9
/-- .. and what it holds: null or some reference -/
def vx_Zq (C n d : String) (A : Nat → Prop) (U : State) (H : Heap) : Prop := va_Zq C n d A U H ∧ vx_L C n d A U H
theorem vx_Zq.moved {C n d : String} {A : Nat → Prop} {u U : State} {H : Heap} (hvm : u.vm.Alike U.vm) (h : vx_Zq C n d A u H) : vx_Zq C n d A U H := ⟨va_Zq.moved hvm h.1, vx_L.moved hvm h.2⟩
theorem vx_Zq.kept {C n d : String} {A : Nat → Prop} {U : State} {H H1 : Heap} (h : vx_Zq C n d A U H) (hq : ∀ a : Nat, a < H.size → ¬ A a → H1[a]? = H[a]?) : vx_Zq C n d A U H1 := ⟨va_Zq.kept h.1 hq, vx_L.kept h.2 hq⟩
theorem vx_Zq.narrow {C n d : String} {A B : Nat → Prop} {U : State} {H : Heap} (h : vx_Zq C n d A U H) (hAB : ∀ q, B q → A q) : vx_Zq C n d B U H := ⟨va_Zq.narrow h.1 hAB, vx_L.narrow h.2 hAB⟩
theorem vx_Zqof {args : Array Value} {s : State} {C n d : String} {A : Nat → Prop} (hl : (Cond.laysStatic C n d).before args s = true) (hini : (Cond.initialized C).before args s = true) (h : (Cond.isRef (.static C n d)).before args s = true) (hA : ∀ a : Nat, a < s.heap.size → ¬ A a) : vx_Zq C n d A s s.heap := by
  refine ⟨va_Zqof hl hini h hA, ?_⟩
  obtain ⟨c, k, i, f, a, cell, h1, h2, h3, h4, h5, h6, h7, h8, h9⟩ := Cond.laysStatic_spec hl
  exact ⟨c, k, i, f, a, cell, h1, h2, h3, h4, h5, h6, h7, h8, h9, hA a (Array.getElem?_eq_some_iff.mp h5).1⟩
theorem vx_isRef {C n d : String} {v : Value} {A : Nat → Prop} {s : State} {args : Array Value} (h : va_Z C n d v A s s.heap) (hv : v.isRef = true) : (Cond.isRef (.static C n d)).before args s = true := by
  obtain ⟨cf, kf, fi, f, a, cell, h1, h2, h3, h4, h5, h6, h7, -⟩ := h
  have he : (Term.static C n d).eval args s none [] s = some v := by
    simp [Term.eval, State.fieldNamed?, h1, h2, h4, h5, h6, h7]
  simp only [Cond.before, Cond.holds, Cond.value, he]
  cases v <;> simp_all [Value.isRef]
theorem vx_isRefq {C n d : String} {A : Nat → Prop} {s : State} {args : Array Value} (h : va_Zq C n d A s s.heap) : (Cond.isRef (.static C n d)).before args s = true := by
  rcases h with h | ⟨t, h⟩
  · exact vx_isRef h rfl
  · exact vx_isRef h rfl
/-- the same frame, seen from here: as if the method were called anew in this heap -/
theorem vx_rebase {T : State} (X : Stand p l e R s m args below meth c T locs cells slots) {R' : Room} (hf : R'.frames ≤ R.frames) (hl : R'.locals ≤ R.locals) (hc : cells + R'.cells ≤ R.cells) (hs : slots + R'.slots ≤ R.slots) :
    Stand p l e R' ((T.setVm s.vm).setFrames (.invoking m args :: below)) m args below meth c T [] 0 0 := by
  have htop : (T.setVm s.vm).topJava?.isSome := X.here.top
  have hF : ((T.setVm s.vm).setFrames (.invoking m args :: below)).frames = .invoking m args :: below := State.frames_setFrames _ (State.cur_lt_of_top htop)
  obtain ⟨g₀, hg0⟩ := Option.isSome_iff_exists.mp htop
  obtain ⟨r, hr⟩ := State.topJava?_eq_some.mp hg0
  have hl9 : e.platform.stackLimits (T.setVm s.vm).me = e.platform.stackLimits s.me := X.limits
  have hb9 : (T.setVm s.vm).me.stackBytes = s.me.stackBytes := X.bytes
  refine ⟨X.admits, X.cas, X.clock, hF, ?_, X.hears, X.method, X.code, X.here, X.tail, X.warmed, ?_, ?_, ?_⟩
  · have h := X.room
    have hU : ((T.setVm s.vm).setFrames (.invoking m args :: below)).localsInUse = s.localsInUse := by
      rw [State.localsInUse_invoking hF (meth := meth) (c := c) X.method X.code, State.localsInUse_invoking X.frames X.method X.code]
    simp only [State.hasRoom, Bool.and_eq_true, decide_eq_true_eq] at h ⊢
    obtain ⟨⟨⟨⟨h1, h2, h3, h4, h5, h6⟩, h7⟩, h8⟩, h9⟩ := h
    rw [X.frames, List.length_cons] at h2 h3
    have q1 := X.heapSize
    have q2 := X.used
    simp only [hF, hU, List.length_cons, State.stackLimits_setFrames, State.stackBytes_setFrames, hl9, hb9]
    refine ⟨⟨⟨⟨by omega, by omega, by omega, by omega, by omega, h6⟩, ?_⟩, ?_⟩, X.book⟩
    · show T.heap.size + R'.cells ≤ e.platform.maxCells
      omega
    · show T.slotsUsed + R'.slots ≤ e.platform.maxSlots
      omega
  · rw [State.stackLimits_setFrames]; rfl
  · rw [State.stackBytes_setFrames]; rfl
  · refine ⟨?_, Nat.le_refl _, Nat.le_refl _, ?_, ?_, fun a c9 h9 => ⟨c9, h9, rfl, rfl, fun _ _ => rfl⟩⟩
    · obtain ⟨t, ht, -⟩ := State.frames_cons hr
      show T.setVm s.vm = { ((T.setVm s.vm).setFrames (.invoking m args :: below)).setFrames (T.setVm s.vm).frames with heap := T.heap, slotsUsed := T.slotsUsed }
      rw [State.setFrames_setFrames, State.setFrames_self ht]
      rfl
    · show T.slotsUsed = T.slotsUsed + ((T.heap.toList.drop T.heap.size).map (·.slots.size)).sum
      rw [List.drop_eq_nil_of_le (Nat.le_of_eq Array.length_toList)]
      rfl
    · show ((T.heap.toList.drop T.heap.size).map (·.slots.size)).sum ≤ 0
      rw [List.drop_eq_nil_of_le (Nat.le_of_eq Array.length_toList)]
      exact Nat.le_refl _
/-- 'throw new E()': new; dup; invokespecial; athrow -/
theorem vx_throw0 {cc : ByteArray} {pc : Nat} (hexec : p.tables.exec = Jvm.exec) (hb : c.code = cc) (hl : l.stackTraces = false) {own cls : String} {names : List String} {ik ic mc ms : Nat} {A : Nat → Prop}
    (hown : s.vm.findClass own = some m.cls) (hcls : Bundle.fit cls = true) (hnames : ∀ n ∈ names, Bundle.fit n = true)
    (hk : (Cond.classLink own ik cls).before args s = true) (hini : (Cond.initialized cls).before args s = true) (hat : ∀ w ∈ vx_at0 own ic cls names, w.before args s = true)
    (hgood : ∀ w ∈ Cond.classLink own ik cls :: Cond.initialized cls :: vx_at0 own ic cls names, vx_ot w = true)
    (hU : vx_Zq Bundle.tN "UNASSIGNED_STACK" Bundle.steD A s s.heap) (hN : vx_Zq Bundle.tN "SUPPRESSED_SENTINEL" Bundle.listD A s s.heap) (hS : va_S A s.heap H locs) (hsize : ls.size = c.maxLocals)
    (d0 : decode cc pc = .ok (.new ik, 3)) (d3 : decode cc (pc + 3) = .ok (.dup, 1)) (d4 : decode cc (pc + 4) = .ok (.invokespecial ic, 3)) (d7 : decode cc (pc + 7) = .ok (.athrow, 1))
    (hout : ∀ x ∈ c.exceptionTable.toList, covers x (pc + 7) = false)
    (hRframes : names.length + 3 < R.frames) (hRlocals : (rest.map fun v => v.category).sum + (13 * (names.length + 1) + 42) ≤ R.locals) (hRcells : cells + 1 ≤ R.cells) (hRslots : slots + 6 ≤ R.slots) (hlocks : meth.locks = false)
    (hx : ∀ t : State, s.vm.Alike t.vm → H.size ≤ t.heap.size → (∀ q : Nat, q < H.size → t.heap[q]? = H[q]?) → XC cls s t)
    (hf : ∀ z ∈ locs, free z.base) (hc : cells + 1 ≤ mc) (hs : slots + 6 ≤ ms) :
    W p l e R s m args below meth c H locs cells slots (vx_MQ below Qc XC args s mc ms free) (F0 m pc ls rest) := by
  intro T hT X
  have htr : e.platform.stackTraces = false := (show e.platform.stackTraces = l.stackTraces by rw [X.admits.platform]).trans hl
  have Y := vx_rebase X (R' := { frames := R.frames, locals := R.locals, cells := 1, slots := 6 }) (Nat.le_refl _) (Nat.le_refl _) hRcells hRslots
  obtain ⟨s', hA⟩ : ∃ z, z = (T.setVm s.vm).setFrames (.invoking m args :: below) := ⟨_, rfl⟩
  rw [← hA] at Y
  have hvm : s'.vm = s.vm := by rw [hA]; rfl
  have hhp : s'.heap = H := by rw [hA]; exact hT
  have hW0 : s.WarmedH s'.vm := by rw [hvm]; exact State.WarmedH.refl s
  have hat' : ∀ w ∈ vx_at0 own ic cls names, w.before args s' = true := fun w hw => vx_ot_at hW0 hvm.symm (hgood w (List.mem_cons_of_mem _ (List.mem_cons_of_mem _ hw))) (hat w hw)
  have hk' : (Cond.classLink own ik cls).before args s' = true := vx_ot_at hW0 hvm.symm (hgood _ List.mem_cons_self) hk
  have hini' : (Cond.initialized cls).before args s' = true := vx_ot_at hW0 hvm.symm (hgood _ (List.mem_cons_of_mem _ List.mem_cons_self)) hini
  have hU' : vx_Zq Bundle.tN "UNASSIGNED_STACK" Bundle.steD A s' s'.heap := by rw [hhp]; exact vx_Zq.moved hW0.alike (hU.kept hS.2.1)
  have hN' : vx_Zq Bundle.tN "SUPPRESSED_SENTINEL" Bundle.listD A s' s'.heap := by rw [hhp]; exact vx_Zq.moved hW0.alike (hN.kept hS.2.1)
  have h : ∀ w ∈ Bundle.ownAtoms0 own ic cls names, w.before args s' = true := vx_own hat' (vx_isRefq hU'.1) (vx_isRefq hN'.1) hU'.2.word hN'.2.word
  have hown' : s'.vm.findClass own = some m.cls := by rw [hvm]; exact hown
  have hins : (Cond.instantiable cls 6).before args s' = true := h _ (by simp [Bundle.ownAtoms0])
  obtain ⟨vm₁, cX, kX, hfX, hkX, -, -, X₁, st1⟩ := Y.newCold hexec (own := own) (C := cls) (index := ik) (n := 6) hown' hk' hins hini'
    (g := F0 m pc ls rest) rfl (by rw [hb]; exact d0) (Nat.le_refl _) (Nat.le_refl _)
  generalize hT1 : (T.setVm vm₁).pushCell { cls := cX, slots := kX.instanceTypes.map defaultValue, vm := .none } = T1 at X₁ st1
  have hcat : (Value.ref T.heap.size).category = 1 := rfl
  have hcellA : T1.heap[T.heap.size]? = some (freshCell cX kX) := by rw [← hT1]; exact State.heap_pushCell_size _ _
  have d3' : decode c.code (pc + 3) = .ok (.dup, 1) := by rw [hb]; exact d3
  obtain ⟨U, hsteps, hrun, hend, hW, hsame, ce, hce, hO⟩ := X₁.ctorThrow0 hexec htr (own := own) (cls := cls) (names := names) (ic := ic) hown' hcls hnames h (fun x hx => nomatch hx) hfX hkX hcellA (by rw [hhp, hT]; exact Nat.le_refl _)
    (g := { method := m, pc := pc + 4, locals := ls, stack := .ref T.heap.size :: .ref T.heap.size :: rest, locked := none }) rfl hsize rfl rfl (rest := rest) rfl
    (by rw [hb]; exact d4) (by rw [hb]; exact d7) hout hRframes (by simp only [List.map_cons, List.sum_cons, hcat]; omega) hlocks
  obtain ⟨f1, f2⟩ := vx_frame hsame
  rw [hhp] at f1 f2
  have hWs : s.WarmedH U.vm := State.WarmedH.trans hW0 hW
  have hcl : s.vm.findClass cls = some ce.cls := by
    have h9 := hO.cls
    rw [hvm] at h9
    exact h9
  have hall : s.sameButNew ({ U with vm := s.vm } : State) locs mc ms := by
    subst hA
    obtain ⟨e1, e2⟩ := hsame
    rw [State.setFrames_setFrames] at e1
    have h2 : (T.setVm s.vm).sameButNew ({ U with vm := s.vm } : State) [] (0 + 1) (0 + 6) := ⟨e1, e2⟩
    have h3 := X.same.trans h2
    rw [List.append_nil] at h3
    exact h3.mono hc hs
  refine ⟨U, ?_, .threw T.heap.size, hrun, hend, Or.inr ⟨T.heap.size, rfl, cls, ce, locs, hx U hWs.alike f1 (fun q hq => f2 q hq (fun z hz => nomatch hz)), hce, hO.vm, hcl, hWs, hall, hf⟩⟩
  refine st1 _ ?_
  show Steps p.tables e below (T1.setTop { method := m, pc := pc + 3, locals := ls, stack := .ref T.heap.size :: rest, locked := none }) _
  jvm_step X₁.here [X₁.here.top, hexec, d3', Value.category]
  exact hsteps
/-- 'throw new E("text")': new; dup; ldc; invokespecial; athrow -/
theorem vx_throwS {cc : ByteArray} {pc : Nat} (hexec : p.tables.exec = Jvm.exec) (hb : c.code = cc) (hl : l.stackTraces = false) {own cls text : String} {names : List String} {ik is ic mc ms sa : Nat} {A : Nat → Prop}
    (hown : s.vm.findClass own = some m.cls) (hcls : Bundle.fit cls = true) (hnames : ∀ n ∈ names, Bundle.fit n = true)
    (hk : (Cond.classLink own ik cls).before args s = true) (hini : (Cond.initialized cls).before args s = true) (hstr : vk_R own is text sa s) (hat : ∀ w ∈ vx_atS own ic cls names, w.before args s = true)
    (hgood : ∀ w ∈ Cond.classLink own ik cls :: Cond.initialized cls :: vx_atS own ic cls names, vx_ot w = true)
    (hU : vx_Zq Bundle.tN "UNASSIGNED_STACK" Bundle.steD A s s.heap) (hN : vx_Zq Bundle.tN "SUPPRESSED_SENTINEL" Bundle.listD A s s.heap) (hS : va_S A s.heap H locs) (hsize : ls.size = c.maxLocals)
    (d0 : decode cc pc = .ok (.new ik, 3)) (d3 : decode cc (pc + 3) = .ok (.dup, 1)) (d4 : decode cc (pc + 4) = .ok (.ldc is, 2)) (d6 : decode cc (pc + 6) = .ok (.invokespecial ic, 3)) (d9 : decode cc (pc + 9) = .ok (.athrow, 1))
    (hout : ∀ x ∈ c.exceptionTable.toList, covers x (pc + 9) = false)
    (hRframes : names.length + 3 < R.frames) (hRlocals : (rest.map fun v => v.category).sum + (13 * (names.length + 1) + 43) ≤ R.locals) (hRcells : cells + 1 ≤ R.cells) (hRslots : slots + 6 ≤ R.slots) (hlocks : meth.locks = false)
    (hx : ∀ t : State, s.vm.Alike t.vm → H.size ≤ t.heap.size → (∀ q : Nat, q < H.size → t.heap[q]? = H[q]?) → XC cls s t)
    (hf : ∀ z ∈ locs, free z.base) (hc : cells + 1 ≤ mc) (hs : slots + 6 ≤ ms) :
    W p l e R s m args below meth c H locs cells slots (vx_MQ below Qc XC args s mc ms free) (F0 m pc ls rest) := by
  intro T hT X
  have htr : e.platform.stackTraces = false := (show e.platform.stackTraces = l.stackTraces by rw [X.admits.platform]).trans hl
  have Y := vx_rebase X (R' := { frames := R.frames, locals := R.locals, cells := 1, slots := 6 }) (Nat.le_refl _) (Nat.le_refl _) hRcells hRslots
  obtain ⟨s', hA⟩ : ∃ z, z = (T.setVm s.vm).setFrames (.invoking m args :: below) := ⟨_, rfl⟩
  rw [← hA] at Y
  have hvm : s'.vm = s.vm := by rw [hA]; rfl
  have hhp : s'.heap = H := by rw [hA]; exact hT
  have hW0 : s.WarmedH s'.vm := by rw [hvm]; exact State.WarmedH.refl s
  have hat' : ∀ w ∈ vx_atS own ic cls names, w.before args s' = true := fun w hw => vx_ot_at hW0 hvm.symm (hgood w (List.mem_cons_of_mem _ (List.mem_cons_of_mem _ hw))) (hat w hw)
  have hk' : (Cond.classLink own ik cls).before args s' = true := vx_ot_at hW0 hvm.symm (hgood _ List.mem_cons_self) hk
  have hini' : (Cond.initialized cls).before args s' = true := vx_ot_at hW0 hvm.symm (hgood _ (List.mem_cons_of_mem _ List.mem_cons_self)) hini
  have hU' : vx_Zq Bundle.tN "UNASSIGNED_STACK" Bundle.steD A s' s'.heap := by rw [hhp]; exact vx_Zq.moved hW0.alike (hU.kept hS.2.1)
  have hN' : vx_Zq Bundle.tN "SUPPRESSED_SENTINEL" Bundle.listD A s' s'.heap := by rw [hhp]; exact vx_Zq.moved hW0.alike (hN.kept hS.2.1)
  have h : ∀ w ∈ Bundle.ownAtoms own ic cls names, w.before args s' = true := vx_own hat' (vx_isRefq hU'.1) (vx_isRefq hN'.1) hU'.2.word hN'.2.word
  have hown' : s'.vm.findClass own = some m.cls := by rw [hvm]; exact hown
  have hins : (Cond.instantiable cls 6).before args s' = true := h _ (by simp [Bundle.ownAtoms])
  obtain ⟨vm₁, cX, kX, hfX, hkX, -, -, X₁, st1⟩ := Y.newCold hexec (own := own) (C := cls) (index := ik) (n := 6) hown' hk' hins hini'
    (g := F0 m pc ls rest) rfl (by rw [hb]; exact d0) (Nat.le_refl _) (Nat.le_refl _)
  generalize hT1 : (T.setVm vm₁).pushCell { cls := cX, slots := kX.instanceTypes.map defaultValue, vm := .none } = T1 at X₁ st1
  have hcat : (Value.ref T.heap.size).category = 1 := rfl
  have hcellA : T1.heap[T.heap.size]? = some (freshCell cX kX) := by rw [← hT1]; exact State.heap_pushCell_size _ _
  have d3' : decode c.code (pc + 3) = .ok (.dup, 1) := by rw [hb]; exact d3
  have d4' : decode c.code (pc + 4) = .ok (.ldc is, 2) := by rw [hb]; exact d4
  have hstr' : vk_R own is text sa s' := vk_R.warm hW0 hstr
  obtain ⟨U, hsteps, hrun, hend, hW, hsame, ce, hce, hO⟩ := X₁.ctorThrowS hexec htr (own := own) (cls := cls) (names := names) (ic := ic) hown' hcls hnames h (fun x hx => nomatch hx) hfX hkX hcellA (by rw [hhp, hT]; exact Nat.le_refl _) (msg := .ref sa) rfl
    (g := { method := m, pc := pc + 6, locals := ls, stack := .ref sa :: .ref T.heap.size :: .ref T.heap.size :: rest, locked := none }) rfl hsize rfl rfl (rest := rest) rfl
    (by rw [hb]; exact d6) (by rw [hb]; exact d9) hout hRframes (by simp only [List.map_cons, List.sum_cons, hcat]; omega) hlocks
  obtain ⟨f1, f2⟩ := vx_frame hsame
  rw [hhp] at f1 f2
  have hWs : s.WarmedH U.vm := State.WarmedH.trans hW0 hW
  have hcl : s.vm.findClass cls = some ce.cls := by
    have h9 := hO.cls
    rw [hvm] at h9
    exact h9
  have hall : s.sameButNew ({ U with vm := s.vm } : State) locs mc ms := by
    subst hA
    obtain ⟨e1, e2⟩ := hsame
    rw [State.setFrames_setFrames] at e1
    have h2 : (T.setVm s.vm).sameButNew ({ U with vm := s.vm } : State) [] (0 + 1) (0 + 6) := ⟨e1, e2⟩
    have h3 := X.same.trans h2
    rw [List.append_nil] at h3
    exact h3.mono hc hs
  refine ⟨U, ?_, .threw T.heap.size, hrun, hend, Or.inr ⟨T.heap.size, rfl, cls, ce, locs, hx U hWs.alike f1 (fun q hq => f2 q hq (fun z hz => nomatch hz)), hce, hO.vm, hcl, hWs, hall, hf⟩⟩
  refine st1 _ ?_
  show Steps p.tables e below (T1.setTop { method := m, pc := pc + 3, locals := ls, stack := .ref T.heap.size :: rest, locked := none }) _
  jvm_step X₁.here [X₁.here.top, hexec, d3', Value.category]
  exact X₁.ldcString hexec (own := own) (text := text) (index := is) (a := sa) hown' hstr'.1 hstr'.2
    (g := { method := m, pc := pc + 4, locals := ls, stack := .ref T.heap.size :: .ref T.heap.size :: rest, locked := none }) rfl d4' _ hsteps
/-- 'throw new E("text")', the text by a wide index -/
theorem vx_throwSW {cc : ByteArray} {pc : Nat} (hexec : p.tables.exec = Jvm.exec) (hb : c.code = cc) (hl : l.stackTraces = false) {own cls text : String} {names : List String} {ik is ic mc ms sa : Nat} {A : Nat → Prop}
    (hown : s.vm.findClass own = some m.cls) (hcls : Bundle.fit cls = true) (hnames : ∀ n ∈ names, Bundle.fit n = true)
    (hk : (Cond.classLink own ik cls).before args s = true) (hini : (Cond.initialized cls).before args s = true) (hstr : vk_R own is text sa s) (hat : ∀ w ∈ vx_atS own ic cls names, w.before args s = true)
    (hgood : ∀ w ∈ Cond.classLink own ik cls :: Cond.initialized cls :: vx_atS own ic cls names, vx_ot w = true)
    (hU : vx_Zq Bundle.tN "UNASSIGNED_STACK" Bundle.steD A s s.heap) (hN : vx_Zq Bundle.tN "SUPPRESSED_SENTINEL" Bundle.listD A s s.heap) (hS : va_S A s.heap H locs) (hsize : ls.size = c.maxLocals)
    (d0 : decode cc pc = .ok (.new ik, 3)) (d3 : decode cc (pc + 3) = .ok (.dup, 1)) (d4 : decode cc (pc + 4) = .ok (.ldc_w is, 3)) (d7 : decode cc (pc + 7) = .ok (.invokespecial ic, 3)) (d10 : decode cc (pc + 10) = .ok (.athrow, 1))
    (hout : ∀ x ∈ c.exceptionTable.toList, covers x (pc + 10) = false)
    (hRframes : names.length + 3 < R.frames) (hRlocals : (rest.map fun v => v.category).sum + (13 * (names.length + 1) + 43) ≤ R.locals) (hRcells : cells + 1 ≤ R.cells) (hRslots : slots + 6 ≤ R.slots) (hlocks : meth.locks = false)
    (hx : ∀ t : State, s.vm.Alike t.vm → H.size ≤ t.heap.size → (∀ q : Nat, q < H.size → t.heap[q]? = H[q]?) → XC cls s t)
    (hf : ∀ z ∈ locs, free z.base) (hc : cells + 1 ≤ mc) (hs : slots + 6 ≤ ms) :
    W p l e R s m args below meth c H locs cells slots (vx_MQ below Qc XC args s mc ms free) (F0 m pc ls rest) := by
  intro T hT X
  have htr : e.platform.stackTraces = false := (show e.platform.stackTraces = l.stackTraces by rw [X.admits.platform]).trans hl
  have Y := vx_rebase X (R' := { frames := R.frames, locals := R.locals, cells := 1, slots := 6 }) (Nat.le_refl _) (Nat.le_refl _) hRcells hRslots
  obtain ⟨s', hA⟩ : ∃ z, z = (T.setVm s.vm).setFrames (.invoking m args :: below) := ⟨_, rfl⟩
  rw [← hA] at Y
  have hvm : s'.vm = s.vm := by rw [hA]; rfl
  have hhp : s'.heap = H := by rw [hA]; exact hT
  have hW0 : s.WarmedH s'.vm := by rw [hvm]; exact State.WarmedH.refl s
  have hat' : ∀ w ∈ vx_atS own ic cls names, w.before args s' = true := fun w hw => vx_ot_at hW0 hvm.symm (hgood w (List.mem_cons_of_mem _ (List.mem_cons_of_mem _ hw))) (hat w hw)
  have hk' : (Cond.classLink own ik cls).before args s' = true := vx_ot_at hW0 hvm.symm (hgood _ List.mem_cons_self) hk
  have hini' : (Cond.initialized cls).before args s' = true := vx_ot_at hW0 hvm.symm (hgood _ (List.mem_cons_of_mem _ List.mem_cons_self)) hini
  have hU' : vx_Zq Bundle.tN "UNASSIGNED_STACK" Bundle.steD A s' s'.heap := by rw [hhp]; exact vx_Zq.moved hW0.alike (hU.kept hS.2.1)
  have hN' : vx_Zq Bundle.tN "SUPPRESSED_SENTINEL" Bundle.listD A s' s'.heap := by rw [hhp]; exact vx_Zq.moved hW0.alike (hN.kept hS.2.1)
  have h : ∀ w ∈ Bundle.ownAtoms own ic cls names, w.before args s' = true := vx_own hat' (vx_isRefq hU'.1) (vx_isRefq hN'.1) hU'.2.word hN'.2.word
  have hown' : s'.vm.findClass own = some m.cls := by rw [hvm]; exact hown
  have hins : (Cond.instantiable cls 6).before args s' = true := h _ (by simp [Bundle.ownAtoms])
  obtain ⟨vm₁, cX, kX, hfX, hkX, -, -, X₁, st1⟩ := Y.newCold hexec (own := own) (C := cls) (index := ik) (n := 6) hown' hk' hins hini'
    (g := F0 m pc ls rest) rfl (by rw [hb]; exact d0) (Nat.le_refl _) (Nat.le_refl _)
  generalize hT1 : (T.setVm vm₁).pushCell { cls := cX, slots := kX.instanceTypes.map defaultValue, vm := .none } = T1 at X₁ st1
  have hcat : (Value.ref T.heap.size).category = 1 := rfl
  have hcellA : T1.heap[T.heap.size]? = some (freshCell cX kX) := by rw [← hT1]; exact State.heap_pushCell_size _ _
  have d3' : decode c.code (pc + 3) = .ok (.dup, 1) := by rw [hb]; exact d3
  have d4' : decode c.code (pc + 4) = .ok (.ldc_w is, 3) := by rw [hb]; exact d4
  have hstr' : vk_R own is text sa s' := vk_R.warm hW0 hstr
  obtain ⟨U, hsteps, hrun, hend, hW, hsame, ce, hce, hO⟩ := X₁.ctorThrowS hexec htr (own := own) (cls := cls) (names := names) (ic := ic) hown' hcls hnames h (fun x hx => nomatch hx) hfX hkX hcellA (by rw [hhp, hT]; exact Nat.le_refl _) (msg := .ref sa) rfl
    (g := { method := m, pc := pc + 7, locals := ls, stack := .ref sa :: .ref T.heap.size :: .ref T.heap.size :: rest, locked := none }) rfl hsize rfl rfl (rest := rest) rfl
    (by rw [hb]; exact d7) (by rw [hb]; exact d10) hout hRframes (by simp only [List.map_cons, List.sum_cons, hcat]; omega) hlocks
  obtain ⟨f1, f2⟩ := vx_frame hsame
  rw [hhp] at f1 f2
  have hWs : s.WarmedH U.vm := State.WarmedH.trans hW0 hW
  have hcl : s.vm.findClass cls = some ce.cls := by
    have h9 := hO.cls
    rw [hvm] at h9
    exact h9
  have hall : s.sameButNew ({ U with vm := s.vm } : State) locs mc ms := by
    subst hA
    obtain ⟨e1, e2⟩ := hsame
    rw [State.setFrames_setFrames] at e1
    have h2 : (T.setVm s.vm).sameButNew ({ U with vm := s.vm } : State) [] (0 + 1) (0 + 6) := ⟨e1, e2⟩
    have h3 := X.same.trans h2
    rw [List.append_nil] at h3
    exact h3.mono hc hs
  refine ⟨U, ?_, .threw T.heap.size, hrun, hend, Or.inr ⟨T.heap.size, rfl, cls, ce, locs, hx U hWs.alike f1 (fun q hq => f2 q hq (fun z hz => nomatch hz)), hce, hO.vm, hcl, hWs, hall, hf⟩⟩
  refine st1 _ ?_
  show Steps p.tables e below (T1.setTop { method := m, pc := pc + 3, locals := ls, stack := .ref T.heap.size :: rest, locked := none }) _
  jvm_step X₁.here [X₁.here.top, hexec, d3', Value.category]
  exact X₁.ldcStringW hexec (own := own) (text := text) (index := is) (a := sa) hown' hstr'.1 hstr'.2
    (g := { method := m, pc := pc + 4, locals := ls, stack := .ref T.heap.size :: .ref T.heap.size :: rest, locked := none }) rfl d4' _ hsteps
end Ends
section Bodies
variable {l : Launch}
theorem vx_ofW {y : MethodName} {ws ws' : List Cond} {rm : Room} {Pc : Array Value → State → Prop} {Qc : Array Value → State → Outcome → State → Prop} {XC : String → State → State → Prop} {mc ms : Nat} {free : Addr → Prop} {cc : ByteArray} {maxL : Nat} {ret : Option FieldType}
    (hy : plainName y.cls = true) (hw : ws = Cond.code y cc maxL ret :: ws')
    (body : ∀ p e s m args below meth c s₁, BodyLoose p l y (headSpec ws rm) cc maxL ret e s m args below meth c s₁ → c.maxLocals = maxL → (∀ x ∈ c.exceptionTable.toList, False) → Pc args s →
      W p l e (headSpec ws rm).room s m args below meth c s.heap [] 0 0 (vx_MQ below Qc XC args s mc ms free) (entryFrame m args maxL)) : vx_Met l y ws rm Pc Qc XC mc ms free := by
  refine MetFree.of_bodyS (code := cc) (maxLocals := maxL) (ret := ret) hy ?_ ?_
  · intro args s m h hn
    obtain ⟨meth, c, h1, h2, h3, h4, h5, h6, -, -⟩ := Cond.code_spec hn (atoms_spec (ws := ws) h _ (by rw [hw]; exact List.mem_cons_self))
    exact ⟨meth, c, h1, h2, h3, h4, h5, h6⟩
  · intro p e s m args below meth c s₁ B hml hP _
    have hh0 : s₁.heap = s.heap := by rw [B.state]; rfl
    have ht : ∀ x ∈ c.exceptionTable.toList, False := by
      obtain ⟨meth9, c9, h1, h2, -, -, -, -, h7, -⟩ := Cond.code_spec B.named (atoms_spec (ws := ws) B.pre _ (by rw [hw]; exact List.mem_cons_self))
      cases Option.some.inj (h1.symm.trans B.method)
      cases Option.some.inj (h2.symm.trans (Stand.of_body B).code)
      intro x hx
      rw [Array.isEmpty_iff.mp h7] at hx
      cases hx
    obtain ⟨t, a1, o, b1, b2, b3⟩ := body p e s m args below meth c s₁ B hml ht hP s₁ hh0 (Stand.of_body B)
    exact ⟨t, o, a1, b1, b2, b3⟩
/-- the table of a body with handlers -/
theorem vx_table {p : Program} {x y : MethodName} {S : Spec} {cc bytes : ByteArray} {maxL maxL' : Nat} {ret ret' : Option FieldType} {e : Env} {s s₁ : State} {m : MethodId} {args : Array Value} {below : List Frame} {meth : Method} {c : Code} {hh : List (Nat × Nat × Nat × Nat)}
    (B : BodyLoose p l y S cc maxL ret e s m args below meth c s₁) (h : (Cond.codeWith y bytes maxL' ret' hh).before args s = true) : c.exceptionTable.toList = tableOf hh := by
  obtain ⟨m9, meth9, c9, hn9, h1, h2, -, -, h6, -⟩ := Cond.codeWith_spec h
  cases Option.some.inj (hn9.symm.trans B.named)
  cases Option.some.inj (h1.symm.trans B.method)
  cases Option.some.inj (h2.symm.trans (Stand.of_body B).code)
  rw [← h6, table_eq]
end Bodies
end VXA
/-! ===== END ===== -/
/-! ===== BEGIN a static call of a method with an exception table ===== -/
section VXS
variable {p : Program} {l : Launch} {e : Env} {R : Room} {s : State} {m : MethodId} {args : Array Value} {below : List Frame} {meth : Method} {c : Code} {T : State} {H : Heap} {locs : List Loc} {cells slots : Nat}
abbrev vx_CSW (R : Room) (s : State) (args : Array Value) (own : String) (index : Nat) (y : MethodName) (bytes : ByteArray) (maxL : Nat) (ret : Option FieldType) (hh : List (Nat × Nat × Nat × Nat)) (ws : List Cond) (rm : Room) (mc ms n : Nat) : Prop :=
  (rm.cells = mc ∧ rm.slots = ms ∧ rm.frames + 1 ≤ R.frames ∧ 8 + (maxL + 11) + rm.locals ≤ R.locals ∧ (∀ w ∈ ws, ∀ (a' : Array Value) (U : State), s.WarmedH U.vm → w.before a' U = true) ∧ Cond.codeWith y bytes maxL ret hh ∈ ws) ∧
  (Cond.codeWith y bytes maxL ret hh).before args s = true ∧ (Cond.initialized y.cls).before args s = true ∧ (y.cls ≠ "java/lang/invoke/MethodHandle" ∧ y.cls ≠ "java/lang/invoke/VarHandle") ∧
  (∀ sig, parseMethodDescriptor y.desc = some sig → n = sig.parameters.length) ∧ (Cond.methodLink own index y).before args s = true ∧ (Cond.static y).before args s = true
theorem vx_cwSW {own : String} {index maxL mc ms : Nat} {y : MethodName} {bytes : ByteArray} {ret : Option FieldType} {hh : List (Nat × Nat × Nat × Nat)} {Ts ws ws' : List Cond} {rm : Room} (n : Nat) (ht : ∀ w ∈ Ts, w.before args s = true) (hT : GoodIn Ts (va_wsS own index y ws)) (hw : ws = Cond.codeWith y bytes maxL ret hh :: ws') (hrc : rm.cells = mc) (hrs : rm.slots = ms)
    (hd : y.cls ≠ "java/lang/invoke/MethodHandle" ∧ y.cls ≠ "java/lang/invoke/VarHandle" ∧ (parseMethodDescriptor y.desc).map (fun d => d.parameters.length) = some n) (hR : rm.frames + 1 ≤ R.frames ∧ 8 + (maxL + 11) + rm.locals ≤ R.locals) :
    vx_CSW R s args own index y bytes maxL ret hh ws rm mc ms n := by
  have ok : ∀ w ∈ va_wsS own index y ws, w.before args s = true := fun w h => ht w (hT w h).1
  have hG : GoodIn Ts ws := fun w h => hT w (by unfold va_wsS; exact List.mem_append_right _ h)
  have hc : Cond.codeWith y bytes maxL ret hh ∈ ws := by rw [hw]; exact List.mem_cons_self
  refine ⟨⟨hrc, hrs, hR.1, hR.2, pay_in ht hG, hc⟩, ht _ (hG _ hc).1, ok _ (by simp [va_wsS]), ⟨hd.1, hd.2.1⟩, fun sig h => ?_, ok _ (by simp [va_wsS]), ok _ (by simp [va_wsS])⟩
  have h2 := hd.2.2
  rw [h] at h2
  exact (Option.some.inj h2).symm
theorem vx_callSW (X : Stand p l e R s m args below meth c T locs cells slots) (hexec : p.tables.exec = Jvm.exec) {own : String} {index : Nat} {y : MethodName} {bytes : ByteArray} {maxL : Nat} {ret : Option FieldType} {hh : List (Nat × Nat × Nat × Nat)}
    (hown : s.vm.findClass own = some m.cls) (hlink : (Cond.methodLink own index y).before args s = true) (hstat : (Cond.static y).before args s = true) (hinit : (Cond.initialized y.cls).before args s = true)
    (hcode : (Cond.codeWith y bytes maxL ret hh).before args s = true) (hy : y.cls ≠ "java/lang/invoke/MethodHandle" ∧ y.cls ≠ "java/lang/invoke/VarHandle")
    {W9 : Nat} {Pre : Pt → Array Value → Prop} {Post : Pt → Array Value → Option Value → Pt → Prop} (hK : Back l R p e below s args y 3 W9 Pre Post)
    {g : JFrame} (hg : g.method = m) (hsize : g.locals.size = c.maxLocals) {argsL rest : List Value} (hlen : ∀ sig, parseMethodDescriptor y.desc = some sig → argsL.length = sig.parameters.length)
    (hstack : g.stack = argsL.reverse ++ rest) (hW : 2 * g.monitorRoom + (rest.map fun v => v.category).sum ≤ W9) (hdg : decode c.code g.pc = .ok (.invokestatic index, 3))
    (hpre : ∀ vm₁, s.WarmedH vm₁ → Pre ⟨T.setVm vm₁, locs, cells, slots⟩ argsL.toArray) :
    ∃ (v : Option Value) (vm₁ : Vm) (B : Pt), s.WarmedH vm₁ ∧ Stand p l e R s m args below meth c B.U B.locs B.cells B.slots ∧ Post ⟨T.setVm vm₁, locs, cells, slots⟩ argsL.toArray v B ∧
      ∀ target, Steps p.tables e below (B.U.setTop { g with pc := g.pc + 3, stack := v.toList ++ rest }) target → Steps p.tables e below (T.setTop g) target := by
  obtain ⟨mk, methM, cM, hnamed, hmethM, -, -, -, -, -, -, hsigM⟩ := Cond.codeWith_spec hcode
  have hstatic : methM.isStatic = true := Cond.static_spec hnamed hmethM hstat
  obtain ⟨kP, hkP, -⟩ := className_of_methodNamed hnamed
  have hinitP : kP.init = .initialized := Cond.initialized_spec (findClass_of_methodNamed hnamed) hkP hinit
  obtain ⟨vm₁, X₁, hstep₁⟩ := X.invokestatic hexec hown hlink hnamed hmethM hstatic hkP hinitP hy (g := g) hg (argsL := argsL) (rest := rest) (hlen _ hsigM) hstack hdg
  obtain ⟨v, B, X', hpost, hsteps⟩ := hK m meth c ⟨T.setVm vm₁, locs, cells, slots⟩ { g with stack := rest } (.invokestatic index) mk argsL.toArray X₁ hg hsize hdg hW (X₁.named hnamed) (hpre vm₁ X₁.warmed)
  exact ⟨v, vm₁, B, X₁.warmed, X', hpost, fun target h => hstep₁ _ fun acts => by rw [doInvoke_state]; exact hsteps.trans h⟩
theorem vx_runSW {y : MethodName} {bytes cc : ByteArray} {maxL nL mc ms n index : Nat} {ret : Option FieldType} {hh : List (Nat × Nat × Nat × Nat)} {ws : List Cond} {rm : Room} {Pc : Array Value → State → Prop} {Qc : Array Value → State → Outcome → State → Prop} {free : Addr → Prop} {Ts : List Cond} {own : String} {As rest : List Value} {g : JFrame}
    (S : CallFix p m c cc nL s args Ts own) (hM : Met l y ws rm Pc Qc mc ms free) (cw : vx_CSW R s args own index y bytes maxL ret hh ws rm mc ms n) (hp : PreS s H Pc As)
    (hg : g.method = m) (hn : As.length = n) (hsize : g.locals.size = nL) (hstack : g.stack = As.reverse ++ rest) (hW : 2 * g.monitorRoom + (rest.map fun v => v.category).sum ≤ 8) (hdg : decode cc g.pc = .ok (.invokestatic index, 3)) (hf : cells + mc ≤ R.cells ∧ slots + ms ≤ R.slots) :
    va_Run p l e R s m args below meth c H locs cells slots mc ms g rest (Qc As.toArray) (free) := by
  obtain ⟨⟨hrc, hrs, hfr, hlo, hws, hcw⟩, hcode, hini, hy, hlen, hl, hstt⟩ := cw
  have hK : Back l R p e below s args y 3 8 (PreOf R mc ms Pc) (PostOf Qc mc ms free) := va_backW (hh := hh) (bytes := bytes) (maxL := maxL) (ret := ret) hM hp.1 hrc hrs hfr hlo hws hcw (fun a' U hW => word_at hW (Or.inl (by first | rfl | simp [Cond.onTables, Cond.keeps, Cond.steady])) hini)
  obtain ⟨hx, hb, hml, ho, -⟩ := S
  intro T hT X
  obtain ⟨v, vm₁, ⟨U', l2, c2, s2⟩, hW₁, X', ⟨g', mk, t, L, e1, e2, hq, h1, hL, h2, h3⟩, st⟩ := vx_callSW X hx (hh := hh) (bytes := bytes) (maxL := maxL) (ret := ret) ho hl hstt hini hcode hy hK hg (hsize.trans hml.symm) (argsL := As) (rest := rest) (fun sig h => hn.trans (hlen sig h)) hstack hW (by rw [hb]; exact hdg)
    (fun vm₁ hW₁ => ⟨hf.1, hf.2, hp.2 (T.setVm vm₁) hT hW₁⟩)
  dsimp only [Pt.U, Pt.locs, Pt.cells, Pt.slots] at X' e1 e2 h1 h2 h3 st
  subst h1; subst h2; subst h3
  exact ⟨v, (T.setVm vm₁).calling g' mk As.toArray, t, U', L, hT, X', hL, e1, e2, hq, st⟩
/-- not caught here, past rows that name other classes: it goes on to the caller -/
theorem vx_outP {p : Program} {l : Launch} {e : Env} {R : Room} {s : State} {m : MethodId} {args : Array Value} {below : List Frame} {meth : Method} {c : Code} {H : Heap} {locs : List Loc} {cells slots : Nat} {free : Addr → Prop} {ls : Array Slot} {rest : List Value} {Qc : Array Value → State → Outcome → State → Prop} {XC : String → State → State → Prop}
    {pc : Nat} {own E : String} {ce : Cell} {q : Addr} {mc ms : Nat} (hown : s.vm.findClass own = some m.cls) (hlocks : meth.locks = false)
    (hpass : ∀ z ∈ c.exceptionTable.toList, covers z pc = false ∨ (z.catchType ≠ 0 ∧ ∃ nm : String, (Cond.classLink own z.catchType nm).before args s = true ∧ va_Nc E nm s)) (hcell : H[q]? = some ce) (hv : ce.vm = .none) (hcl : s.vm.findClass E = some ce.cls)
    (hx : ∀ t : State, t.heap = H → s.vm.Alike t.vm → XC E s t) (hf : ∀ z ∈ locs, free z.base) (hc : cells ≤ mc) (hs : slots ≤ ms) :
    vx_W p l e R s m args below meth c H locs cells slots (vx_MQ below Qc XC args s mc ms free) (F0 m pc ls rest) q := by
  intro T hT X
  have hpl : e.platform.magicAccessors = ({} : Platform).magicAccessors := by rw [X.admits.platform]
  obtain ⟨vm', hW', X', st⟩ := X.outThrough hlocks q (g := F0 m pc ls rest) rfl rfl rfl (cell := ce) (by rw [hT]; exact hcell) (by rw [hv]; rfl)
    (by obtain ⟨k9, h9, -⟩ := Vm.findClass_spec hcl; exact ⟨k9, h9⟩) (fun z hz => by
      rcases hpass z hz with h | ⟨hz0, nm, hl1, hn1⟩
      · exact Or.inl h
      · obtain ⟨c6, hc6, hcl6⟩ := Cond.classLink_spec hown hl1 e.platform hpl
        obtain ⟨a8, b8, h1, h2, h3⟩ := hn1
        cases Option.some.inj (h1.symm.trans hcl)
        cases Option.some.inj (h2.symm.trans hc6)
        exact Or.inr ⟨hz0, _, hcl6, h3⟩)
  obtain ⟨g₀, hfr⟩ := X'.frames_eq
  have hcell9 : ((T.setVm vm').setFrames (.throwing q :: below)).heap[q]? = some ce := by
    show T.heap[q]? = some ce
    rw [hT]; exact hcell
  have hend : Ended ((T.setVm vm').setFrames (.throwing q :: below)) below (.threw q) := State.frames_setFrames _ (State.cur_lt_of_frames hfr)
  refine ⟨(T.setVm vm').setFrames (.throwing q :: below), ?_, .threw q, X'.here.running, hend, Or.inr ⟨q, rfl, E, ce, locs, hx _ hT (X'.ends _).1.alike, hcell9, hv, hcl, (X'.ends _).1, (X'.ends _).2.mono hc hs, hf⟩⟩
  rw [X.pushThrowing_eq]
  exact st
/-- a thing of a world lies in the heap -/
theorem vx_lt {D : va_G} {cl : List vw_C} {ws : va_W} {H1 : Heap} (h : va_P D cl ws H1) {k : Nat} {q : Nat × va_E} (hk : ws[k]? = some q) : q.1 < H1.size := (h k q hk).lt
end VXS
/-! ===== END ===== -/
/-! ===== BEGIN methods with a table of their own: called by a name, returning or throwing ===== -/
section VXH
/-! vx_backW, vx_callVX, vx_callSX, vx_callVW, vx_runVW, vx_runVX, vx_runSX, vx_ofWH follow the same proofs as their sisters above (Free/Laws.lean, Shelf42/LK1.lean); vx_outP calls Shelf42/NT130.lean (outThrough). -/
section
variable {l : Launch} {R : Room} {p : Program} {e : Env} {below : List Frame} {s : State} {sargs : Array Value} {y : MethodName} {len W9 : Nat}
theorem vx_backW {ws : List Cond} {rm : Room} {Pc : Array Value → State → Prop} {Qc : Array Value → State → Outcome → State → Prop} {XC : String → State → State → Prop} {mc ms : Nat} {free : Addr → Prop} {bytes : ByteArray} {maxL : Nat} {ret : Option FieldType} {hh : List (Nat × Nat × Nat × Nat)}
    (hM : vx_Met l y ws rm Pc Qc XC mc ms free) (hblind : FrameBlind Pc) (hrc : rm.cells = mc) (hrs : rm.slots = ms)
    (hframes : rm.frames + 1 ≤ R.frames) (hlocals : W9 + (maxL + 11) + rm.locals ≤ R.locals)
    (hws : ∀ w ∈ ws, ∀ a' U, s.WarmedH U.vm → w.before a' U = true) (hcode : Cond.codeWith y bytes maxL ret hh ∈ ws) (hinit : ∀ a' U, s.WarmedH U.vm → (Cond.initialized y.cls).before a' U = true) :
    vx_Back l R p e below s sargs y len W9 (PreOf R mc ms Pc) (PostOf Qc mc ms free) (vx_Post XC mc ms free) := by
  intro m meth c A g ig mk a X hg hsize hdg hW hn hp
  have h1 : (headSpec ws rm).pre.before a A.U = true := atoms_intro fun w hw => hws w hw _ _ X.warmed
  have h2 : (Cond.codeWith y bytes maxL ret hh).before a A.U = true := hws _ hcode _ _ X.warmed
  have h3 : (Cond.initialized y.cls).before a A.U = true := hinit _ _ X.warmed
  have h4 : A.cells + (headSpec ws rm).room.cells ≤ R.cells := by rw [show (headSpec ws rm).room.cells = mc from hrc]; exact hp.1
  have h5 : A.slots + (headSpec ws rm).room.slots ≤ R.slots := by rw [show (headSpec ws rm).room.slots = ms from hrs]; exact hp.2.1
  have hPc : Pc a (A.U.calling g mk a) := hblind _ _ _ _ hp.2.2
  obtain ⟨U, Ls, c0, s0⟩ := A
  dsimp only [Pt.U, Pt.locs, Pt.cells, Pt.slots] at h1 h2 h3 h4 h5 X hn hPc ⊢
  obtain ⟨m9, methY, cY, hn9, hmY, hcY, -, hlY, -⟩ := Cond.codeWith_spec h2
  cases Option.some.inj (hn9.symm.trans hn)
  obtain ⟨kY, hkY, -⟩ := className_of_methodNamed hn
  have hinitY : kY.init = .initialized := Cond.initialized_spec (findClass_of_methodNamed hn) hkY h3
  have h : At U g.method c below := by rw [hg]; exact X.here
  have hlocals9 : W9 + (maxL + 11) + (headSpec ws rm).room.locals ≤ R.locals := hlocals
  have happ : (headSpec ws rm).appliesLoose y e.platform (U.calling g mk a) = true :=
    Spec.appliesLoose_calling (g := g) h hdg hn hkY hinitY
      (X.room_calling (g := g) (R' := (headSpec ws rm).room) hsize hmY hcY hframes (by rw [hlY]; omega) h4 h5) h1
  obtain ⟨mid, hmid⟩ := h.above
  have hfr : (U.setTop g).frames = (.java g :: mid) ++ below := by rw [State.frames_setTop' g h.top, hmid]; rfl
  obtain ⟨o, s₂, hsteps, -, hend, hq⟩ := Steps.callFree hM p X.admits X.cas X.clock (acts := []) hfr happ hPc trivial
  have hq' : vx_Q Qc XC mc ms free a (U.calling g mk a) o s₂ := hq
  rw [State.frames_setTop' g h.top] at hend
  obtain ⟨g₀, hg0⟩ := Option.isSome_iff_exists.mp h.top
  obtain ⟨r, hr⟩ := State.topJava?_eq_some.mp hg0
  have hr' : (({ U with heap := s₂.heap, slotsUsed := s₂.slotsUsed } : State).setVm s₂.vm).frames = .java g₀ :: r := hr
  rcases hq' with ⟨hqc, L, hfe, hL⟩ | ⟨q, rfl, E, ce, L, hx, hce, hcv, hcl, hW₂, hsm, hL⟩
  · obtain ⟨⟨v, rfl⟩, hW₂, e2, q2, q3, q4, q5, q6⟩ := id hfe
    have e3 : s₂ = ({ (U.calling g mk a).setFrames s₂.frames with heap := s₂.heap, slotsUsed := s₂.slotsUsed } : State).setVm s₂.vm := by
      have : s₂ = ({ s₂ with vm := (U.calling g mk a).vm } : State).setVm s₂.vm := rfl
      rw [e2] at this
      exact this
    obtain ⟨c₂, i₂, len₂, hc₂, hd₂, hf₂⟩ := hend
    have hW' : U.WarmedH s₂.vm := hW₂
    have hcc : c₂ = c := by
      have h1 : s₂.code? g.method = U.code? g.method := by
        rw [State.code?_eq, State.code?_eq, hW'.alike.method?]
      exact Option.some.inj (hc₂.symm.trans (h1.trans h.code))
    subst hcc
    have hlen : len₂ = len := by rw [hdg] at hd₂; cases hd₂; rfl
    subst hlen
    have hs₂ : s₂ = (({ U with heap := s₂.heap, slotsUsed := s₂.slotsUsed } : State).setVm s₂.vm).setTop { g with pc := g.pc + len₂, stack := v.toList ++ g.stack } := by
      refine e3.trans ?_
      rw [hf₂, State.calling_eq h.top, State.setFrames_setFrames, State.setTop_of_frames _ hr', hr]
      rfl
    have hsame : U.sameButNew ({ U with heap := s₂.heap, slotsUsed := s₂.slotsUsed } : State) L mc ms := by
      refine ⟨?_, q2, q3, q4, q5, q6⟩
      obtain ⟨t, ht, -⟩ := State.frames_cons hr
      show ({ U with heap := s₂.heap, slotsUsed := s₂.slotsUsed } : State) = { U.setFrames U.frames with heap := s₂.heap, slotsUsed := s₂.slotsUsed }
      rw [State.setFrames_self ht]
    subst hg
    refine Or.inl ⟨v, ⟨(({ U with heap := s₂.heap, slotsUsed := s₂.slotsUsed } : State).setVm s₂.vm), Ls ++ L, c0 + mc, s0 + ms⟩,
      ⟨X.admits, X.cas, X.clock, X.frames, X.room, X.hears, X.method, X.code, (X.here.setHeapUsed s₂.heap s₂.slotsUsed).setVm hW'.alike, X.tail, State.WarmedH.trans X.warmed hW', X.limits, X.bytes, X.same.trans (hsame.setVm s.vm)⟩,
      ⟨g, mk, s₂, L, rfl, rfl, hqc, rfl, hL, rfl, rfl⟩, ?_⟩
    show Steps p.tables e below _ ((({ U with heap := s₂.heap, slotsUsed := s₂.slotsUsed } : State).setVm s₂.vm).setTop { g with pc := g.pc + len₂, stack := v.toList ++ g.stack })
    rw [← hs₂]
    exact hsteps
  · obtain ⟨e2, q2, q3, q4, q5, q6⟩ := id hsm
    have e3 : s₂ = ({ (U.calling g mk a).setFrames s₂.frames with heap := s₂.heap, slotsUsed := s₂.slotsUsed } : State).setVm s₂.vm := by
      have : s₂ = ({ s₂ with vm := (U.calling g mk a).vm } : State).setVm s₂.vm := rfl
      rw [e2] at this
      exact this
    have hf₂ : s₂.frames = .throwing q :: .java g :: U.frames.tail := hend
    have hW' : U.WarmedH s₂.vm := hW₂
    have hs₂ : s₂ = ((({ U with heap := s₂.heap, slotsUsed := s₂.slotsUsed } : State).setVm s₂.vm).setTop g).pushFrame (.throwing q) := by
      refine e3.trans ?_
      rw [hf₂, State.calling_eq h.top, State.setFrames_setFrames, State.pushFrame, State.frames_setTop _ hr', State.setTop_of_frames _ hr', State.setFrames_setFrames, hr]
      rfl
    have hsame : U.sameButNew ({ U with heap := s₂.heap, slotsUsed := s₂.slotsUsed } : State) L mc ms := by
      refine ⟨?_, q2, q3, q4, q5, q6⟩
      obtain ⟨t, ht, -⟩ := State.frames_cons hr
      show ({ U with heap := s₂.heap, slotsUsed := s₂.slotsUsed } : State) = { U.setFrames U.frames with heap := s₂.heap, slotsUsed := s₂.slotsUsed }
      rw [State.setFrames_self ht]
    subst hg
    refine Or.inr ⟨q, ⟨(({ U with heap := s₂.heap, slotsUsed := s₂.slotsUsed } : State).setVm s₂.vm), Ls ++ L, c0 + mc, s0 + ms⟩,
      ⟨X.admits, X.cas, X.clock, X.frames, X.room, X.hears, X.method, X.code, (X.here.setHeapUsed s₂.heap s₂.slotsUsed).setVm hW'.alike, X.tail, State.WarmedH.trans X.warmed hW', X.limits, X.bytes, X.same.trans (hsame.setVm s.vm)⟩,
      ⟨g, mk, s₂, L, E, ce, rfl, rfl, hx, hce, hcv, hcl, rfl, hL, rfl, rfl⟩, ?_⟩
    show Steps p.tables e below _ (((({ U with heap := s₂.heap, slotsUsed := s₂.slotsUsed } : State).setVm s₂.vm).setTop g).pushFrame (.throwing q))
    rw [← hs₂]
    exact hsteps
end
variable {p : Program} {l : Launch} {e : Env} {R : Room} {s : State} {m : MethodId} {args : Array Value} {below : List Frame} {meth : Method} {c : Code} {T : State} {H : Heap} {locs : List Loc} {cells slots : Nat}
theorem vx_callVX (X : Stand p l e R s m args below meth c T locs cells slots) (hexec : p.tables.exec = Jvm.exec) {own C : String} {index : Nat} {y : MethodName} {bytes : ByteArray} {maxL : Nat} {ret : Option FieldType} {hh : List (Nat × Nat × Nat × Nat)}
    (hown : s.vm.findClass own = some m.cls) (hlink : (Cond.methodLink own index y).before args s = true) (hinst : (Cond.instanceMethod y).before args s = true) (hsel : (Cond.selects C y y).before args s = true)
    (hcode : (Cond.codeWith y bytes maxL ret hh).before args s = true) (hy : y.cls ≠ "java/lang/invoke/MethodHandle" ∧ y.cls ≠ "java/lang/invoke/VarHandle")
    {W9 : Nat} {Pre : Pt → Array Value → Prop} {Post : Pt → Array Value → Option Value → Pt → Prop} {PostX : Pt → Array Value → Addr → Pt → Prop} (hK : vx_Back l R p e below s args y 3 W9 Pre Post PostX)
    {b : Addr} {cellB : Cell} (hcell : T.heap[b]? = some cellB) (hobj : cellB.vm.isStatics = false) (hcls : s.vm.findClass C = some cellB.cls)
    {g : JFrame} (hg : g.method = m) (hsize : g.locals.size = c.maxLocals) {argsL rest : List Value} (hlen : ∀ sig, parseMethodDescriptor y.desc = some sig → argsL.length = sig.parameters.length)
    (hstack : g.stack = argsL.reverse ++ .ref b :: rest) (hW : 2 * g.monitorRoom + (rest.map fun v => v.category).sum ≤ W9) (hdg : decode c.code g.pc = .ok (.invokevirtual index, 3))
    (hpre : ∀ vm₁, s.WarmedH vm₁ → Pre ⟨T.setVm vm₁, locs, cells, slots⟩ (Value.ref b :: argsL).toArray) :
    (∃ (v : Option Value) (vm₁ : Vm) (B : Pt), s.WarmedH vm₁ ∧ Stand p l e R s m args below meth c B.U B.locs B.cells B.slots ∧ Post ⟨T.setVm vm₁, locs, cells, slots⟩ (Value.ref b :: argsL).toArray v B ∧
      ∀ target, Steps p.tables e below (B.U.setTop { g with pc := g.pc + 3, stack := v.toList ++ rest }) target → Steps p.tables e below (T.setTop g) target) ∨
    (∃ (q : Addr) (vm₁ : Vm) (B : Pt), s.WarmedH vm₁ ∧ Stand p l e R s m args below meth c B.U B.locs B.cells B.slots ∧ PostX ⟨T.setVm vm₁, locs, cells, slots⟩ (Value.ref b :: argsL).toArray q B ∧
      Steps p.tables e below (T.setTop g) ((B.U.setTop { g with stack := rest }).pushFrame (.throwing q))) := by
  obtain ⟨mk, methM, hnamed, hmethM, hstM, habM⟩ := Cond.instanceMethod_spec hinst
  obtain ⟨m8, methM', cM, hn8, hmethM', -, -, -, -, -, -, hsigM⟩ := Cond.codeWith_spec hcode
  cases Option.some.inj (hn8.symm.trans hnamed)
  cases hmethM.symm.trans hmethM'
  obtain ⟨c2, r2, m2, q1, q2, q3, q4, kP, hkP, hkPi⟩ := Cond.selects_spec hsel
  cases hcls.symm.trans q1
  cases (State.methodFound?_of_named hnamed hy).symm.trans q2
  cases hnamed.symm.trans q3
  have hselP : selectMethod e.platform s.vm cellB.cls mk = .method mk := by rw [Launch.admits_selectMethod X.admits]; exact q4
  obtain ⟨vm₁, X₁, hstep₁⟩ := X.invokevirtual hexec hown hlink hnamed hmethM hstM hkP hkPi hy (a := b) (cell := cellB) hcell
    (fun z h => by rw [h] at hobj; cases hobj) hselP hmethM habM hkP hkPi (g := g) hg (argsL := argsL) (rest := rest) (hlen _ hsigM) hstack hdg
  rcases hK m meth c ⟨T.setVm vm₁, locs, cells, slots⟩ { g with stack := rest } (.invokevirtual index) mk (Value.ref b :: argsL).toArray X₁ hg hsize hdg hW (X₁.named hnamed) (hpre vm₁ X₁.warmed) with ⟨v, B, X', hpost, hsteps⟩ | ⟨q, B, X', hpost, hsteps⟩
  · exact Or.inl ⟨v, vm₁, B, X₁.warmed, X', hpost, fun target h => hstep₁ _ fun acts => by rw [doInvoke_state]; exact hsteps.trans h⟩
  · exact Or.inr ⟨q, vm₁, B, X₁.warmed, X', hpost, hstep₁ _ fun acts => by rw [doInvoke_state]; exact hsteps⟩
theorem vx_callSX (X : Stand p l e R s m args below meth c T locs cells slots) (hexec : p.tables.exec = Jvm.exec) {own : String} {index : Nat} {y : MethodName} {bytes : ByteArray} {maxL : Nat} {ret : Option FieldType} {hh : List (Nat × Nat × Nat × Nat)}
    (hown : s.vm.findClass own = some m.cls) (hlink : (Cond.methodLink own index y).before args s = true) (hstat : (Cond.static y).before args s = true) (hinit : (Cond.initialized y.cls).before args s = true)
    (hcode : (Cond.codeWith y bytes maxL ret hh).before args s = true) (hy : y.cls ≠ "java/lang/invoke/MethodHandle" ∧ y.cls ≠ "java/lang/invoke/VarHandle")
    {W9 : Nat} {Pre : Pt → Array Value → Prop} {Post : Pt → Array Value → Option Value → Pt → Prop} {PostX : Pt → Array Value → Addr → Pt → Prop} (hK : vx_Back l R p e below s args y 3 W9 Pre Post PostX)
    {g : JFrame} (hg : g.method = m) (hsize : g.locals.size = c.maxLocals) {argsL rest : List Value} (hlen : ∀ sig, parseMethodDescriptor y.desc = some sig → argsL.length = sig.parameters.length)
    (hstack : g.stack = argsL.reverse ++ rest) (hW : 2 * g.monitorRoom + (rest.map fun v => v.category).sum ≤ W9) (hdg : decode c.code g.pc = .ok (.invokestatic index, 3))
    (hpre : ∀ vm₁, s.WarmedH vm₁ → Pre ⟨T.setVm vm₁, locs, cells, slots⟩ argsL.toArray) :
    (∃ (v : Option Value) (vm₁ : Vm) (B : Pt), s.WarmedH vm₁ ∧ Stand p l e R s m args below meth c B.U B.locs B.cells B.slots ∧ Post ⟨T.setVm vm₁, locs, cells, slots⟩ argsL.toArray v B ∧
      ∀ target, Steps p.tables e below (B.U.setTop { g with pc := g.pc + 3, stack := v.toList ++ rest }) target → Steps p.tables e below (T.setTop g) target) ∨
    (∃ (q : Addr) (vm₁ : Vm) (B : Pt), s.WarmedH vm₁ ∧ Stand p l e R s m args below meth c B.U B.locs B.cells B.slots ∧ PostX ⟨T.setVm vm₁, locs, cells, slots⟩ argsL.toArray q B ∧
      Steps p.tables e below (T.setTop g) ((B.U.setTop { g with stack := rest }).pushFrame (.throwing q))) := by
  obtain ⟨mk, methM, cM, hnamed, hmethM, -, -, -, -, -, -, hsigM⟩ := Cond.codeWith_spec hcode
  have hstatic : methM.isStatic = true := Cond.static_spec hnamed hmethM hstat
  obtain ⟨kP, hkP, -⟩ := className_of_methodNamed hnamed
  have hinitP : kP.init = .initialized := Cond.initialized_spec (findClass_of_methodNamed hnamed) hkP hinit
  obtain ⟨vm₁, X₁, hstep₁⟩ := X.invokestatic hexec hown hlink hnamed hmethM hstatic hkP hinitP hy (g := g) hg (argsL := argsL) (rest := rest) (hlen _ hsigM) hstack hdg
  rcases hK m meth c ⟨T.setVm vm₁, locs, cells, slots⟩ { g with stack := rest } (.invokestatic index) mk argsL.toArray X₁ hg hsize hdg hW (X₁.named hnamed) (hpre vm₁ X₁.warmed) with ⟨v, B, X', hpost, hsteps⟩ | ⟨q, B, X', hpost, hsteps⟩
  · exact Or.inl ⟨v, vm₁, B, X₁.warmed, X', hpost, fun target h => hstep₁ _ fun acts => by rw [doInvoke_state]; exact hsteps.trans h⟩
  · exact Or.inr ⟨q, vm₁, B, X₁.warmed, X', hpost, hstep₁ _ fun acts => by rw [doInvoke_state]; exact hsteps⟩
theorem vx_callVW (X : Stand p l e R s m args below meth c T locs cells slots) (hexec : p.tables.exec = Jvm.exec) {own C : String} {index : Nat} {y : MethodName} {bytes : ByteArray} {maxL : Nat} {ret : Option FieldType} {hh : List (Nat × Nat × Nat × Nat)}
    (hown : s.vm.findClass own = some m.cls) (hlink : (Cond.methodLink own index y).before args s = true) (hinst : (Cond.instanceMethod y).before args s = true) (hsel : (Cond.selects C y y).before args s = true)
    (hcode : (Cond.codeWith y bytes maxL ret hh).before args s = true) (hy : y.cls ≠ "java/lang/invoke/MethodHandle" ∧ y.cls ≠ "java/lang/invoke/VarHandle")
    {W9 : Nat} {Pre : Pt → Array Value → Prop} {Post : Pt → Array Value → Option Value → Pt → Prop} (hK : Back l R p e below s args y 3 W9 Pre Post)
    {b : Addr} {cellB : Cell} (hcell : T.heap[b]? = some cellB) (hobj : cellB.vm.isStatics = false) (hcls : s.vm.findClass C = some cellB.cls)
    {g : JFrame} (hg : g.method = m) (hsize : g.locals.size = c.maxLocals) {argsL rest : List Value} (hlen : ∀ sig, parseMethodDescriptor y.desc = some sig → argsL.length = sig.parameters.length)
    (hstack : g.stack = argsL.reverse ++ .ref b :: rest) (hW : 2 * g.monitorRoom + (rest.map fun v => v.category).sum ≤ W9) (hdg : decode c.code g.pc = .ok (.invokevirtual index, 3))
    (hpre : ∀ vm₁, s.WarmedH vm₁ → Pre ⟨T.setVm vm₁, locs, cells, slots⟩ (Value.ref b :: argsL).toArray) :
    ∃ (v : Option Value) (vm₁ : Vm) (B : Pt), s.WarmedH vm₁ ∧ Stand p l e R s m args below meth c B.U B.locs B.cells B.slots ∧ Post ⟨T.setVm vm₁, locs, cells, slots⟩ (Value.ref b :: argsL).toArray v B ∧
      ∀ target, Steps p.tables e below (B.U.setTop { g with pc := g.pc + 3, stack := v.toList ++ rest }) target → Steps p.tables e below (T.setTop g) target := by
  obtain ⟨mk, methM, hnamed, hmethM, hstM, habM⟩ := Cond.instanceMethod_spec hinst
  obtain ⟨m8, methM', cM, hn8, hmethM', -, -, -, -, -, -, hsigM⟩ := Cond.codeWith_spec hcode
  cases Option.some.inj (hn8.symm.trans hnamed)
  cases hmethM.symm.trans hmethM'
  obtain ⟨c2, r2, m2, q1, q2, q3, q4, kP, hkP, hkPi⟩ := Cond.selects_spec hsel
  cases hcls.symm.trans q1
  cases (State.methodFound?_of_named hnamed hy).symm.trans q2
  cases hnamed.symm.trans q3
  have hselP : selectMethod e.platform s.vm cellB.cls mk = .method mk := by rw [Launch.admits_selectMethod X.admits]; exact q4
  obtain ⟨vm₁, X₁, hstep₁⟩ := X.invokevirtual hexec hown hlink hnamed hmethM hstM hkP hkPi hy (a := b) (cell := cellB) hcell
    (fun z h => by rw [h] at hobj; cases hobj) hselP hmethM habM hkP hkPi (g := g) hg (argsL := argsL) (rest := rest) (hlen _ hsigM) hstack hdg
  obtain ⟨v, B, X', hpost, hsteps⟩ := hK m meth c ⟨T.setVm vm₁, locs, cells, slots⟩ { g with stack := rest } (.invokevirtual index) mk (Value.ref b :: argsL).toArray X₁ hg hsize hdg hW (X₁.named hnamed) (hpre vm₁ X₁.warmed)
  exact ⟨v, vm₁, B, X₁.warmed, X', hpost, fun target h => hstep₁ _ fun acts => by rw [doInvoke_state]; exact hsteps.trans h⟩
abbrev vx_CVW (R : Room) (s : State) (args : Array Value) (own C : String) (index : Nat) (y : MethodName) (bytes : ByteArray) (maxL : Nat) (ret : Option FieldType) (hh : List (Nat × Nat × Nat × Nat)) (ws : List Cond) (rm : Room) (mc ms n : Nat) : Prop :=
  (rm.cells = mc ∧ rm.slots = ms ∧ rm.frames + 1 ≤ R.frames ∧ 8 + (maxL + 11) + rm.locals ≤ R.locals ∧ (∀ w ∈ ws, ∀ (a' : Array Value) (U : State), s.WarmedH U.vm → w.before a' U = true) ∧ Cond.codeWith y bytes maxL ret hh ∈ ws) ∧
  (Cond.codeWith y bytes maxL ret hh).before args s = true ∧ (Cond.initialized y.cls).before args s = true ∧ (y.cls ≠ "java/lang/invoke/MethodHandle" ∧ y.cls ≠ "java/lang/invoke/VarHandle") ∧
  (∀ sig, parseMethodDescriptor y.desc = some sig → n = sig.parameters.length) ∧ (Cond.methodLink own index y).before args s = true ∧ (Cond.instanceMethod y).before args s = true ∧ (Cond.selects C y y).before args s = true
theorem vx_cwVW {own C : String} {index maxL mc ms : Nat} {y : MethodName} {bytes : ByteArray} {ret : Option FieldType} {hh : List (Nat × Nat × Nat × Nat)} {Ts ws ws' : List Cond} {rm : Room} (n : Nat) (ht : ∀ w ∈ Ts, w.before args s = true) (hT : GoodIn Ts (wsV own index C y ws)) (hw : ws = Cond.codeWith y bytes maxL ret hh :: ws') (hrc : rm.cells = mc) (hrs : rm.slots = ms)
    (hd : y.cls = C ∧ y.cls ≠ "java/lang/invoke/MethodHandle" ∧ y.cls ≠ "java/lang/invoke/VarHandle" ∧ (parseMethodDescriptor y.desc).map (fun d => d.parameters.length) = some n) (hR : rm.frames + 1 ≤ R.frames ∧ 8 + (maxL + 11) + rm.locals ≤ R.locals) :
    vx_CVW R s args own C index y bytes maxL ret hh ws rm mc ms n := by
  obtain ⟨hC, hd⟩ := hd
  subst hC
  have ok : ∀ w ∈ wsV own index y.cls y ws, w.before args s = true := fun w h => ht w (hT w h).1
  have hG : GoodIn Ts ws := fun w h => hT w (by unfold wsV; exact List.mem_append_right _ h)
  have hc : Cond.codeWith y bytes maxL ret hh ∈ ws := by rw [hw]; exact List.mem_cons_self
  refine ⟨⟨hrc, hrs, hR.1, hR.2, pay_in ht hG, hc⟩, ht _ (hG _ hc).1, ok _ (by simp [wsV]), ⟨hd.1, hd.2.1⟩, fun sig h => ?_, ok _ (by simp [wsV]), ok _ (by simp [wsV]), ok _ (by simp [wsV])⟩
  have h2 := hd.2.2
  rw [h] at h2
  exact (Option.some.inj h2).symm
theorem vx_runVW {y : MethodName} {bytes cc : ByteArray} {maxL nL mc ms n index : Nat} {ret : Option FieldType} {hh : List (Nat × Nat × Nat × Nat)} {ws : List Cond} {rm : Room} {Pc : Array Value → State → Prop} {Qc : Array Value → State → Outcome → State → Prop} {free : Addr → Prop} {Ts : List Cond} {own C : String} {b : Addr} {As rest : List Value} {g : JFrame}
    (S : CallFix p m c cc nL s args Ts own) (hM : Met l y ws rm Pc Qc mc ms free) (cw : vx_CVW R s args own C index y bytes maxL ret hh ws rm mc ms n) (hp : PreV s H C b Pc As)
    (hg : g.method = m) (hn : As.length = n) (hsize : g.locals.size = nL) (hstack : g.stack = As.reverse ++ .ref b :: rest) (hW : 2 * g.monitorRoom + (rest.map fun v => v.category).sum ≤ 8) (hdg : decode cc g.pc = .ok (.invokevirtual index, 3)) (hf : cells + mc ≤ R.cells ∧ slots + ms ≤ R.slots) :
    va_Run p l e R s m args below meth c H locs cells slots mc ms g rest (Qc (Value.ref b :: As).toArray) free := by
  obtain ⟨⟨hrc, hrs, hfr, hlo, hws, hcw⟩, hcode, hini, hy, hlen, hl, hin, hse⟩ := cw
  have hK : Back l R p e below s args y 3 8 (PreOf R mc ms Pc) (PostOf Qc mc ms free) := va_backW (hh := hh) (bytes := bytes) (maxL := maxL) (ret := ret) hM hp.1 hrc hrs hfr hlo hws hcw (fun a' U hW => word_at hW (Or.inl (by first | rfl | simp [Cond.onTables, Cond.keeps, Cond.steady])) hini)
  obtain ⟨hx, hb, hml, ho, -⟩ := S
  obtain ⟨-, ⟨cellB, hcB, hoB, hclB⟩, hPc⟩ := hp
  intro T hT X
  obtain ⟨v, vm₁, ⟨U', l2, c2, s2⟩, hW₁, X', ⟨g', mk, t, L, e1, e2, hq, h1, hL, h2, h3⟩, st⟩ := vx_callVW X hx (C := C) (hh := hh) (bytes := bytes) (maxL := maxL) (ret := ret) ho hl hin hse hcode hy hK (by rw [hT]; exact hcB) hoB hclB hg (hsize.trans hml.symm) (argsL := As) (rest := rest) (fun sig h => hn.trans (hlen sig h)) hstack hW (by rw [hb]; exact hdg)
    (fun vm₁ hW₁ => ⟨hf.1, hf.2, hPc (T.setVm vm₁) hT hW₁⟩)
  dsimp only [Pt.U, Pt.locs, Pt.cells, Pt.slots] at X' e1 e2 h1 h2 h3 st
  subst h1; subst h2; subst h3
  exact ⟨v, (T.setVm vm₁).calling g' mk (Value.ref b :: As).toArray, t, U', L, hT, X', hL, e1, e2, hq, st⟩
section
variable {y : MethodName} {bytes cc : ByteArray} {maxL nL mc ms n index : Nat} {ret : Option FieldType} {ws : List Cond} {rm : Room} {Pc : Array Value → State → Prop} {Qc : Array Value → State → Outcome → State → Prop} {XC : String → State → State → Prop} {free : Addr → Prop} {Ts : List Cond} {own C : String} {b : Addr} {As rest : List Value} {g : JFrame}
theorem vx_runVX {hh : List (Nat × Nat × Nat × Nat)} (S : CallFix p m c cc nL s args Ts own) (hM : vx_Met l y ws rm Pc Qc XC mc ms free) (cw : vx_CVW R s args own C index y bytes maxL ret hh ws rm mc ms n) (hp : PreV s H C b Pc As)
    (hg : g.method = m) (hn : As.length = n) (hsize : g.locals.size = nL) (hstack : g.stack = As.reverse ++ .ref b :: rest) (hW : 2 * g.monitorRoom + (rest.map fun v => v.category).sum ≤ 8) (hdg : decode cc g.pc = .ok (.invokevirtual index, 3)) (hf : cells + mc ≤ R.cells ∧ slots + ms ≤ R.slots) :
    vx_Run p l e R s m args below meth c H locs cells slots mc ms g rest (Qc (Value.ref b :: As).toArray) XC free := by
  obtain ⟨⟨hrc, hrs, hfr, hlo, hws, hcw⟩, hcode, hini, hy, hlen, hl, hin, hse⟩ := cw
  have hK : vx_Back l R p e below s args y 3 8 (PreOf R mc ms Pc) (PostOf Qc mc ms free) (vx_Post XC mc ms free) := vx_backW (hh := hh) (bytes := bytes) (maxL := maxL) (ret := ret) hM hp.1 hrc hrs hfr hlo hws hcw (fun a' U hW => word_at hW (Or.inl (by first | rfl | simp [Cond.onTables, Cond.keeps, Cond.steady])) hini)
  obtain ⟨hx, hb, hml, ho, -⟩ := S
  obtain ⟨-, ⟨cellB, hcB, hoB, hclB⟩, hPc⟩ := hp
  intro T hT X
  rcases vx_callVX X hx (C := C) (hh := hh) (bytes := bytes) (maxL := maxL) (ret := ret) ho hl hin hse hcode hy hK (by rw [hT]; exact hcB) hoB hclB hg (hsize.trans hml.symm) (argsL := As) (rest := rest) (fun sig h => hn.trans (hlen sig h)) hstack hW (by rw [hb]; exact hdg)
    (fun vm₁ hW₁ => ⟨hf.1, hf.2, hPc (T.setVm vm₁) hT hW₁⟩) with ⟨v, vm₁, ⟨U', l2, c2, s2⟩, hW₁, X', ⟨g', mk, t, L, e1, e2, hq, h1, hL, h2, h3⟩, st⟩ | ⟨q, vm₁, ⟨U', l2, c2, s2⟩, hW₁, X', ⟨g', mk, t, L, E, ce, e1, e2, hq, hce, hcv, hcl, h1, hL, h2, h3⟩, st⟩
  · dsimp only [Pt.U, Pt.locs, Pt.cells, Pt.slots] at X' e1 e2 h1 h2 h3 st
    subst h1; subst h2; subst h3
    exact Or.inl ⟨v, (T.setVm vm₁).calling g' mk (Value.ref b :: As).toArray, t, U', L, hT, X', hL, e1, e2, hq, st⟩
  · dsimp only [Pt.U, Pt.locs, Pt.cells, Pt.slots] at X' e1 e2 h1 h2 h3 st hcl
    subst h1; subst h2; subst h3
    exact Or.inr ⟨q, (T.setVm vm₁).calling g' mk (Value.ref b :: As).toArray, t, U', L, E, ce, hT, X', hL, e1, e2, hq, hce, hcv, vx_cls hW₁ hcl, st⟩
theorem vx_runSX {hh : List (Nat × Nat × Nat × Nat)} (S : CallFix p m c cc nL s args Ts own) (hM : vx_Met l y ws rm Pc Qc XC mc ms free) (cw : vx_CSW R s args own index y bytes maxL ret hh ws rm mc ms n) (hp : PreS s H Pc As)
    (hg : g.method = m) (hn : As.length = n) (hsize : g.locals.size = nL) (hstack : g.stack = As.reverse ++ rest) (hW : 2 * g.monitorRoom + (rest.map fun v => v.category).sum ≤ 8) (hdg : decode cc g.pc = .ok (.invokestatic index, 3)) (hf : cells + mc ≤ R.cells ∧ slots + ms ≤ R.slots) :
    vx_Run p l e R s m args below meth c H locs cells slots mc ms g rest (Qc As.toArray) XC free := by
  obtain ⟨⟨hrc, hrs, hfr, hlo, hws, hcw⟩, hcode, hini, hy, hlen, hl, hstt⟩ := cw
  have hK : vx_Back l R p e below s args y 3 8 (PreOf R mc ms Pc) (PostOf Qc mc ms free) (vx_Post XC mc ms free) := vx_backW (hh := hh) (bytes := bytes) (maxL := maxL) (ret := ret) hM hp.1 hrc hrs hfr hlo hws hcw (fun a' U hW => word_at hW (Or.inl (by first | rfl | simp [Cond.onTables, Cond.keeps, Cond.steady])) hini)
  obtain ⟨hx, hb, hml, ho, -⟩ := S
  intro T hT X
  rcases vx_callSX X hx (hh := hh) (bytes := bytes) (maxL := maxL) (ret := ret) ho hl hstt hini hcode hy hK hg (hsize.trans hml.symm) (argsL := As) (rest := rest) (fun sig h => hn.trans (hlen sig h)) hstack hW (by rw [hb]; exact hdg)
    (fun vm₁ hW₁ => ⟨hf.1, hf.2, hp.2 (T.setVm vm₁) hT hW₁⟩) with ⟨v, vm₁, ⟨U', l2, c2, s2⟩, hW₁, X', ⟨g', mk, t, L, e1, e2, hq, h1, hL, h2, h3⟩, st⟩ | ⟨q, vm₁, ⟨U', l2, c2, s2⟩, hW₁, X', ⟨g', mk, t, L, E, ce, e1, e2, hq, hce, hcv, hcl, h1, hL, h2, h3⟩, st⟩
  · dsimp only [Pt.U, Pt.locs, Pt.cells, Pt.slots] at X' e1 e2 h1 h2 h3 st
    subst h1; subst h2; subst h3
    exact Or.inl ⟨v, (T.setVm vm₁).calling g' mk As.toArray, t, U', L, hT, X', hL, e1, e2, hq, st⟩
  · dsimp only [Pt.U, Pt.locs, Pt.cells, Pt.slots] at X' e1 e2 h1 h2 h3 st hcl
    subst h1; subst h2; subst h3
    exact Or.inr ⟨q, (T.setVm vm₁).calling g' mk As.toArray, t, U', L, E, ce, hT, X', hL, e1, e2, hq, hce, hcv, vx_cls hW₁ hcl, st⟩
end
end VXH
theorem vx_ofWH {l : Launch} {y : MethodName} {ws ws' : List Cond} {rm : Room} {Pc : Array Value → State → Prop} {Qc : Array Value → State → Outcome → State → Prop} {XC : String → State → State → Prop} {mc ms : Nat} {free : Addr → Prop} {cc : ByteArray} {maxL : Nat} {ret : Option FieldType} {hh : List (Nat × Nat × Nat × Nat)}
    (hy : plainName y.cls = true) (hw : ws = Cond.codeWith y cc maxL ret hh :: ws')
    (body : ∀ p e s m args below meth c s₁, BodyLoose p l y (headSpec ws rm) cc maxL ret e s m args below meth c s₁ → c.maxLocals = maxL → Pc args s →
      W p l e (headSpec ws rm).room s m args below meth c s.heap [] 0 0 (vx_MQ below Qc XC args s mc ms free) (entryFrame m args maxL)) : vx_Met l y ws rm Pc Qc XC mc ms free := by
  refine MetFree.of_bodyS (code := cc) (maxLocals := maxL) (ret := ret) hy ?_ ?_
  · intro args s m h hn
    obtain ⟨m9, meth, c, hn9, h1, h2, h3, h4, -, h5, h6, -⟩ := Cond.codeWith_spec (atoms_spec (ws := ws) h _ (by rw [hw]; exact List.mem_cons_self))
    cases hn.symm.trans hn9
    exact ⟨meth, c, h1, h2, h3, h4, h5, h6⟩
  · intro p e s m args below meth c s₁ B hml hP _
    have hh0 : s₁.heap = s.heap := by rw [B.state]; rfl
    obtain ⟨t, a1, o, b1, b2, b3⟩ := body p e s m args below meth c s₁ B hml hP s₁ hh0 (Stand.of_body B)
    exact ⟨t, o, a1, b1, b2, b3⟩
/-! ===== END ===== -/
end
section
/-! ===== BEGIN printed: names, fields, word lists, decode rows ===== -/
def RX0 : String := "FlowGrid$Faces"
def TX0 : u_T := fun k => match k with
  | 0 => ("FlowGrid$Faces", "depthSlopes", "[D", true)
  | 1 => ("FlowGrid$Faces", "momentumSlopes", "[D", true)
  | 2 => ("FlowGrid$Faces", "depthFluxes", "[D", true)
  | 3 => ("FlowGrid$Faces", "momentumFluxes", "[D", true)
  | 4 => ("FlowGrid$Faces", "left", "LFlowGrid$State;", true)
  | _ => ("FlowGrid$Faces", "right", "LFlowGrid$State;", true)
def tyX0 : Nat → FieldType := fun k => match k with
  | 0 => .array .double
  | 1 => .array .double
  | 2 => .array .double
  | 3 => .array .double
  | 4 => .object "FlowGrid$State"
  | _ => .object "FlowGrid$State"
abbrev wsX00 : List Cond := u_ws RX0 TX0 6
theorem nmX0 : ∀ a, a < 6 → ∀ b, b < 6 → a ≠ b → (TX0 a).2.1 ≠ (TX0 b).2.1 := by decide +kernel
theorem tyX0_ok : ∀ k, k < 6 → parseFieldDescriptor (TX0 k).2.2.1 = some (tyX0 k) := by decide +kernel
abbrev cX0_init : ByteArray := prog_2_method_1_code
def yX0_init : MethodName := ⟨RX0, "<init>", "()V"⟩
abbrev cX0_measure : ByteArray := prog_2_method_2_code
def yX0_measure : MethodName := ⟨RX0, "measure", "(LFlowGrid$Row;II)V"⟩
abbrev cX0_fillSlopes : ByteArray := prog_2_method_3_code
def yX0_fillSlopes : MethodName := ⟨RX0, "fillSlopes", "(LFlowGrid$Row;I)V"⟩
abbrev cX0_slopeAt : ByteArray := prog_2_method_4_code
def yX0_slopeAt : MethodName := ⟨RX0, "slopeAt", "([DII)D"⟩
abbrev cX0_nearer : ByteArray := prog_2_method_5_code
def yX0_nearer : MethodName := ⟨RX0, "nearer", "(DD)D"⟩
abbrev cX0_farther : ByteArray := prog_2_method_6_code
def yX0_farther : MethodName := ⟨RX0, "farther", "(DD)D"⟩
abbrev cX0_guess : ByteArray := prog_2_method_7_code
def yX0_guess : MethodName := ⟨RX0, "guess", "(LFlowGrid$Row;I)V"⟩
abbrev cX0_solveBroad : ByteArray := prog_2_method_8_code
def yX0_solveBroad : MethodName := ⟨RX0, "solveBroad", "(I)V"⟩
abbrev cX0_solveNarrow : ByteArray := prog_2_method_9_code
def yX0_solveNarrow : MethodName := ⟨RX0, "solveNarrow", "(I)V"⟩
abbrev cX0_blend : ByteArray := prog_2_method_10_code
def yX0_blend : MethodName := ⟨RX0, "blend", "(DDDDD)D"⟩
def RX1 : String := "FlowGrid$Row"
def TX1 : u_T := fun k => match k with
  | 0 => ("FlowGrid$Row", "depths", "[D", true)
  | 1 => ("FlowGrid$Row", "momenta", "[D", true)
  | _ => ("FlowGrid$Row", "size", "I", false)
def tyX1 : Nat → FieldType := fun k => match k with
  | 0 => .array .double
  | 1 => .array .double
  | _ => .int
abbrev wsX10 : List Cond := u_ws RX1 TX1 3
theorem nmX1 : ∀ a, a < 3 → ∀ b, b < 3 → a ≠ b → (TX1 a).2.1 ≠ (TX1 b).2.1 := by decide +kernel
theorem tyX1_ok : ∀ k, k < 3 → parseFieldDescriptor (TX1 k).2.2.1 = some (tyX1 k) := by decide +kernel
abbrev cX1_init : ByteArray := prog_3_method_1_code
def yX1_init : MethodName := ⟨RX1, "<init>", "()V"⟩
abbrev cX1_has : ByteArray := prog_3_method_2_code
def yX1_has : MethodName := ⟨RX1, "has", "(I)Z"⟩
abbrev cX1_level : ByteArray := prog_3_method_3_code
def yX1_level : MethodName := ⟨RX1, "level", "(I)V"⟩
abbrev cX1_become : ByteArray := prog_3_method_4_code
def yX1_become : MethodName := ⟨RX1, "become", "(LFlowGrid$Row;)V"⟩
abbrev cX1_fillEnds : ByteArray := prog_3_method_5_code
def yX1_fillEnds : MethodName := ⟨RX1, "fillEnds", "(I)V"⟩
abbrev cX1_copy : ByteArray := prog_3_method_6_code
def yX1_copy : MethodName := ⟨RX1, "copy", "(II)V"⟩
abbrev cX1_mirror : ByteArray := prog_3_method_7_code
def yX1_mirror : MethodName := ⟨RX1, "mirror", "(II)V"⟩
abbrev cX1_move : ByteArray := prog_3_method_8_code
def yX1_move : MethodName := ⟨RX1, "move", "(DLFlowGrid$Faces;)V"⟩
abbrev cX1_hasFailed : ByteArray := prog_3_method_9_code
def yX1_hasFailed : MethodName := ⟨RX1, "hasFailed", "()Z"⟩
abbrev cX1_meet : ByteArray := prog_3_method_10_code
def yX1_meet : MethodName := ⟨RX1, "meet", "(LFlowGrid$Row;)V"⟩
abbrev cX1_longestTime : ByteArray := prog_3_method_11_code
def yX1_longestTime : MethodName := ⟨RX1, "longestTime", "(D)D"⟩
abbrev cX1_total : ByteArray := prog_3_method_12_code
def yX1_total : MethodName := ⟨RX1, "total", "([D)D"⟩
def RX2 : String := "FlowGrid$State"
def TX2 : u_T := fun k => match k with
  | 0 => ("FlowGrid$State", "h", "D", false)
  | 1 => ("FlowGrid$State", "m", "D", false)
  | 2 => ("FlowGrid$State", "speed", "D", false)
  | _ => ("FlowGrid$State", "wave", "D", false)
def tyX2 : Nat → FieldType := fun k => match k with
  | 0 => .double
  | 1 => .double
  | 2 => .double
  | _ => .double
abbrev wsX20 : List Cond := u_ws RX2 TX2 4
theorem nmX2 : ∀ a, a < 4 → ∀ b, b < 4 → a ≠ b → (TX2 a).2.1 ≠ (TX2 b).2.1 := by decide +kernel
theorem tyX2_ok : ∀ k, k < 4 → parseFieldDescriptor (TX2 k).2.2.1 = some (tyX2 k) := by decide +kernel
abbrev cX2_init : ByteArray := prog_4_method_1_code
def yX2_init : MethodName := ⟨RX2, "<init>", "()V"⟩
abbrev cX2_become : ByteArray := prog_4_method_2_code
def yX2_become : MethodName := ⟨RX2, "become", "(DD)V"⟩
abbrev cX2_reach : ByteArray := prog_4_method_3_code
def yX2_reach : MethodName := ⟨RX2, "reach", "()D"⟩
abbrev cX2_depthFlux : ByteArray := prog_4_method_4_code
def yX2_depthFlux : MethodName := ⟨RX2, "depthFlux", "()D"⟩
abbrev cX2_momentumFlux : ByteArray := prog_4_method_5_code
def yX2_momentumFlux : MethodName := ⟨RX2, "momentumFlux", "()D"⟩
def RX3 : String := "FlowGrid"
def TX3 : u_T := fun k => match k with
  | 0 => ("FlowGrid", "now", "LFlowGrid$Row;", true)
  | 1 => ("FlowGrid", "trial", "LFlowGrid$Row;", true)
  | 2 => ("FlowGrid", "faces", "LFlowGrid$Faces;", true)
  | 3 => ("FlowGrid", "ends", "I", false)
  | 4 => ("FlowGrid", "limiter", "I", false)
  | 5 => ("FlowGrid", "solver", "I", false)
  | 6 => ("FlowGrid", "order", "I", false)
  | 7 => ("FlowGrid", "gone", "D", false)
  | 8 => ("FlowGrid", "stepsMade", "I", false)
  | 9 => ("FlowGrid", "triesFailed", "I", false)
  | _ => ("FlowGrid", "stepsRefused", "I", false)
def tyX3 : Nat → FieldType := fun k => match k with
  | 0 => .object "FlowGrid$Row"
  | 1 => .object "FlowGrid$Row"
  | 2 => .object "FlowGrid$Faces"
  | 3 => .int
  | 4 => .int
  | 5 => .int
  | 6 => .int
  | 7 => .double
  | 8 => .int
  | 9 => .int
  | _ => .int
abbrev wsX30 : List Cond := u_ws RX3 TX3 11
theorem nmX3 : ∀ a, a < 11 → ∀ b, b < 11 → a ≠ b → (TX3 a).2.1 ≠ (TX3 b).2.1 := by decide +kernel
theorem tyX3_ok : ∀ k, k < 11 → parseFieldDescriptor (TX3 k).2.2.1 = some (tyX3 k) := by decide +kernel
abbrev cX3_init : ByteArray := prog_1_method_1_code
def yX3_init : MethodName := ⟨RX3, "<init>", "()V"⟩
abbrev cX3_cells : ByteArray := prog_1_method_2_code
def yX3_cells : MethodName := ⟨RX3, "cells", "(I)V"⟩
abbrev cX3_choose : ByteArray := prog_1_method_3_code
def yX3_choose : MethodName := ⟨RX3, "choose", "(IIII)V"⟩
abbrev cX3_put : ByteArray := prog_1_method_4_code
def yX3_put : MethodName := ⟨RX3, "put", "(IDD)V"⟩
abbrev cX3_step : ByteArray := prog_1_method_5_code
def yX3_step : MethodName := ⟨RX3, "step", "(D)D"⟩
abbrev cX3_run : ByteArray := prog_1_method_6_code
def yX3_run : MethodName := ⟨RX3, "run", "(D)I"⟩
abbrev cX3_cell : ByteArray := prog_1_method_7_code
def yX3_cell : MethodName := ⟨RX3, "cell", "(II)D"⟩
abbrev cX3_flux : ByteArray := prog_1_method_8_code
def yX3_flux : MethodName := ⟨RX3, "flux", "(IZ)D"⟩
abbrev cX3_sum : ByteArray := prog_1_method_9_code
def yX3_sum : MethodName := ⟨RX3, "sum", "(Z)D"⟩
abbrev cX3_time : ByteArray := prog_1_method_10_code
def yX3_time : MethodName := ⟨RX3, "time", "()D"⟩
abbrev cX3_count : ByteArray := prog_1_method_11_code
def yX3_count : MethodName := ⟨RX3, "count", "(I)I"⟩
abbrev cX3_advance : ByteArray := prog_1_method_12_code
def yX3_advance : MethodName := ⟨RX3, "advance", "(D)D"⟩
abbrev cX3_succeeds : ByteArray := prog_1_method_13_code
def yX3_succeeds : MethodName := ⟨RX3, "succeeds", "(D)Z"⟩
abbrev cX3_isWithin : ByteArray := prog_1_method_14_code
def yX3_isWithin : MethodName := ⟨RX3, "isWithin", "(III)Z"⟩
abbrev cX3_isSpan : ByteArray := prog_1_method_15_code
def yX3_isSpan : MethodName := ⟨RX3, "isSpan", "(D)Z"⟩
abbrev cX3_root : ByteArray := prog_1_method_16_code
def yX3_root : MethodName := ⟨RX3, "root", "(D)D"⟩
abbrev cX3_speedOf : ByteArray := prog_1_method_17_code
def yX3_speedOf : MethodName := ⟨RX3, "speedOf", "(DD)D"⟩
abbrev cX3_absolute : ByteArray := prog_1_method_18_code
def yX3_absolute : MethodName := ⟨RX3, "absolute", "(D)D"⟩
abbrev cX3_greater : ByteArray := prog_1_method_19_code
def yX3_greater : MethodName := ⟨RX3, "greater", "(DD)D"⟩
abbrev cX3_lesser : ByteArray := prog_1_method_20_code
def yX3_lesser : MethodName := ⟨RX3, "lesser", "(DD)D"⟩
def RX4 : String := "FlowGridModel"
def TX4 : u_T := fun k => match k with
  | 0 => ("FlowGridModel", "thrown", "I", false)
  | 1 => ("FlowGridModel", "n", "I", false)
  | 2 => ("FlowGridModel", "ends", "I", false)
  | 3 => ("FlowGridModel", "limiter", "I", false)
  | 4 => ("FlowGridModel", "solver", "I", false)
  | 5 => ("FlowGridModel", "order", "I", false)
  | 6 => ("FlowGridModel", "time", "D", false)
  | 7 => ("FlowGridModel", "steps", "I", false)
  | 8 => ("FlowGridModel", "failed", "I", false)
  | 9 => ("FlowGridModel", "refused", "I", false)
  | 10 => ("FlowGridModel", "depth", "[D", true)
  | 11 => ("FlowGridModel", "momentum", "[D", true)
  | 12 => ("FlowGridModel", "slopeH", "D", false)
  | 13 => ("FlowGridModel", "slopeM", "D", false)
  | 14 => ("FlowGridModel", "leftH", "D", false)
  | 15 => ("FlowGridModel", "leftM", "D", false)
  | 16 => ("FlowGridModel", "rightH", "D", false)
  | 17 => ("FlowGridModel", "rightM", "D", false)
  | 18 => ("FlowGridModel", "fluxH", "D", false)
  | _ => ("FlowGridModel", "fluxM", "D", false)
def tyX4 : Nat → FieldType := fun k => match k with
  | 0 => .int
  | 1 => .int
  | 2 => .int
  | 3 => .int
  | 4 => .int
  | 5 => .int
  | 6 => .double
  | 7 => .int
  | 8 => .int
  | 9 => .int
  | 10 => .array .double
  | 11 => .array .double
  | 12 => .double
  | 13 => .double
  | 14 => .double
  | 15 => .double
  | 16 => .double
  | 17 => .double
  | 18 => .double
  | _ => .double
abbrev wsX40 : List Cond := u_ws RX4 TX4 20
theorem nmX4 : ∀ a, a < 20 → ∀ b, b < 20 → a ≠ b → (TX4 a).2.1 ≠ (TX4 b).2.1 := by decide +kernel
theorem tyX4_ok : ∀ k, k < 20 → parseFieldDescriptor (TX4 k).2.2.1 = some (tyX4 k) := by decide +kernel
abbrev cX4_init : ByteArray := prog_6_method_1_code
def yX4_init : MethodName := ⟨RX4, "<init>", "()V"⟩
abbrev cX4_thrown : ByteArray := prog_6_method_2_code
def yX4_thrown : MethodName := ⟨RX4, "thrown", "()I"⟩
abbrev cX4_fails : ByteArray := prog_6_method_3_code
def yX4_fails : MethodName := ⟨RX4, "fails", "(ZI)Z"⟩
abbrev cX4_out : ByteArray := prog_6_method_4_code
def yX4_out : MethodName := ⟨RX4, "out", "(III)Z"⟩
abbrev cX4_empty : ByteArray := prog_6_method_5_code
def yX4_empty : MethodName := ⟨RX4, "empty", "(I)V"⟩
abbrev cX4_cells : ByteArray := prog_6_method_6_code
def yX4_cells : MethodName := ⟨RX4, "cells", "(I)V"⟩
abbrev cX4_choose : ByteArray := prog_6_method_7_code
def yX4_choose : MethodName := ⟨RX4, "choose", "(IIII)V"⟩
abbrev cX4_within : ByteArray := prog_6_method_8_code
def yX4_within : MethodName := ⟨RX4, "within", "(DDD)Z"⟩
abbrev cX4_put : ByteArray := prog_6_method_9_code
def yX4_put : MethodName := ⟨RX4, "put", "(IDD)V"⟩
abbrev cX4_root : ByteArray := prog_6_method_10_code
def yX4_root : MethodName := ⟨RX4, "root", "(D)D"⟩
abbrev cX4_size : ByteArray := prog_6_method_11_code
def yX4_size : MethodName := ⟨RX4, "size", "(D)D"⟩
abbrev cX4_greater : ByteArray := prog_6_method_12_code
def yX4_greater : MethodName := ⟨RX4, "greater", "(DD)D"⟩
abbrev cX4_lesser : ByteArray := prog_6_method_13_code
def yX4_lesser : MethodName := ⟨RX4, "lesser", "(DD)D"⟩
abbrev cX4_least : ByteArray := prog_6_method_14_code
def yX4_least : MethodName := ⟨RX4, "least", "(DD)D"⟩
abbrev cX4_force : ByteArray := prog_6_method_15_code
def yX4_force : MethodName := ⟨RX4, "force", "(DD)D"⟩
abbrev cX4_speed : ByteArray := prog_6_method_16_code
def yX4_speed : MethodName := ⟨RX4, "speed", "(DD)D"⟩
abbrev cX4_close : ByteArray := prog_6_method_17_code
def yX4_close : MethodName := ⟨RX4, "close", "(I)V"⟩
abbrev cX4_slope : ByteArray := prog_6_method_18_code
def yX4_slope : MethodName := ⟨RX4, "slope", "(DD)D"⟩
abbrev cX4_slopes : ByteArray := prog_6_method_19_code
def yX4_slopes : MethodName := ⟨RX4, "slopes", "(I)V"⟩
abbrev cX4_broad : ByteArray := prog_6_method_20_code
def yX4_broad : MethodName := ⟨RX4, "broad", "(DDDDD)D"⟩
abbrev cX4_narrow : ByteArray := prog_6_method_21_code
def yX4_narrow : MethodName := ⟨RX4, "narrow", "(DDDDDD)D"⟩
abbrev cX4_face : ByteArray := prog_6_method_22_code
def yX4_face : MethodName := ⟨RX4, "face", "(II)V"⟩
abbrev cX4_stage : ByteArray := prog_6_method_23_code
def yX4_stage : MethodName := ⟨RX4, "stage", "(IID)Z"⟩
abbrev cX4_tried : ByteArray := prog_6_method_24_code
def yX4_tried : MethodName := ⟨RX4, "tried", "(D)Z"⟩
abbrev cX4_bounded : ByteArray := prog_6_method_25_code
def yX4_bounded : MethodName := ⟨RX4, "bounded", "(D)D"⟩
abbrev cX4_made : ByteArray := prog_6_method_26_code
def yX4_made : MethodName := ⟨RX4, "made", "(D)D"⟩
abbrev cX4_isTime : ByteArray := prog_6_method_27_code
def yX4_isTime : MethodName := ⟨RX4, "isTime", "(D)Z"⟩
abbrev cX4_step : ByteArray := prog_6_method_28_code
def yX4_step : MethodName := ⟨RX4, "step", "(D)D"⟩
abbrev cX4_run : ByteArray := prog_6_method_29_code
def yX4_run : MethodName := ⟨RX4, "run", "(D)I"⟩
abbrev cX4_cell : ByteArray := prog_6_method_30_code
def yX4_cell : MethodName := ⟨RX4, "cell", "(II)D"⟩
abbrev cX4_flux : ByteArray := prog_6_method_31_code
def yX4_flux : MethodName := ⟨RX4, "flux", "(IZ)D"⟩
abbrev cX4_sum : ByteArray := prog_6_method_32_code
def yX4_sum : MethodName := ⟨RX4, "sum", "(Z)D"⟩
abbrev cX4_time : ByteArray := prog_6_method_33_code
def yX4_time : MethodName := ⟨RX4, "time", "()D"⟩
abbrev cX4_count : ByteArray := prog_6_method_34_code
def yX4_count : MethodName := ⟨RX4, "count", "(I)I"⟩
def RJ0 : String := "java/lang/String"
def TJ0 : u_T := fun k => match k with
  | _ => ("", "", "", false)
def tyJ0 : Nat → FieldType := fun k => match k with
  | _ => .int
abbrev wsJ00 : List Cond := u_ws RJ0 TJ0 0
theorem nmJ0 : ∀ a, a < 0 → ∀ b, b < 0 → a ≠ b → (TJ0 a).2.1 ≠ (TJ0 b).2.1 := by decide +kernel
theorem tyJ0_ok : ∀ k, k < 0 → parseFieldDescriptor (TJ0 k).2.2.1 = some (tyJ0 k) := by decide +kernel
def RJ10 : String := "java/lang/System"
def TJ10 : u_T := fun k => match k with
  | _ => ("", "", "", false)
def tyJ10 : Nat → FieldType := fun k => match k with
  | _ => .int
abbrev wsJ100 : List Cond := u_ws RJ10 TJ10 0
theorem nmJ10 : ∀ a, a < 0 → ∀ b, b < 0 → a ≠ b → (TJ10 a).2.1 ≠ (TJ10 b).2.1 := by decide +kernel
theorem tyJ10_ok : ∀ k, k < 0 → parseFieldDescriptor (TJ10 k).2.2.1 = some (tyJ10 k) := by decide +kernel
def RL : String := "FlowGridLaw"
abbrev cL_cells : ByteArray := method_3_code
def yL_cells : MethodName := ⟨RL, "cells", "(LFlowGrid;I)I"⟩
abbrev cL_choose : ByteArray := method_4_code
def yL_choose : MethodName := ⟨RL, "choose", "(LFlowGrid;IIII)I"⟩
abbrev cL_put : ByteArray := method_5_code
def yL_put : MethodName := ⟨RL, "put", "(LFlowGrid;IDD)I"⟩
abbrev cL_step : ByteArray := method_6_code
def yL_step : MethodName := ⟨RL, "step", "(LFlowGrid;D[D)I"⟩
abbrev cL_run : ByteArray := method_7_code
def yL_run : MethodName := ⟨RL, "run", "(LFlowGrid;D[J)I"⟩
abbrev cL_cell : ByteArray := method_8_code
def yL_cell : MethodName := ⟨RL, "cell", "(LFlowGrid;II[D)I"⟩
abbrev cL_flux : ByteArray := method_9_code
def yL_flux : MethodName := ⟨RL, "flux", "(LFlowGrid;IZ[D)I"⟩
abbrev cL_count : ByteArray := method_10_code
def yL_count : MethodName := ⟨RL, "count", "(LFlowGrid;I[J)I"⟩
abbrev cL_law : ByteArray := code
def yL_law : MethodName := ⟨RL, "law", "([I)Z"⟩
def wsX2_init : List Cond := .code yX2_init cX2_init 1 none :: ([.methodLink RX2 1 objectInit, .instanceMethod objectInit, .code objectInit ⟨#[0xb1]⟩ 1 none, .fieldLink RX2 7 "FlowGrid$State" "h" "D", .fieldLink RX2 13 "FlowGrid$State" "m" "D", .fieldLink RX2 16 "FlowGrid$State" "speed" "D", .fieldLink RX2 19 "FlowGrid$State" "wave" "D"] ++ wsX20)
def wsX0_init : List Cond := .code yX0_init cX0_init 1 none :: ([.methodLink RX0 3 objectInit, .instanceMethod objectInit, .code objectInit ⟨#[0xb1]⟩ 1 none, .arrayClass .double, .fieldLink RX0 9 "FlowGrid$Faces" "depthSlopes" "[D", .fieldLink RX0 15 "FlowGrid$Faces" "momentumSlopes" "[D", .fieldLink RX0 18 "FlowGrid$Faces" "depthFluxes" "[D", .fieldLink RX0 21 "FlowGrid$Faces" "momentumFluxes" "[D", .classLink RX0 24 RX2, .instantiable RX2 4, .initialized RX2, .fieldLink RX0 27 "FlowGrid$Faces" "left" "LFlowGrid$State;", .fieldLink RX0 31 "FlowGrid$Faces" "right" "LFlowGrid$State;", .instanceMethod yX2_init, .code yX2_init cX2_init 1 none, .methodLink RX2 1 objectInit, .fieldLink RX2 7 "FlowGrid$State" "h" "D", .fieldLink RX2 13 "FlowGrid$State" "m" "D", .fieldLink RX2 16 "FlowGrid$State" "speed" "D", .fieldLink RX2 19 "FlowGrid$State" "wave" "D"] ++ wsX00 ++ wsX20)
def wsX0_nearer : List Cond := .code yX0_nearer cX0_nearer 4 (some .double) :: ([])
def wsX0_farther : List Cond := .code yX0_farther cX0_farther 4 (some .double) :: ([])
def wsX0_slopeAt : List Cond := .code yX0_slopeAt cX0_slopeAt 8 (some .double) :: ([.constantDouble RX0 72 (4611686018427387904), .methodLink RX0 68 yX0_nearer, .static yX0_nearer, .initialized RX0, .code yX0_nearer cX0_nearer 4 (some .double), .methodLink RX0 74 yX0_farther, .static yX0_farther, .code yX0_farther cX0_farther 4 (some .double)])
def wsX0_fillSlopes : List Cond := .code yX0_fillSlopes cX0_fillSlopes 9 none :: ([.fieldLink RX0 38 "FlowGrid$Row" "size" "I", .fieldLink RX0 54 "FlowGrid$Row" "depths" "[D", .constantDouble RX0 61 (4602678819172646912), .constantDouble RX0 63 (4576918229304087675), .fieldLink RX0 9 "FlowGrid$Faces" "depthSlopes" "[D", .fieldLink RX0 15 "FlowGrid$Faces" "momentumSlopes" "[D", .fieldLink RX0 65 "FlowGrid$Row" "momenta" "[D", .methodLink RX0 57 yX0_slopeAt, .instanceMethod yX0_slopeAt, .selects RX0 yX0_slopeAt yX0_slopeAt, .initialized RX0, .code yX0_slopeAt cX0_slopeAt 8 (some .double), .constantDouble RX0 72 (4611686018427387904), .methodLink RX0 68 yX0_nearer, .static yX0_nearer, .code yX0_nearer cX0_nearer 4 (some .double), .methodLink RX0 74 yX0_farther, .static yX0_farther, .code yX0_farther cX0_farther 4 (some .double)] ++ wsX10 ++ wsX00)
def wsX3_speedOf : List Cond := .code yX3_speedOf cX3_speedOf 4 (some .double) :: ([])
def wsX3_root : List Cond := .code yX3_root cX3_root 5 (some .double) :: ([.constantDouble RX3 148 (4602678819172646912)])
def wsX2_become : List Cond := .code yX2_become cX2_become 5 none :: ([.fieldLink RX2 7 "FlowGrid$State" "h" "D", .fieldLink RX2 13 "FlowGrid$State" "m" "D", .fieldLink RX2 16 "FlowGrid$State" "speed" "D", .fieldLink RX2 19 "FlowGrid$State" "wave" "D", .static yX3_speedOf, .initialized RX3, .code yX3_speedOf cX3_speedOf 4 (some .double), .static yX3_root, .code yX3_root cX3_root 5 (some .double), .constantDouble RX3 148 (4602678819172646912)] ++ wsX20)
def wsX0_guess : List Cond := .code yX0_guess cX0_guess 5 none :: ([.fieldLink RX0 27 "FlowGrid$Faces" "left" "LFlowGrid$State;", .fieldLink RX0 54 "FlowGrid$Row" "depths" "[D", .constantDouble RX0 61 (4602678819172646912), .fieldLink RX0 9 "FlowGrid$Faces" "depthSlopes" "[D", .fieldLink RX0 65 "FlowGrid$Row" "momenta" "[D", .fieldLink RX0 15 "FlowGrid$Faces" "momentumSlopes" "[D", .fieldLink RX0 31 "FlowGrid$Faces" "right" "LFlowGrid$State;", .methodLink RX0 77 yX2_become, .instanceMethod yX2_become, .selects RX2 yX2_become yX2_become, .initialized RX2, .code yX2_become cX2_become 5 none, .fieldLink RX2 7 "FlowGrid$State" "h" "D", .fieldLink RX2 13 "FlowGrid$State" "m" "D", .fieldLink RX2 16 "FlowGrid$State" "speed" "D", .fieldLink RX2 19 "FlowGrid$State" "wave" "D", .static yX3_speedOf, .initialized RX3, .code yX3_speedOf cX3_speedOf 4 (some .double), .static yX3_root, .code yX3_root cX3_root 5 (some .double), .constantDouble RX3 148 (4602678819172646912)] ++ wsX00 ++ wsX10 ++ wsX20)
def wsX3_lesser : List Cond := .code yX3_lesser cX3_lesser 4 (some .double) :: ([])
def wsX3_greater : List Cond := .code yX3_greater cX3_greater 4 (some .double) :: ([])
def wsX2_depthFlux : List Cond := .code yX2_depthFlux cX2_depthFlux 1 (some .double) :: ([.fieldLink RX2 13 "FlowGrid$State" "m" "D"] ++ wsX20)
def wsX0_blend : List Cond := .code yX0_blend cX0_blend 10 (some .double) :: ([])
def wsX2_momentumFlux : List Cond := .code yX2_momentumFlux cX2_momentumFlux 1 (some .double) :: ([.fieldLink RX2 13 "FlowGrid$State" "m" "D", .fieldLink RX2 16 "FlowGrid$State" "speed" "D", .constantDouble RX2 35 (4602678819172646912), .fieldLink RX2 7 "FlowGrid$State" "h" "D"] ++ wsX20)
def wsX0_solveNarrow_r1 : List Cond := [Cond.fieldLink RX0 27 "FlowGrid$Faces" "left" "LFlowGrid$State;", Cond.fieldLink RX0 101 "FlowGrid$State" "speed" "D", Cond.fieldLink RX0 104 "FlowGrid$State" "wave" "D", Cond.fieldLink RX0 31 "FlowGrid$Faces" "right" "LFlowGrid$State;", Cond.fieldLink RX0 18 "FlowGrid$Faces" "depthFluxes" "[D", Cond.fieldLink RX0 91 "FlowGrid$State" "h" "D", Cond.fieldLink RX0 21 "FlowGrid$Faces" "momentumFluxes" "[D", Cond.fieldLink RX0 98 "FlowGrid$State" "m" "D", Cond.static yX3_lesser, Cond.initialized RX3, Cond.code yX3_lesser cX3_lesser 4 (some .double), Cond.static yX3_greater, Cond.code yX3_greater cX3_greater 4 (some .double), Cond.methodLink RX0 88 yX2_depthFlux, Cond.instanceMethod yX2_depthFlux, Cond.selects RX2 yX2_depthFlux yX2_depthFlux, Cond.initialized RX2, Cond.code yX2_depthFlux cX2_depthFlux 1 (some .double), Cond.fieldLink RX2 13 "FlowGrid$State" "m" "D", Cond.methodLink RX0 110 yX0_blend, Cond.static yX0_blend, Cond.initialized RX0, Cond.code yX0_blend cX0_blend 10 (some .double), Cond.methodLink RX0 95 yX2_momentumFlux]
def wsX0_solveNarrow_r2 : List Cond := [Cond.instanceMethod yX2_momentumFlux, Cond.selects RX2 yX2_momentumFlux yX2_momentumFlux, Cond.code yX2_momentumFlux cX2_momentumFlux 1 (some .double), Cond.fieldLink RX2 16 "FlowGrid$State" "speed" "D", Cond.constantDouble RX2 35 (4602678819172646912), Cond.fieldLink RX2 7 "FlowGrid$State" "h" "D"]
def wsX0_solveNarrow : List Cond := .code yX0_solveNarrow cX0_solveNarrow 6 none :: ((wsX0_solveNarrow_r1 ++ wsX0_solveNarrow_r2) ++ wsX00 ++ wsX20)
def wsX3_absolute : List Cond := .code yX3_absolute cX3_absolute 2 (some .double) :: ([])
def wsX2_reach : List Cond := .code yX2_reach cX2_reach 1 (some .double) :: ([.fieldLink RX2 16 "FlowGrid$State" "speed" "D", .fieldLink RX2 19 "FlowGrid$State" "wave" "D", .static yX3_absolute, .initialized RX3, .code yX3_absolute cX3_absolute 2 (some .double)] ++ wsX20)
def wsX0_solveBroad_r1 : List Cond := [Cond.fieldLink RX0 27 "FlowGrid$Faces" "left" "LFlowGrid$State;", Cond.fieldLink RX0 31 "FlowGrid$Faces" "right" "LFlowGrid$State;", Cond.fieldLink RX0 18 "FlowGrid$Faces" "depthFluxes" "[D", Cond.constantDouble RX0 61 (4602678819172646912), Cond.fieldLink RX0 91 "FlowGrid$State" "h" "D", Cond.fieldLink RX0 21 "FlowGrid$Faces" "momentumFluxes" "[D", Cond.fieldLink RX0 98 "FlowGrid$State" "m" "D", Cond.methodLink RX0 81 yX2_reach, Cond.instanceMethod yX2_reach, Cond.selects RX2 yX2_reach yX2_reach, Cond.initialized RX2, Cond.code yX2_reach cX2_reach 1 (some .double), Cond.fieldLink RX2 16 "FlowGrid$State" "speed" "D", Cond.fieldLink RX2 19 "FlowGrid$State" "wave" "D", Cond.static yX3_absolute, Cond.initialized RX3, Cond.code yX3_absolute cX3_absolute 2 (some .double), Cond.static yX3_greater, Cond.code yX3_greater cX3_greater 4 (some .double), Cond.methodLink RX0 88 yX2_depthFlux, Cond.instanceMethod yX2_depthFlux, Cond.selects RX2 yX2_depthFlux yX2_depthFlux, Cond.code yX2_depthFlux cX2_depthFlux 1 (some .double), Cond.fieldLink RX2 13 "FlowGrid$State" "m" "D"]
def wsX0_solveBroad_r2 : List Cond := [Cond.methodLink RX0 95 yX2_momentumFlux, Cond.instanceMethod yX2_momentumFlux, Cond.selects RX2 yX2_momentumFlux yX2_momentumFlux, Cond.code yX2_momentumFlux cX2_momentumFlux 1 (some .double), Cond.constantDouble RX2 35 (4602678819172646912), Cond.fieldLink RX2 7 "FlowGrid$State" "h" "D"]
def wsX0_solveBroad : List Cond := .code yX0_solveBroad cX0_solveBroad 4 none :: ((wsX0_solveBroad_r1 ++ wsX0_solveBroad_r2) ++ wsX00 ++ wsX20)
def wsX0_measure_r1 : List Cond := [Cond.fieldLink RX0 38 "FlowGrid$Row" "size" "I", Cond.methodLink RX0 34 yX0_fillSlopes, Cond.instanceMethod yX0_fillSlopes, Cond.selects RX0 yX0_fillSlopes yX0_fillSlopes, Cond.initialized RX0, Cond.code yX0_fillSlopes cX0_fillSlopes 9 none, Cond.fieldLink RX0 54 "FlowGrid$Row" "depths" "[D", Cond.constantDouble RX0 61 (4602678819172646912), Cond.constantDouble RX0 63 (4576918229304087675), Cond.fieldLink RX0 9 "FlowGrid$Faces" "depthSlopes" "[D", Cond.fieldLink RX0 15 "FlowGrid$Faces" "momentumSlopes" "[D", Cond.fieldLink RX0 65 "FlowGrid$Row" "momenta" "[D", Cond.methodLink RX0 57 yX0_slopeAt, Cond.instanceMethod yX0_slopeAt, Cond.selects RX0 yX0_slopeAt yX0_slopeAt, Cond.code yX0_slopeAt cX0_slopeAt 8 (some .double), Cond.constantDouble RX0 72 (4611686018427387904), Cond.methodLink RX0 68 yX0_nearer, Cond.static yX0_nearer, Cond.code yX0_nearer cX0_nearer 4 (some .double), Cond.methodLink RX0 74 yX0_farther, Cond.static yX0_farther, Cond.code yX0_farther cX0_farther 4 (some .double), Cond.methodLink RX0 44 yX0_guess]
def wsX0_measure_r2 : List Cond := [Cond.instanceMethod yX0_guess, Cond.selects RX0 yX0_guess yX0_guess, Cond.code yX0_guess cX0_guess 5 none, Cond.fieldLink RX0 27 "FlowGrid$Faces" "left" "LFlowGrid$State;", Cond.fieldLink RX0 31 "FlowGrid$Faces" "right" "LFlowGrid$State;", Cond.methodLink RX0 77 yX2_become, Cond.instanceMethod yX2_become, Cond.selects RX2 yX2_become yX2_become, Cond.initialized RX2, Cond.code yX2_become cX2_become 5 none, Cond.fieldLink RX2 7 "FlowGrid$State" "h" "D", Cond.fieldLink RX2 13 "FlowGrid$State" "m" "D", Cond.fieldLink RX2 16 "FlowGrid$State" "speed" "D", Cond.fieldLink RX2 19 "FlowGrid$State" "wave" "D", Cond.static yX3_speedOf, Cond.initialized RX3, Cond.code yX3_speedOf cX3_speedOf 4 (some .double), Cond.static yX3_root, Cond.code yX3_root cX3_root 5 (some .double), Cond.constantDouble RX3 148 (4602678819172646912), Cond.methodLink RX0 47 yX0_solveNarrow, Cond.instanceMethod yX0_solveNarrow, Cond.selects RX0 yX0_solveNarrow yX0_solveNarrow, Cond.code yX0_solveNarrow cX0_solveNarrow 6 none]
def wsX0_measure_r3 : List Cond := [Cond.fieldLink RX0 101 "FlowGrid$State" "speed" "D", Cond.fieldLink RX0 104 "FlowGrid$State" "wave" "D", Cond.fieldLink RX0 18 "FlowGrid$Faces" "depthFluxes" "[D", Cond.fieldLink RX0 91 "FlowGrid$State" "h" "D", Cond.fieldLink RX0 21 "FlowGrid$Faces" "momentumFluxes" "[D", Cond.fieldLink RX0 98 "FlowGrid$State" "m" "D", Cond.static yX3_lesser, Cond.code yX3_lesser cX3_lesser 4 (some .double), Cond.static yX3_greater, Cond.code yX3_greater cX3_greater 4 (some .double), Cond.methodLink RX0 88 yX2_depthFlux, Cond.instanceMethod yX2_depthFlux, Cond.selects RX2 yX2_depthFlux yX2_depthFlux, Cond.code yX2_depthFlux cX2_depthFlux 1 (some .double), Cond.methodLink RX0 110 yX0_blend, Cond.static yX0_blend, Cond.code yX0_blend cX0_blend 10 (some .double), Cond.methodLink RX0 95 yX2_momentumFlux, Cond.instanceMethod yX2_momentumFlux, Cond.selects RX2 yX2_momentumFlux yX2_momentumFlux, Cond.code yX2_momentumFlux cX2_momentumFlux 1 (some .double), Cond.constantDouble RX2 35 (4602678819172646912), Cond.methodLink RX0 51 yX0_solveBroad, Cond.instanceMethod yX0_solveBroad]
def wsX0_measure_r4 : List Cond := [Cond.selects RX0 yX0_solveBroad yX0_solveBroad, Cond.code yX0_solveBroad cX0_solveBroad 4 none, Cond.methodLink RX0 81 yX2_reach, Cond.instanceMethod yX2_reach, Cond.selects RX2 yX2_reach yX2_reach, Cond.code yX2_reach cX2_reach 1 (some .double), Cond.static yX3_absolute, Cond.code yX3_absolute cX3_absolute 2 (some .double)]
def wsX0_measure : List Cond := .code yX0_measure cX0_measure 5 none :: ((wsX0_measure_r1 ++ (wsX0_measure_r2 ++ (wsX0_measure_r3 ++ wsX0_measure_r4))) ++ wsX10 ++ wsX00 ++ wsX20)
def wsX1_init : List Cond := .code yX1_init cX1_init 1 none :: ([.methodLink RX1 3 objectInit, .instanceMethod objectInit, .code objectInit ⟨#[0xb1]⟩ 1 none, .arrayClass .double, .fieldLink RX1 9 "FlowGrid$Row" "depths" "[D", .fieldLink RX1 15 "FlowGrid$Row" "momenta" "[D", .fieldLink RX1 18 "FlowGrid$Row" "size" "I"] ++ wsX10)
def wsX1_has : List Cond := .code yX1_has cX1_has 2 (some .boolean) :: ([.fieldLink RX1 18 "FlowGrid$Row" "size" "I"] ++ wsX10)
def wsX1_level : List Cond := .code yX1_level cX1_level 3 none :: ([.fieldLink RX1 18 "FlowGrid$Row" "size" "I", .fieldLink RX1 9 "FlowGrid$Row" "depths" "[D", .fieldLink RX1 15 "FlowGrid$Row" "momenta" "[D"] ++ wsX10)
def wsX1_become : List Cond := .code yX1_become cX1_become 2 none :: ([.fieldLink RX1 18 "FlowGrid$Row" "size" "I", .fieldLink RX1 9 "FlowGrid$Row" "depths" "[D", .methodLink RX1 22 arraycopyName, .native arraycopyName, .static arraycopyName, .initialized "java/lang/System", .fieldLink RX1 15 "FlowGrid$Row" "momenta" "[D"] ++ wsX10)
def wsX1_copy : List Cond := .code yX1_copy cX1_copy 3 none :: ([.fieldLink RX1 9 "FlowGrid$Row" "depths" "[D", .fieldLink RX1 15 "FlowGrid$Row" "momenta" "[D"] ++ wsX10)
def wsX1_mirror : List Cond := .code yX1_mirror cX1_mirror 3 none :: ([.fieldLink RX1 9 "FlowGrid$Row" "depths" "[D", .fieldLink RX1 15 "FlowGrid$Row" "momenta" "[D"] ++ wsX10)
def wsX1_fillEnds : List Cond := .code yX1_fillEnds cX1_fillEnds 5 none :: ([.fieldLink RX1 18 "FlowGrid$Row" "size" "I", .methodLink RX1 28 yX1_copy, .instanceMethod yX1_copy, .selects RX1 yX1_copy yX1_copy, .initialized RX1, .code yX1_copy cX1_copy 3 none, .fieldLink RX1 9 "FlowGrid$Row" "depths" "[D", .fieldLink RX1 15 "FlowGrid$Row" "momenta" "[D", .methodLink RX1 32 yX1_mirror, .instanceMethod yX1_mirror, .selects RX1 yX1_mirror yX1_mirror, .code yX1_mirror cX1_mirror 3 none] ++ wsX10)
def wsX1_move : List Cond := .code yX1_move cX1_move 6 none :: ([.fieldLink RX1 18 "FlowGrid$Row" "size" "I", .fieldLink RX1 9 "FlowGrid$Row" "depths" "[D", .fieldLink RX1 35 "FlowGrid$Faces" "depthFluxes" "[D", .fieldLink RX1 15 "FlowGrid$Row" "momenta" "[D", .fieldLink RX1 40 "FlowGrid$Faces" "momentumFluxes" "[D"] ++ wsX10 ++ wsX00)
def wsX1_hasFailed : List Cond := .code yX1_hasFailed cX1_hasFailed 2 (some .boolean) :: ([.fieldLink RX1 18 "FlowGrid$Row" "size" "I", .fieldLink RX1 9 "FlowGrid$Row" "depths" "[D", .constantDouble RX1 43 (4576918229304087675), .fieldLink RX1 15 "FlowGrid$Row" "momenta" "[D", .constantDouble RX1 45 (4652007308841189376), .constantDouble RX1 47 (13875379345695965184)] ++ wsX10)
def wsX1_meet : List Cond := .code yX1_meet cX1_meet 3 none :: ([.fieldLink RX1 18 "FlowGrid$Row" "size" "I", .fieldLink RX1 9 "FlowGrid$Row" "depths" "[D", .constantDouble RX1 49 (4602678819172646912), .fieldLink RX1 15 "FlowGrid$Row" "momenta" "[D"] ++ wsX10)
def wsX1_longestTime : List Cond := .code yX1_longestTime cX1_longestTime 8 (some .double) :: ([.fieldLink RX1 18 "FlowGrid$Row" "size" "I", .fieldLink RX1 9 "FlowGrid$Row" "depths" "[D", .fieldLink RX1 15 "FlowGrid$Row" "momenta" "[D", .constantDouble RX1 65 (4600877379321698714), .static yX3_speedOf, .initialized RX3, .code yX3_speedOf cX3_speedOf 4 (some .double), .static yX3_absolute, .code yX3_absolute cX3_absolute 2 (some .double), .static yX3_root, .code yX3_root cX3_root 5 (some .double), .constantDouble RX3 148 (4602678819172646912), .static yX3_greater, .code yX3_greater cX3_greater 4 (some .double), .static yX3_lesser, .code yX3_lesser cX3_lesser 4 (some .double)] ++ wsX10)
def wsX1_total : List Cond := .code yX1_total cX1_total 11 (some .double) :: ([.fieldLink RX1 18 "FlowGrid$Row" "size" "I"] ++ wsX10)
def wsX3_init_r1 : List Cond := [Cond.methodLink RX3 3 objectInit, Cond.instanceMethod objectInit, Cond.code objectInit ⟨#[0xb1]⟩ 1 none, Cond.classLink RX3 9 RX1, Cond.instantiable RX1 3, Cond.initialized RX1, Cond.fieldLink RX3 12 "FlowGrid" "now" "LFlowGrid$Row;", Cond.fieldLink RX3 16 "FlowGrid" "trial" "LFlowGrid$Row;", Cond.classLink RX3 19 RX0, Cond.instantiable RX0 6, Cond.initialized RX0, Cond.fieldLink RX3 22 "FlowGrid" "faces" "LFlowGrid$Faces;", Cond.fieldLink RX3 26 "FlowGrid" "ends" "I", Cond.fieldLink RX3 30 "FlowGrid" "limiter" "I", Cond.fieldLink RX3 33 "FlowGrid" "solver" "I", Cond.fieldLink RX3 36 "FlowGrid" "order" "I", Cond.fieldLink RX3 39 "FlowGrid" "gone" "D", Cond.fieldLink RX3 43 "FlowGrid" "stepsMade" "I", Cond.fieldLink RX3 46 "FlowGrid" "triesFailed" "I", Cond.fieldLink RX3 49 "FlowGrid" "stepsRefused" "I", Cond.instanceMethod yX1_init, Cond.code yX1_init cX1_init 1 none, Cond.methodLink RX1 3 objectInit, Cond.arrayClass .double]
def wsX3_init_r2 : List Cond := [Cond.fieldLink RX1 9 "FlowGrid$Row" "depths" "[D", Cond.fieldLink RX1 15 "FlowGrid$Row" "momenta" "[D", Cond.fieldLink RX1 18 "FlowGrid$Row" "size" "I", Cond.instanceMethod yX0_init, Cond.code yX0_init cX0_init 1 none, Cond.methodLink RX0 3 objectInit, Cond.fieldLink RX0 9 "FlowGrid$Faces" "depthSlopes" "[D", Cond.fieldLink RX0 15 "FlowGrid$Faces" "momentumSlopes" "[D", Cond.fieldLink RX0 18 "FlowGrid$Faces" "depthFluxes" "[D", Cond.fieldLink RX0 21 "FlowGrid$Faces" "momentumFluxes" "[D", Cond.classLink RX0 24 RX2, Cond.instantiable RX2 4, Cond.initialized RX2, Cond.fieldLink RX0 27 "FlowGrid$Faces" "left" "LFlowGrid$State;", Cond.fieldLink RX0 31 "FlowGrid$Faces" "right" "LFlowGrid$State;", Cond.instanceMethod yX2_init, Cond.code yX2_init cX2_init 1 none, Cond.methodLink RX2 1 objectInit, Cond.fieldLink RX2 7 "FlowGrid$State" "h" "D", Cond.fieldLink RX2 13 "FlowGrid$State" "m" "D", Cond.fieldLink RX2 16 "FlowGrid$State" "speed" "D", Cond.fieldLink RX2 19 "FlowGrid$State" "wave" "D", Cond.methodLink RX3 52 yX1_level, Cond.instanceMethod yX1_level]
def wsX3_init_r3 : List Cond := [Cond.selects RX1 yX1_level yX1_level, Cond.code yX1_level cX1_level 3 none]
def wsX3_init : List Cond := .code yX3_init cX3_init 1 none :: ((wsX3_init_r1 ++ (wsX3_init_r2 ++ wsX3_init_r3)) ++ wsX10 ++ wsX30 ++ wsX00 ++ wsX20)
def wsX3_isWithin : List Cond := .code yX3_isWithin cX3_isWithin 3 (some .boolean) :: ([])
def wsX3_cells : List Cond := .code yX3_cells cX3_cells 2 none :: ([.classLink RX3 60 "java/lang/IllegalArgumentException", .initialized "java/lang/IllegalArgumentException", .fieldLink RX3 12 "FlowGrid" "now" "LFlowGrid$Row;", .fieldLink RX3 39 "FlowGrid" "gone" "D", .methodLink RX3 56 yX3_isWithin, .static yX3_isWithin, .initialized RX3, .code yX3_isWithin cX3_isWithin 3 (some .boolean), .methodLink RX3 52 yX1_level, .instanceMethod yX1_level, .selects RX1 yX1_level yX1_level, .initialized RX1, .code yX1_level cX1_level 3 none, .fieldLink RX1 18 "FlowGrid$Row" "size" "I", .fieldLink RX1 9 "FlowGrid$Row" "depths" "[D", .fieldLink RX1 15 "FlowGrid$Row" "momenta" "[D"] ++ wsX30 ++ wsX10 ++ (vx_atS RX3 64 "java/lang/IllegalArgumentException" ["java/lang/RuntimeException", "java/lang/Exception"]).filter goodWord)
def wsX3_choose : List Cond := .code yX3_choose cX3_choose 5 none :: ([.classLink RX3 60 "java/lang/IllegalArgumentException", .initialized "java/lang/IllegalArgumentException", .fieldLink RX3 26 "FlowGrid" "ends" "I", .fieldLink RX3 30 "FlowGrid" "limiter" "I", .fieldLink RX3 33 "FlowGrid" "solver" "I", .fieldLink RX3 36 "FlowGrid" "order" "I", .methodLink RX3 56 yX3_isWithin, .static yX3_isWithin, .initialized RX3, .code yX3_isWithin cX3_isWithin 3 (some .boolean)] ++ wsX30 ++ (vx_atS RX3 64 "java/lang/IllegalArgumentException" ["java/lang/RuntimeException", "java/lang/Exception"]).filter goodWord)
def wsX3_put : List Cond := .code yX3_put cX3_put 6 none :: ([.classLink RX3 60 "java/lang/IllegalArgumentException", .initialized "java/lang/IllegalArgumentException", .fieldLink RX3 12 "FlowGrid" "now" "LFlowGrid$Row;", .constantDouble RX3 75 (4593671619917905920), .constantDouble RX3 77 (4626322717216342016), .constantDouble RX3 81 (13855605728582041600), .constantDouble RX3 83 (4632233691727265792), .fieldLink RX3 87 "FlowGrid$Row" "depths" "[D", .fieldLink RX3 91 "FlowGrid$Row" "momenta" "[D", .methodLink RX3 69 yX1_has, .instanceMethod yX1_has, .selects RX1 yX1_has yX1_has, .initialized RX1, .code yX1_has cX1_has 2 (some .boolean), .fieldLink RX1 18 "FlowGrid$Row" "size" "I"] ++ wsX30 ++ wsX10 ++ (vx_atS RX3 64 "java/lang/IllegalArgumentException" ["java/lang/RuntimeException", "java/lang/Exception"]).filter goodWord)
def wsX3_isSpan : List Cond := .code yX3_isSpan cX3_isSpan 2 (some .boolean) :: ([.constantDouble RX3 170 (4621819117588971520)])
def wsX3_succeeds_r1 : List Cond := [Cond.fieldLink RX3 16 "FlowGrid" "trial" "LFlowGrid$Row;", Cond.fieldLink RX3 12 "FlowGrid" "now" "LFlowGrid$Row;", Cond.fieldLink RX3 36 "FlowGrid" "order" "I", Cond.fieldLink RX3 26 "FlowGrid" "ends" "I", Cond.fieldLink RX3 22 "FlowGrid" "faces" "LFlowGrid$Faces;", Cond.fieldLink RX3 30 "FlowGrid" "limiter" "I", Cond.fieldLink RX3 33 "FlowGrid" "solver" "I", Cond.methodLink RX3 155 yX1_become, Cond.instanceMethod yX1_become, Cond.selects RX1 yX1_become yX1_become, Cond.initialized RX1, Cond.code yX1_become cX1_become 2 none, Cond.fieldLink RX1 18 "FlowGrid$Row" "size" "I", Cond.fieldLink RX1 9 "FlowGrid$Row" "depths" "[D", Cond.methodLink RX1 22 arraycopyName, Cond.native arraycopyName, Cond.static arraycopyName, Cond.initialized "java/lang/System", Cond.fieldLink RX1 15 "FlowGrid$Row" "momenta" "[D", Cond.methodLink RX3 123 yX1_fillEnds, Cond.instanceMethod yX1_fillEnds, Cond.selects RX1 yX1_fillEnds yX1_fillEnds, Cond.code yX1_fillEnds cX1_fillEnds 5 none, Cond.methodLink RX1 28 yX1_copy]
def wsX3_succeeds_r2 : List Cond := [Cond.instanceMethod yX1_copy, Cond.selects RX1 yX1_copy yX1_copy, Cond.code yX1_copy cX1_copy 3 none, Cond.methodLink RX1 32 yX1_mirror, Cond.instanceMethod yX1_mirror, Cond.selects RX1 yX1_mirror yX1_mirror, Cond.code yX1_mirror cX1_mirror 3 none, Cond.methodLink RX3 126 yX0_measure, Cond.instanceMethod yX0_measure, Cond.selects RX0 yX0_measure yX0_measure, Cond.initialized RX0, Cond.code yX0_measure cX0_measure 5 none, Cond.fieldLink RX0 38 "FlowGrid$Row" "size" "I", Cond.methodLink RX0 34 yX0_fillSlopes, Cond.instanceMethod yX0_fillSlopes, Cond.selects RX0 yX0_fillSlopes yX0_fillSlopes, Cond.code yX0_fillSlopes cX0_fillSlopes 9 none, Cond.fieldLink RX0 54 "FlowGrid$Row" "depths" "[D", Cond.constantDouble RX0 61 (4602678819172646912), Cond.constantDouble RX0 63 (4576918229304087675), Cond.fieldLink RX0 9 "FlowGrid$Faces" "depthSlopes" "[D", Cond.fieldLink RX0 15 "FlowGrid$Faces" "momentumSlopes" "[D", Cond.fieldLink RX0 65 "FlowGrid$Row" "momenta" "[D", Cond.methodLink RX0 57 yX0_slopeAt]
def wsX3_succeeds_r3 : List Cond := [Cond.instanceMethod yX0_slopeAt, Cond.selects RX0 yX0_slopeAt yX0_slopeAt, Cond.code yX0_slopeAt cX0_slopeAt 8 (some .double), Cond.constantDouble RX0 72 (4611686018427387904), Cond.methodLink RX0 68 yX0_nearer, Cond.static yX0_nearer, Cond.code yX0_nearer cX0_nearer 4 (some .double), Cond.methodLink RX0 74 yX0_farther, Cond.static yX0_farther, Cond.code yX0_farther cX0_farther 4 (some .double), Cond.methodLink RX0 44 yX0_guess, Cond.instanceMethod yX0_guess, Cond.selects RX0 yX0_guess yX0_guess, Cond.code yX0_guess cX0_guess 5 none, Cond.fieldLink RX0 27 "FlowGrid$Faces" "left" "LFlowGrid$State;", Cond.fieldLink RX0 31 "FlowGrid$Faces" "right" "LFlowGrid$State;", Cond.methodLink RX0 77 yX2_become, Cond.instanceMethod yX2_become, Cond.selects RX2 yX2_become yX2_become, Cond.initialized RX2, Cond.code yX2_become cX2_become 5 none, Cond.fieldLink RX2 7 "FlowGrid$State" "h" "D", Cond.fieldLink RX2 13 "FlowGrid$State" "m" "D", Cond.fieldLink RX2 16 "FlowGrid$State" "speed" "D"]
def wsX3_succeeds_r4 : List Cond := [Cond.fieldLink RX2 19 "FlowGrid$State" "wave" "D", Cond.static yX3_speedOf, Cond.initialized RX3, Cond.code yX3_speedOf cX3_speedOf 4 (some .double), Cond.static yX3_root, Cond.code yX3_root cX3_root 5 (some .double), Cond.constantDouble RX3 148 (4602678819172646912), Cond.methodLink RX0 47 yX0_solveNarrow, Cond.instanceMethod yX0_solveNarrow, Cond.selects RX0 yX0_solveNarrow yX0_solveNarrow, Cond.code yX0_solveNarrow cX0_solveNarrow 6 none, Cond.fieldLink RX0 101 "FlowGrid$State" "speed" "D", Cond.fieldLink RX0 104 "FlowGrid$State" "wave" "D", Cond.fieldLink RX0 18 "FlowGrid$Faces" "depthFluxes" "[D", Cond.fieldLink RX0 91 "FlowGrid$State" "h" "D", Cond.fieldLink RX0 21 "FlowGrid$Faces" "momentumFluxes" "[D", Cond.fieldLink RX0 98 "FlowGrid$State" "m" "D", Cond.static yX3_lesser, Cond.code yX3_lesser cX3_lesser 4 (some .double), Cond.static yX3_greater, Cond.code yX3_greater cX3_greater 4 (some .double), Cond.methodLink RX0 88 yX2_depthFlux, Cond.instanceMethod yX2_depthFlux, Cond.selects RX2 yX2_depthFlux yX2_depthFlux]
def wsX3_succeeds_r5 : List Cond := [Cond.code yX2_depthFlux cX2_depthFlux 1 (some .double), Cond.methodLink RX0 110 yX0_blend, Cond.static yX0_blend, Cond.code yX0_blend cX0_blend 10 (some .double), Cond.methodLink RX0 95 yX2_momentumFlux, Cond.instanceMethod yX2_momentumFlux, Cond.selects RX2 yX2_momentumFlux yX2_momentumFlux, Cond.code yX2_momentumFlux cX2_momentumFlux 1 (some .double), Cond.constantDouble RX2 35 (4602678819172646912), Cond.methodLink RX0 51 yX0_solveBroad, Cond.instanceMethod yX0_solveBroad, Cond.selects RX0 yX0_solveBroad yX0_solveBroad, Cond.code yX0_solveBroad cX0_solveBroad 4 none, Cond.methodLink RX0 81 yX2_reach, Cond.instanceMethod yX2_reach, Cond.selects RX2 yX2_reach yX2_reach, Cond.code yX2_reach cX2_reach 1 (some .double), Cond.static yX3_absolute, Cond.code yX3_absolute cX3_absolute 2 (some .double), Cond.methodLink RX3 159 yX1_move, Cond.instanceMethod yX1_move, Cond.selects RX1 yX1_move yX1_move, Cond.code yX1_move cX1_move 6 none, Cond.fieldLink RX1 35 "FlowGrid$Faces" "depthFluxes" "[D"]
def wsX3_succeeds_r6 : List Cond := [Cond.fieldLink RX1 40 "FlowGrid$Faces" "momentumFluxes" "[D", Cond.methodLink RX3 163 yX1_hasFailed, Cond.instanceMethod yX1_hasFailed, Cond.selects RX1 yX1_hasFailed yX1_hasFailed, Cond.code yX1_hasFailed cX1_hasFailed 2 (some .boolean), Cond.constantDouble RX1 43 (4576918229304087675), Cond.constantDouble RX1 45 (4652007308841189376), Cond.constantDouble RX1 47 (13875379345695965184), Cond.methodLink RX3 167 yX1_meet, Cond.instanceMethod yX1_meet, Cond.selects RX1 yX1_meet yX1_meet, Cond.code yX1_meet cX1_meet 3 none, Cond.constantDouble RX1 49 (4602678819172646912)]
def wsX3_succeeds : List Cond := .code yX3_succeeds cX3_succeeds 4 (some .boolean) :: ((wsX3_succeeds_r1 ++ (wsX3_succeeds_r2 ++ (wsX3_succeeds_r3 ++ (wsX3_succeeds_r4 ++ (wsX3_succeeds_r5 ++ wsX3_succeeds_r6))))) ++ wsX30 ++ wsX10 ++ wsX00 ++ wsX20)
def wsX3_advance_r1 : List Cond := [Cond.classLink RX3 150 "java/lang/IllegalStateException", Cond.initialized "java/lang/IllegalStateException", Cond.fieldLink RX3 12 "FlowGrid" "now" "LFlowGrid$Row;", Cond.fieldLink RX3 39 "FlowGrid" "gone" "D", Cond.fieldLink RX3 43 "FlowGrid" "stepsMade" "I", Cond.fieldLink RX3 46 "FlowGrid" "triesFailed" "I", Cond.constantDouble RX3 148 (4602678819172646912), Cond.fieldLink RX3 49 "FlowGrid" "stepsRefused" "I", Cond.methodLink RX3 142 yX1_longestTime, Cond.instanceMethod yX1_longestTime, Cond.selects RX1 yX1_longestTime yX1_longestTime, Cond.initialized RX1, Cond.code yX1_longestTime cX1_longestTime 8 (some .double), Cond.fieldLink RX1 18 "FlowGrid$Row" "size" "I", Cond.fieldLink RX1 9 "FlowGrid$Row" "depths" "[D", Cond.fieldLink RX1 15 "FlowGrid$Row" "momenta" "[D", Cond.constantDouble RX1 65 (4600877379321698714), Cond.static yX3_speedOf, Cond.initialized RX3, Cond.code yX3_speedOf cX3_speedOf 4 (some .double), Cond.static yX3_absolute, Cond.code yX3_absolute cX3_absolute 2 (some .double), Cond.static yX3_root, Cond.code yX3_root cX3_root 5 (some .double)]
def wsX3_advance_r2 : List Cond := [Cond.static yX3_greater, Cond.code yX3_greater cX3_greater 4 (some .double), Cond.static yX3_lesser, Cond.code yX3_lesser cX3_lesser 4 (some .double), Cond.methodLink RX3 145 yX3_succeeds, Cond.instanceMethod yX3_succeeds, Cond.selects RX3 yX3_succeeds yX3_succeeds, Cond.code yX3_succeeds cX3_succeeds 4 (some .boolean), Cond.fieldLink RX3 16 "FlowGrid" "trial" "LFlowGrid$Row;", Cond.fieldLink RX3 36 "FlowGrid" "order" "I", Cond.fieldLink RX3 26 "FlowGrid" "ends" "I", Cond.fieldLink RX3 22 "FlowGrid" "faces" "LFlowGrid$Faces;", Cond.fieldLink RX3 30 "FlowGrid" "limiter" "I", Cond.fieldLink RX3 33 "FlowGrid" "solver" "I", Cond.methodLink RX3 155 yX1_become, Cond.instanceMethod yX1_become, Cond.selects RX1 yX1_become yX1_become, Cond.code yX1_become cX1_become 2 none, Cond.methodLink RX1 22 arraycopyName, Cond.native arraycopyName, Cond.static arraycopyName, Cond.initialized "java/lang/System", Cond.methodLink RX3 123 yX1_fillEnds, Cond.instanceMethod yX1_fillEnds]
def wsX3_advance_r3 : List Cond := [Cond.selects RX1 yX1_fillEnds yX1_fillEnds, Cond.code yX1_fillEnds cX1_fillEnds 5 none, Cond.methodLink RX1 28 yX1_copy, Cond.instanceMethod yX1_copy, Cond.selects RX1 yX1_copy yX1_copy, Cond.code yX1_copy cX1_copy 3 none, Cond.methodLink RX1 32 yX1_mirror, Cond.instanceMethod yX1_mirror, Cond.selects RX1 yX1_mirror yX1_mirror, Cond.code yX1_mirror cX1_mirror 3 none, Cond.methodLink RX3 126 yX0_measure, Cond.instanceMethod yX0_measure, Cond.selects RX0 yX0_measure yX0_measure, Cond.initialized RX0, Cond.code yX0_measure cX0_measure 5 none, Cond.fieldLink RX0 38 "FlowGrid$Row" "size" "I", Cond.methodLink RX0 34 yX0_fillSlopes, Cond.instanceMethod yX0_fillSlopes, Cond.selects RX0 yX0_fillSlopes yX0_fillSlopes, Cond.code yX0_fillSlopes cX0_fillSlopes 9 none, Cond.fieldLink RX0 54 "FlowGrid$Row" "depths" "[D", Cond.constantDouble RX0 61 (4602678819172646912), Cond.constantDouble RX0 63 (4576918229304087675), Cond.fieldLink RX0 9 "FlowGrid$Faces" "depthSlopes" "[D"]
def wsX3_advance_r4 : List Cond := [Cond.fieldLink RX0 15 "FlowGrid$Faces" "momentumSlopes" "[D", Cond.fieldLink RX0 65 "FlowGrid$Row" "momenta" "[D", Cond.methodLink RX0 57 yX0_slopeAt, Cond.instanceMethod yX0_slopeAt, Cond.selects RX0 yX0_slopeAt yX0_slopeAt, Cond.code yX0_slopeAt cX0_slopeAt 8 (some .double), Cond.constantDouble RX0 72 (4611686018427387904), Cond.methodLink RX0 68 yX0_nearer, Cond.static yX0_nearer, Cond.code yX0_nearer cX0_nearer 4 (some .double), Cond.methodLink RX0 74 yX0_farther, Cond.static yX0_farther, Cond.code yX0_farther cX0_farther 4 (some .double), Cond.methodLink RX0 44 yX0_guess, Cond.instanceMethod yX0_guess, Cond.selects RX0 yX0_guess yX0_guess, Cond.code yX0_guess cX0_guess 5 none, Cond.fieldLink RX0 27 "FlowGrid$Faces" "left" "LFlowGrid$State;", Cond.fieldLink RX0 31 "FlowGrid$Faces" "right" "LFlowGrid$State;", Cond.methodLink RX0 77 yX2_become, Cond.instanceMethod yX2_become, Cond.selects RX2 yX2_become yX2_become, Cond.initialized RX2, Cond.code yX2_become cX2_become 5 none]
def wsX3_advance_r5 : List Cond := [Cond.fieldLink RX2 7 "FlowGrid$State" "h" "D", Cond.fieldLink RX2 13 "FlowGrid$State" "m" "D", Cond.fieldLink RX2 16 "FlowGrid$State" "speed" "D", Cond.fieldLink RX2 19 "FlowGrid$State" "wave" "D", Cond.methodLink RX0 47 yX0_solveNarrow, Cond.instanceMethod yX0_solveNarrow, Cond.selects RX0 yX0_solveNarrow yX0_solveNarrow, Cond.code yX0_solveNarrow cX0_solveNarrow 6 none, Cond.fieldLink RX0 101 "FlowGrid$State" "speed" "D", Cond.fieldLink RX0 104 "FlowGrid$State" "wave" "D", Cond.fieldLink RX0 18 "FlowGrid$Faces" "depthFluxes" "[D", Cond.fieldLink RX0 91 "FlowGrid$State" "h" "D", Cond.fieldLink RX0 21 "FlowGrid$Faces" "momentumFluxes" "[D", Cond.fieldLink RX0 98 "FlowGrid$State" "m" "D", Cond.methodLink RX0 88 yX2_depthFlux, Cond.instanceMethod yX2_depthFlux, Cond.selects RX2 yX2_depthFlux yX2_depthFlux, Cond.code yX2_depthFlux cX2_depthFlux 1 (some .double), Cond.methodLink RX0 110 yX0_blend, Cond.static yX0_blend, Cond.code yX0_blend cX0_blend 10 (some .double), Cond.methodLink RX0 95 yX2_momentumFlux, Cond.instanceMethod yX2_momentumFlux, Cond.selects RX2 yX2_momentumFlux yX2_momentumFlux]
def wsX3_advance_r6 : List Cond := [Cond.code yX2_momentumFlux cX2_momentumFlux 1 (some .double), Cond.constantDouble RX2 35 (4602678819172646912), Cond.methodLink RX0 51 yX0_solveBroad, Cond.instanceMethod yX0_solveBroad, Cond.selects RX0 yX0_solveBroad yX0_solveBroad, Cond.code yX0_solveBroad cX0_solveBroad 4 none, Cond.methodLink RX0 81 yX2_reach, Cond.instanceMethod yX2_reach, Cond.selects RX2 yX2_reach yX2_reach, Cond.code yX2_reach cX2_reach 1 (some .double), Cond.methodLink RX3 159 yX1_move, Cond.instanceMethod yX1_move, Cond.selects RX1 yX1_move yX1_move, Cond.code yX1_move cX1_move 6 none, Cond.fieldLink RX1 35 "FlowGrid$Faces" "depthFluxes" "[D", Cond.fieldLink RX1 40 "FlowGrid$Faces" "momentumFluxes" "[D", Cond.methodLink RX3 163 yX1_hasFailed, Cond.instanceMethod yX1_hasFailed, Cond.selects RX1 yX1_hasFailed yX1_hasFailed, Cond.code yX1_hasFailed cX1_hasFailed 2 (some .boolean), Cond.constantDouble RX1 43 (4576918229304087675), Cond.constantDouble RX1 45 (4652007308841189376), Cond.constantDouble RX1 47 (13875379345695965184), Cond.methodLink RX3 167 yX1_meet]
def wsX3_advance_r7 : List Cond := [Cond.instanceMethod yX1_meet, Cond.selects RX1 yX1_meet yX1_meet, Cond.code yX1_meet cX1_meet 3 none, Cond.constantDouble RX1 49 (4602678819172646912)]
def wsX3_advance : List Cond := .code yX3_advance cX3_advance 6 (some .double) :: ((wsX3_advance_r1 ++ (wsX3_advance_r2 ++ (wsX3_advance_r3 ++ (wsX3_advance_r4 ++ (wsX3_advance_r5 ++ (wsX3_advance_r6 ++ wsX3_advance_r7)))))) ++ wsX30 ++ wsX10 ++ wsX00 ++ wsX20 ++ (vx_atS RX3 154 "java/lang/IllegalStateException" ["java/lang/RuntimeException", "java/lang/Exception"]).filter goodWord)
def wsX3_step_r1 : List Cond := [Cond.classLink RX3 60 "java/lang/IllegalArgumentException", Cond.initialized "java/lang/IllegalArgumentException", Cond.methodLink RX3 94 yX3_isSpan, Cond.static yX3_isSpan, Cond.initialized RX3, Cond.code yX3_isSpan cX3_isSpan 2 (some .boolean), Cond.constantDouble RX3 170 (4621819117588971520), Cond.methodLink RX3 100 yX3_advance, Cond.instanceMethod yX3_advance, Cond.selects RX3 yX3_advance yX3_advance, Cond.code yX3_advance cX3_advance 6 (some .double), Cond.classLink RX3 150 "java/lang/IllegalStateException", Cond.initialized "java/lang/IllegalStateException", Cond.fieldLink RX3 12 "FlowGrid" "now" "LFlowGrid$Row;", Cond.fieldLink RX3 39 "FlowGrid" "gone" "D", Cond.fieldLink RX3 43 "FlowGrid" "stepsMade" "I", Cond.fieldLink RX3 46 "FlowGrid" "triesFailed" "I", Cond.constantDouble RX3 148 (4602678819172646912), Cond.fieldLink RX3 49 "FlowGrid" "stepsRefused" "I", Cond.methodLink RX3 142 yX1_longestTime, Cond.instanceMethod yX1_longestTime, Cond.selects RX1 yX1_longestTime yX1_longestTime, Cond.initialized RX1, Cond.code yX1_longestTime cX1_longestTime 8 (some .double)]
def wsX3_step_r2 : List Cond := [Cond.fieldLink RX1 18 "FlowGrid$Row" "size" "I", Cond.fieldLink RX1 9 "FlowGrid$Row" "depths" "[D", Cond.fieldLink RX1 15 "FlowGrid$Row" "momenta" "[D", Cond.constantDouble RX1 65 (4600877379321698714), Cond.static yX3_speedOf, Cond.code yX3_speedOf cX3_speedOf 4 (some .double), Cond.static yX3_absolute, Cond.code yX3_absolute cX3_absolute 2 (some .double), Cond.static yX3_root, Cond.code yX3_root cX3_root 5 (some .double), Cond.static yX3_greater, Cond.code yX3_greater cX3_greater 4 (some .double), Cond.static yX3_lesser, Cond.code yX3_lesser cX3_lesser 4 (some .double), Cond.methodLink RX3 145 yX3_succeeds, Cond.instanceMethod yX3_succeeds, Cond.selects RX3 yX3_succeeds yX3_succeeds, Cond.code yX3_succeeds cX3_succeeds 4 (some .boolean), Cond.fieldLink RX3 16 "FlowGrid" "trial" "LFlowGrid$Row;", Cond.fieldLink RX3 36 "FlowGrid" "order" "I", Cond.fieldLink RX3 26 "FlowGrid" "ends" "I", Cond.fieldLink RX3 22 "FlowGrid" "faces" "LFlowGrid$Faces;", Cond.fieldLink RX3 30 "FlowGrid" "limiter" "I", Cond.fieldLink RX3 33 "FlowGrid" "solver" "I"]
def wsX3_step_r3 : List Cond := [Cond.methodLink RX3 155 yX1_become, Cond.instanceMethod yX1_become, Cond.selects RX1 yX1_become yX1_become, Cond.code yX1_become cX1_become 2 none, Cond.methodLink RX1 22 arraycopyName, Cond.native arraycopyName, Cond.static arraycopyName, Cond.initialized "java/lang/System", Cond.methodLink RX3 123 yX1_fillEnds, Cond.instanceMethod yX1_fillEnds, Cond.selects RX1 yX1_fillEnds yX1_fillEnds, Cond.code yX1_fillEnds cX1_fillEnds 5 none, Cond.methodLink RX1 28 yX1_copy, Cond.instanceMethod yX1_copy, Cond.selects RX1 yX1_copy yX1_copy, Cond.code yX1_copy cX1_copy 3 none, Cond.methodLink RX1 32 yX1_mirror, Cond.instanceMethod yX1_mirror, Cond.selects RX1 yX1_mirror yX1_mirror, Cond.code yX1_mirror cX1_mirror 3 none, Cond.methodLink RX3 126 yX0_measure, Cond.instanceMethod yX0_measure, Cond.selects RX0 yX0_measure yX0_measure, Cond.initialized RX0]
def wsX3_step_r4 : List Cond := [Cond.code yX0_measure cX0_measure 5 none, Cond.fieldLink RX0 38 "FlowGrid$Row" "size" "I", Cond.methodLink RX0 34 yX0_fillSlopes, Cond.instanceMethod yX0_fillSlopes, Cond.selects RX0 yX0_fillSlopes yX0_fillSlopes, Cond.code yX0_fillSlopes cX0_fillSlopes 9 none, Cond.fieldLink RX0 54 "FlowGrid$Row" "depths" "[D", Cond.constantDouble RX0 61 (4602678819172646912), Cond.constantDouble RX0 63 (4576918229304087675), Cond.fieldLink RX0 9 "FlowGrid$Faces" "depthSlopes" "[D", Cond.fieldLink RX0 15 "FlowGrid$Faces" "momentumSlopes" "[D", Cond.fieldLink RX0 65 "FlowGrid$Row" "momenta" "[D", Cond.methodLink RX0 57 yX0_slopeAt, Cond.instanceMethod yX0_slopeAt, Cond.selects RX0 yX0_slopeAt yX0_slopeAt, Cond.code yX0_slopeAt cX0_slopeAt 8 (some .double), Cond.constantDouble RX0 72 (4611686018427387904), Cond.methodLink RX0 68 yX0_nearer, Cond.static yX0_nearer, Cond.code yX0_nearer cX0_nearer 4 (some .double), Cond.methodLink RX0 74 yX0_farther, Cond.static yX0_farther, Cond.code yX0_farther cX0_farther 4 (some .double), Cond.methodLink RX0 44 yX0_guess]
def wsX3_step_r5 : List Cond := [Cond.instanceMethod yX0_guess, Cond.selects RX0 yX0_guess yX0_guess, Cond.code yX0_guess cX0_guess 5 none, Cond.fieldLink RX0 27 "FlowGrid$Faces" "left" "LFlowGrid$State;", Cond.fieldLink RX0 31 "FlowGrid$Faces" "right" "LFlowGrid$State;", Cond.methodLink RX0 77 yX2_become, Cond.instanceMethod yX2_become, Cond.selects RX2 yX2_become yX2_become, Cond.initialized RX2, Cond.code yX2_become cX2_become 5 none, Cond.fieldLink RX2 7 "FlowGrid$State" "h" "D", Cond.fieldLink RX2 13 "FlowGrid$State" "m" "D", Cond.fieldLink RX2 16 "FlowGrid$State" "speed" "D", Cond.fieldLink RX2 19 "FlowGrid$State" "wave" "D", Cond.methodLink RX0 47 yX0_solveNarrow, Cond.instanceMethod yX0_solveNarrow, Cond.selects RX0 yX0_solveNarrow yX0_solveNarrow, Cond.code yX0_solveNarrow cX0_solveNarrow 6 none, Cond.fieldLink RX0 101 "FlowGrid$State" "speed" "D", Cond.fieldLink RX0 104 "FlowGrid$State" "wave" "D", Cond.fieldLink RX0 18 "FlowGrid$Faces" "depthFluxes" "[D", Cond.fieldLink RX0 91 "FlowGrid$State" "h" "D", Cond.fieldLink RX0 21 "FlowGrid$Faces" "momentumFluxes" "[D", Cond.fieldLink RX0 98 "FlowGrid$State" "m" "D"]
def wsX3_step_r6 : List Cond := [Cond.methodLink RX0 88 yX2_depthFlux, Cond.instanceMethod yX2_depthFlux, Cond.selects RX2 yX2_depthFlux yX2_depthFlux, Cond.code yX2_depthFlux cX2_depthFlux 1 (some .double), Cond.methodLink RX0 110 yX0_blend, Cond.static yX0_blend, Cond.code yX0_blend cX0_blend 10 (some .double), Cond.methodLink RX0 95 yX2_momentumFlux, Cond.instanceMethod yX2_momentumFlux, Cond.selects RX2 yX2_momentumFlux yX2_momentumFlux, Cond.code yX2_momentumFlux cX2_momentumFlux 1 (some .double), Cond.constantDouble RX2 35 (4602678819172646912), Cond.methodLink RX0 51 yX0_solveBroad, Cond.instanceMethod yX0_solveBroad, Cond.selects RX0 yX0_solveBroad yX0_solveBroad, Cond.code yX0_solveBroad cX0_solveBroad 4 none, Cond.methodLink RX0 81 yX2_reach, Cond.instanceMethod yX2_reach, Cond.selects RX2 yX2_reach yX2_reach, Cond.code yX2_reach cX2_reach 1 (some .double), Cond.methodLink RX3 159 yX1_move, Cond.instanceMethod yX1_move, Cond.selects RX1 yX1_move yX1_move, Cond.code yX1_move cX1_move 6 none]
def wsX3_step_r7 : List Cond := [Cond.fieldLink RX1 35 "FlowGrid$Faces" "depthFluxes" "[D", Cond.fieldLink RX1 40 "FlowGrid$Faces" "momentumFluxes" "[D", Cond.methodLink RX3 163 yX1_hasFailed, Cond.instanceMethod yX1_hasFailed, Cond.selects RX1 yX1_hasFailed yX1_hasFailed, Cond.code yX1_hasFailed cX1_hasFailed 2 (some .boolean), Cond.constantDouble RX1 43 (4576918229304087675), Cond.constantDouble RX1 45 (4652007308841189376), Cond.constantDouble RX1 47 (13875379345695965184), Cond.methodLink RX3 167 yX1_meet, Cond.instanceMethod yX1_meet, Cond.selects RX1 yX1_meet yX1_meet, Cond.code yX1_meet cX1_meet 3 none, Cond.constantDouble RX1 49 (4602678819172646912)]
def wsX3_step : List Cond := .code yX3_step cX3_step 3 (some .double) :: ((wsX3_step_r1 ++ (wsX3_step_r2 ++ (wsX3_step_r3 ++ (wsX3_step_r4 ++ (wsX3_step_r5 ++ (wsX3_step_r6 ++ wsX3_step_r7)))))) ++ wsX30 ++ wsX10 ++ wsX00 ++ wsX20 ++ (vx_atS RX3 64 "java/lang/IllegalArgumentException" ["java/lang/RuntimeException", "java/lang/Exception"]).filter goodWord ++ (vx_atS RX3 154 "java/lang/IllegalStateException" ["java/lang/RuntimeException", "java/lang/Exception"]).filter goodWord)
def wsX3_run_r1 : List Cond := [Cond.classLink RX3 60 "java/lang/IllegalArgumentException", Cond.initialized "java/lang/IllegalArgumentException", Cond.constantDouble RX3 104 (4562254508917369340), Cond.methodLink RX3 94 yX3_isSpan, Cond.static yX3_isSpan, Cond.initialized RX3, Cond.code yX3_isSpan cX3_isSpan 2 (some .boolean), Cond.constantDouble RX3 170 (4621819117588971520), Cond.methodLink RX3 100 yX3_advance, Cond.instanceMethod yX3_advance, Cond.selects RX3 yX3_advance yX3_advance, Cond.code yX3_advance cX3_advance 6 (some .double), Cond.classLink RX3 150 "java/lang/IllegalStateException", Cond.initialized "java/lang/IllegalStateException", Cond.fieldLink RX3 12 "FlowGrid" "now" "LFlowGrid$Row;", Cond.fieldLink RX3 39 "FlowGrid" "gone" "D", Cond.fieldLink RX3 43 "FlowGrid" "stepsMade" "I", Cond.fieldLink RX3 46 "FlowGrid" "triesFailed" "I", Cond.constantDouble RX3 148 (4602678819172646912), Cond.fieldLink RX3 49 "FlowGrid" "stepsRefused" "I", Cond.methodLink RX3 142 yX1_longestTime, Cond.instanceMethod yX1_longestTime, Cond.selects RX1 yX1_longestTime yX1_longestTime, Cond.initialized RX1]
def wsX3_run_r2 : List Cond := [Cond.code yX1_longestTime cX1_longestTime 8 (some .double), Cond.fieldLink RX1 18 "FlowGrid$Row" "size" "I", Cond.fieldLink RX1 9 "FlowGrid$Row" "depths" "[D", Cond.fieldLink RX1 15 "FlowGrid$Row" "momenta" "[D", Cond.constantDouble RX1 65 (4600877379321698714), Cond.static yX3_speedOf, Cond.code yX3_speedOf cX3_speedOf 4 (some .double), Cond.static yX3_absolute, Cond.code yX3_absolute cX3_absolute 2 (some .double), Cond.static yX3_root, Cond.code yX3_root cX3_root 5 (some .double), Cond.static yX3_greater, Cond.code yX3_greater cX3_greater 4 (some .double), Cond.static yX3_lesser, Cond.code yX3_lesser cX3_lesser 4 (some .double), Cond.methodLink RX3 145 yX3_succeeds, Cond.instanceMethod yX3_succeeds, Cond.selects RX3 yX3_succeeds yX3_succeeds, Cond.code yX3_succeeds cX3_succeeds 4 (some .boolean), Cond.fieldLink RX3 16 "FlowGrid" "trial" "LFlowGrid$Row;", Cond.fieldLink RX3 36 "FlowGrid" "order" "I", Cond.fieldLink RX3 26 "FlowGrid" "ends" "I", Cond.fieldLink RX3 22 "FlowGrid" "faces" "LFlowGrid$Faces;", Cond.fieldLink RX3 30 "FlowGrid" "limiter" "I"]
def wsX3_run_r3 : List Cond := [Cond.fieldLink RX3 33 "FlowGrid" "solver" "I", Cond.methodLink RX3 155 yX1_become, Cond.instanceMethod yX1_become, Cond.selects RX1 yX1_become yX1_become, Cond.code yX1_become cX1_become 2 none, Cond.methodLink RX1 22 arraycopyName, Cond.native arraycopyName, Cond.static arraycopyName, Cond.initialized "java/lang/System", Cond.methodLink RX3 123 yX1_fillEnds, Cond.instanceMethod yX1_fillEnds, Cond.selects RX1 yX1_fillEnds yX1_fillEnds, Cond.code yX1_fillEnds cX1_fillEnds 5 none, Cond.methodLink RX1 28 yX1_copy, Cond.instanceMethod yX1_copy, Cond.selects RX1 yX1_copy yX1_copy, Cond.code yX1_copy cX1_copy 3 none, Cond.methodLink RX1 32 yX1_mirror, Cond.instanceMethod yX1_mirror, Cond.selects RX1 yX1_mirror yX1_mirror, Cond.code yX1_mirror cX1_mirror 3 none, Cond.methodLink RX3 126 yX0_measure, Cond.instanceMethod yX0_measure, Cond.selects RX0 yX0_measure yX0_measure]
def wsX3_run_r4 : List Cond := [Cond.initialized RX0, Cond.code yX0_measure cX0_measure 5 none, Cond.fieldLink RX0 38 "FlowGrid$Row" "size" "I", Cond.methodLink RX0 34 yX0_fillSlopes, Cond.instanceMethod yX0_fillSlopes, Cond.selects RX0 yX0_fillSlopes yX0_fillSlopes, Cond.code yX0_fillSlopes cX0_fillSlopes 9 none, Cond.fieldLink RX0 54 "FlowGrid$Row" "depths" "[D", Cond.constantDouble RX0 61 (4602678819172646912), Cond.constantDouble RX0 63 (4576918229304087675), Cond.fieldLink RX0 9 "FlowGrid$Faces" "depthSlopes" "[D", Cond.fieldLink RX0 15 "FlowGrid$Faces" "momentumSlopes" "[D", Cond.fieldLink RX0 65 "FlowGrid$Row" "momenta" "[D", Cond.methodLink RX0 57 yX0_slopeAt, Cond.instanceMethod yX0_slopeAt, Cond.selects RX0 yX0_slopeAt yX0_slopeAt, Cond.code yX0_slopeAt cX0_slopeAt 8 (some .double), Cond.constantDouble RX0 72 (4611686018427387904), Cond.methodLink RX0 68 yX0_nearer, Cond.static yX0_nearer, Cond.code yX0_nearer cX0_nearer 4 (some .double), Cond.methodLink RX0 74 yX0_farther, Cond.static yX0_farther, Cond.code yX0_farther cX0_farther 4 (some .double)]
def wsX3_run_r5 : List Cond := [Cond.methodLink RX0 44 yX0_guess, Cond.instanceMethod yX0_guess, Cond.selects RX0 yX0_guess yX0_guess, Cond.code yX0_guess cX0_guess 5 none, Cond.fieldLink RX0 27 "FlowGrid$Faces" "left" "LFlowGrid$State;", Cond.fieldLink RX0 31 "FlowGrid$Faces" "right" "LFlowGrid$State;", Cond.methodLink RX0 77 yX2_become, Cond.instanceMethod yX2_become, Cond.selects RX2 yX2_become yX2_become, Cond.initialized RX2, Cond.code yX2_become cX2_become 5 none, Cond.fieldLink RX2 7 "FlowGrid$State" "h" "D", Cond.fieldLink RX2 13 "FlowGrid$State" "m" "D", Cond.fieldLink RX2 16 "FlowGrid$State" "speed" "D", Cond.fieldLink RX2 19 "FlowGrid$State" "wave" "D", Cond.methodLink RX0 47 yX0_solveNarrow, Cond.instanceMethod yX0_solveNarrow, Cond.selects RX0 yX0_solveNarrow yX0_solveNarrow, Cond.code yX0_solveNarrow cX0_solveNarrow 6 none, Cond.fieldLink RX0 101 "FlowGrid$State" "speed" "D", Cond.fieldLink RX0 104 "FlowGrid$State" "wave" "D", Cond.fieldLink RX0 18 "FlowGrid$Faces" "depthFluxes" "[D", Cond.fieldLink RX0 91 "FlowGrid$State" "h" "D", Cond.fieldLink RX0 21 "FlowGrid$Faces" "momentumFluxes" "[D"]
def wsX3_run_r6 : List Cond := [Cond.fieldLink RX0 98 "FlowGrid$State" "m" "D", Cond.methodLink RX0 88 yX2_depthFlux, Cond.instanceMethod yX2_depthFlux, Cond.selects RX2 yX2_depthFlux yX2_depthFlux, Cond.code yX2_depthFlux cX2_depthFlux 1 (some .double), Cond.methodLink RX0 110 yX0_blend, Cond.static yX0_blend, Cond.code yX0_blend cX0_blend 10 (some .double), Cond.methodLink RX0 95 yX2_momentumFlux, Cond.instanceMethod yX2_momentumFlux, Cond.selects RX2 yX2_momentumFlux yX2_momentumFlux, Cond.code yX2_momentumFlux cX2_momentumFlux 1 (some .double), Cond.constantDouble RX2 35 (4602678819172646912), Cond.methodLink RX0 51 yX0_solveBroad, Cond.instanceMethod yX0_solveBroad, Cond.selects RX0 yX0_solveBroad yX0_solveBroad, Cond.code yX0_solveBroad cX0_solveBroad 4 none, Cond.methodLink RX0 81 yX2_reach, Cond.instanceMethod yX2_reach, Cond.selects RX2 yX2_reach yX2_reach, Cond.code yX2_reach cX2_reach 1 (some .double), Cond.methodLink RX3 159 yX1_move, Cond.instanceMethod yX1_move, Cond.selects RX1 yX1_move yX1_move]
def wsX3_run_r7 : List Cond := [Cond.code yX1_move cX1_move 6 none, Cond.fieldLink RX1 35 "FlowGrid$Faces" "depthFluxes" "[D", Cond.fieldLink RX1 40 "FlowGrid$Faces" "momentumFluxes" "[D", Cond.methodLink RX3 163 yX1_hasFailed, Cond.instanceMethod yX1_hasFailed, Cond.selects RX1 yX1_hasFailed yX1_hasFailed, Cond.code yX1_hasFailed cX1_hasFailed 2 (some .boolean), Cond.constantDouble RX1 43 (4576918229304087675), Cond.constantDouble RX1 45 (4652007308841189376), Cond.constantDouble RX1 47 (13875379345695965184), Cond.methodLink RX3 167 yX1_meet, Cond.instanceMethod yX1_meet, Cond.selects RX1 yX1_meet yX1_meet, Cond.code yX1_meet cX1_meet 3 none, Cond.constantDouble RX1 49 (4602678819172646912)]
def wsX3_run : List Cond := .code yX3_run cX3_run 6 (some .int) :: ((wsX3_run_r1 ++ (wsX3_run_r2 ++ (wsX3_run_r3 ++ (wsX3_run_r4 ++ (wsX3_run_r5 ++ (wsX3_run_r6 ++ wsX3_run_r7)))))) ++ wsX30 ++ wsX10 ++ wsX00 ++ wsX20 ++ (vx_atS RX3 64 "java/lang/IllegalArgumentException" ["java/lang/RuntimeException", "java/lang/Exception"]).filter goodWord ++ (vx_atS RX3 154 "java/lang/IllegalStateException" ["java/lang/RuntimeException", "java/lang/Exception"]).filter goodWord)
def wsX3_cell : List Cond := .code yX3_cell cX3_cell 7 (some .double) :: ([.classLink RX3 106 "java/util/NoSuchElementException", .initialized "java/util/NoSuchElementException", .fieldLink RX3 12 "FlowGrid" "now" "LFlowGrid$Row;", .fieldLink RX3 87 "FlowGrid$Row" "depths" "[D", .fieldLink RX3 91 "FlowGrid$Row" "momenta" "[D", .methodLink RX3 69 yX1_has, .instanceMethod yX1_has, .selects RX1 yX1_has yX1_has, .initialized RX1, .code yX1_has cX1_has 2 (some .boolean), .fieldLink RX1 18 "FlowGrid$Row" "size" "I", .methodLink RX3 109 yX3_speedOf, .static yX3_speedOf, .initialized RX3, .code yX3_speedOf cX3_speedOf 4 (some .double), .methodLink RX3 113 yX3_root, .static yX3_root, .code yX3_root cX3_root 5 (some .double), .constantDouble RX3 148 (4602678819172646912)] ++ wsX30 ++ wsX10 ++ (vx_atS RX3 108 "java/util/NoSuchElementException" ["java/lang/RuntimeException", "java/lang/Exception"]).filter goodWord)
def wsX3_flux_r1 : List Cond := [Cond.classLink RX3 106 "java/util/NoSuchElementException", Cond.initialized "java/util/NoSuchElementException", Cond.fieldLink RX3 12 "FlowGrid" "now" "LFlowGrid$Row;", Cond.fieldLink RX3 118 "FlowGrid$Row" "size" "I", Cond.fieldLink RX3 26 "FlowGrid" "ends" "I", Cond.fieldLink RX3 22 "FlowGrid" "faces" "LFlowGrid$Faces;", Cond.fieldLink RX3 30 "FlowGrid" "limiter" "I", Cond.fieldLink RX3 33 "FlowGrid" "solver" "I", Cond.fieldLink RX3 130 "FlowGrid$Faces" "momentumFluxes" "[D", Cond.fieldLink RX3 133 "FlowGrid$Faces" "depthFluxes" "[D", Cond.methodLink RX3 56 yX3_isWithin, Cond.static yX3_isWithin, Cond.initialized RX3, Cond.code yX3_isWithin cX3_isWithin 3 (some .boolean), Cond.methodLink RX3 123 yX1_fillEnds, Cond.instanceMethod yX1_fillEnds, Cond.selects RX1 yX1_fillEnds yX1_fillEnds, Cond.initialized RX1, Cond.code yX1_fillEnds cX1_fillEnds 5 none, Cond.fieldLink RX1 18 "FlowGrid$Row" "size" "I", Cond.methodLink RX1 28 yX1_copy, Cond.instanceMethod yX1_copy, Cond.selects RX1 yX1_copy yX1_copy, Cond.code yX1_copy cX1_copy 3 none]
def wsX3_flux_r2 : List Cond := [Cond.fieldLink RX1 9 "FlowGrid$Row" "depths" "[D", Cond.fieldLink RX1 15 "FlowGrid$Row" "momenta" "[D", Cond.methodLink RX1 32 yX1_mirror, Cond.instanceMethod yX1_mirror, Cond.selects RX1 yX1_mirror yX1_mirror, Cond.code yX1_mirror cX1_mirror 3 none, Cond.methodLink RX3 126 yX0_measure, Cond.instanceMethod yX0_measure, Cond.selects RX0 yX0_measure yX0_measure, Cond.initialized RX0, Cond.code yX0_measure cX0_measure 5 none, Cond.fieldLink RX0 38 "FlowGrid$Row" "size" "I", Cond.methodLink RX0 34 yX0_fillSlopes, Cond.instanceMethod yX0_fillSlopes, Cond.selects RX0 yX0_fillSlopes yX0_fillSlopes, Cond.code yX0_fillSlopes cX0_fillSlopes 9 none, Cond.fieldLink RX0 54 "FlowGrid$Row" "depths" "[D", Cond.constantDouble RX0 61 (4602678819172646912), Cond.constantDouble RX0 63 (4576918229304087675), Cond.fieldLink RX0 9 "FlowGrid$Faces" "depthSlopes" "[D", Cond.fieldLink RX0 15 "FlowGrid$Faces" "momentumSlopes" "[D", Cond.fieldLink RX0 65 "FlowGrid$Row" "momenta" "[D", Cond.methodLink RX0 57 yX0_slopeAt, Cond.instanceMethod yX0_slopeAt]
def wsX3_flux_r3 : List Cond := [Cond.selects RX0 yX0_slopeAt yX0_slopeAt, Cond.code yX0_slopeAt cX0_slopeAt 8 (some .double), Cond.constantDouble RX0 72 (4611686018427387904), Cond.methodLink RX0 68 yX0_nearer, Cond.static yX0_nearer, Cond.code yX0_nearer cX0_nearer 4 (some .double), Cond.methodLink RX0 74 yX0_farther, Cond.static yX0_farther, Cond.code yX0_farther cX0_farther 4 (some .double), Cond.methodLink RX0 44 yX0_guess, Cond.instanceMethod yX0_guess, Cond.selects RX0 yX0_guess yX0_guess, Cond.code yX0_guess cX0_guess 5 none, Cond.fieldLink RX0 27 "FlowGrid$Faces" "left" "LFlowGrid$State;", Cond.fieldLink RX0 31 "FlowGrid$Faces" "right" "LFlowGrid$State;", Cond.methodLink RX0 77 yX2_become, Cond.instanceMethod yX2_become, Cond.selects RX2 yX2_become yX2_become, Cond.initialized RX2, Cond.code yX2_become cX2_become 5 none, Cond.fieldLink RX2 7 "FlowGrid$State" "h" "D", Cond.fieldLink RX2 13 "FlowGrid$State" "m" "D", Cond.fieldLink RX2 16 "FlowGrid$State" "speed" "D", Cond.fieldLink RX2 19 "FlowGrid$State" "wave" "D"]
def wsX3_flux_r4 : List Cond := [Cond.static yX3_speedOf, Cond.code yX3_speedOf cX3_speedOf 4 (some .double), Cond.static yX3_root, Cond.code yX3_root cX3_root 5 (some .double), Cond.constantDouble RX3 148 (4602678819172646912), Cond.methodLink RX0 47 yX0_solveNarrow, Cond.instanceMethod yX0_solveNarrow, Cond.selects RX0 yX0_solveNarrow yX0_solveNarrow, Cond.code yX0_solveNarrow cX0_solveNarrow 6 none, Cond.fieldLink RX0 101 "FlowGrid$State" "speed" "D", Cond.fieldLink RX0 104 "FlowGrid$State" "wave" "D", Cond.fieldLink RX0 18 "FlowGrid$Faces" "depthFluxes" "[D", Cond.fieldLink RX0 91 "FlowGrid$State" "h" "D", Cond.fieldLink RX0 21 "FlowGrid$Faces" "momentumFluxes" "[D", Cond.fieldLink RX0 98 "FlowGrid$State" "m" "D", Cond.static yX3_lesser, Cond.code yX3_lesser cX3_lesser 4 (some .double), Cond.static yX3_greater, Cond.code yX3_greater cX3_greater 4 (some .double), Cond.methodLink RX0 88 yX2_depthFlux, Cond.instanceMethod yX2_depthFlux, Cond.selects RX2 yX2_depthFlux yX2_depthFlux, Cond.code yX2_depthFlux cX2_depthFlux 1 (some .double), Cond.methodLink RX0 110 yX0_blend]
def wsX3_flux_r5 : List Cond := [Cond.static yX0_blend, Cond.code yX0_blend cX0_blend 10 (some .double), Cond.methodLink RX0 95 yX2_momentumFlux, Cond.instanceMethod yX2_momentumFlux, Cond.selects RX2 yX2_momentumFlux yX2_momentumFlux, Cond.code yX2_momentumFlux cX2_momentumFlux 1 (some .double), Cond.constantDouble RX2 35 (4602678819172646912), Cond.methodLink RX0 51 yX0_solveBroad, Cond.instanceMethod yX0_solveBroad, Cond.selects RX0 yX0_solveBroad yX0_solveBroad, Cond.code yX0_solveBroad cX0_solveBroad 4 none, Cond.methodLink RX0 81 yX2_reach, Cond.instanceMethod yX2_reach, Cond.selects RX2 yX2_reach yX2_reach, Cond.code yX2_reach cX2_reach 1 (some .double), Cond.static yX3_absolute, Cond.code yX3_absolute cX3_absolute 2 (some .double)]
def wsX3_flux : List Cond := .code yX3_flux cX3_flux 3 (some .double) :: ((wsX3_flux_r1 ++ (wsX3_flux_r2 ++ (wsX3_flux_r3 ++ (wsX3_flux_r4 ++ wsX3_flux_r5)))) ++ wsX30 ++ wsX10 ++ wsX00 ++ wsX20 ++ (vx_atS RX3 108 "java/util/NoSuchElementException" ["java/lang/RuntimeException", "java/lang/Exception"]).filter goodWord)
def wsX3_sum : List Cond := .code yX3_sum cX3_sum 2 (some .double) :: ([.fieldLink RX3 12 "FlowGrid" "now" "LFlowGrid$Row;", .fieldLink RX3 91 "FlowGrid$Row" "momenta" "[D", .fieldLink RX3 87 "FlowGrid$Row" "depths" "[D", .methodLink RX3 136 yX1_total, .instanceMethod yX1_total, .selects RX1 yX1_total yX1_total, .initialized RX1, .code yX1_total cX1_total 11 (some .double), .fieldLink RX1 18 "FlowGrid$Row" "size" "I"] ++ wsX30 ++ wsX10)
def wsX3_time : List Cond := .code yX3_time cX3_time 1 (some .double) :: ([.fieldLink RX3 39 "FlowGrid" "gone" "D"] ++ wsX30)
def wsX3_count : List Cond := .code yX3_count cX3_count 2 (some .int) :: ([.classLink RX3 106 "java/util/NoSuchElementException", .initialized "java/util/NoSuchElementException", .fieldLink RX3 12 "FlowGrid" "now" "LFlowGrid$Row;", .fieldLink RX3 118 "FlowGrid$Row" "size" "I", .fieldLink RX3 43 "FlowGrid" "stepsMade" "I", .fieldLink RX3 46 "FlowGrid" "triesFailed" "I", .fieldLink RX3 49 "FlowGrid" "stepsRefused" "I"] ++ wsX30 ++ wsX10 ++ (vx_atS RX3 108 "java/util/NoSuchElementException" ["java/lang/RuntimeException", "java/lang/Exception"]).filter goodWord)
def wsX4_empty : List Cond := .code yX4_empty cX4_empty 3 none :: ([.fieldLink RX4 30 "FlowGridModel" "n" "I", .fieldLink RX4 33 "FlowGridModel" "time" "D", .fieldLink RX4 7 "FlowGridModel" "depth" "[D", .fieldLink RX4 13 "FlowGridModel" "momentum" "[D"] ++ wsX40)
def wsX4_init : List Cond := .code yX4_init cX4_init 1 none :: ([.methodLink RX4 1 objectInit, .instanceMethod objectInit, .code objectInit ⟨#[0xb1]⟩ 1 none, .arrayClass .double, .fieldLink RX4 7 "FlowGridModel" "depth" "[D", .fieldLink RX4 13 "FlowGridModel" "momentum" "[D", .fieldLink RX4 20 "FlowGridModel" "limiter" "I", .fieldLink RX4 24 "FlowGridModel" "order" "I", .methodLink RX4 16 yX4_empty, .instanceMethod yX4_empty, .selects RX4 yX4_empty yX4_empty, .initialized RX4, .code yX4_empty cX4_empty 3 none, .fieldLink RX4 30 "FlowGridModel" "n" "I", .fieldLink RX4 33 "FlowGridModel" "time" "D"] ++ wsX40)
def wsX4_thrown : List Cond := .code yX4_thrown cX4_thrown 1 (some .int) :: ([.fieldLink RX4 27 "FlowGridModel" "thrown" "I"] ++ wsX40)
def wsX4_fails : List Cond := .code yX4_fails cX4_fails 3 (some .boolean) :: ([.fieldLink RX4 27 "FlowGridModel" "thrown" "I"] ++ wsX40)
def wsX4_out : List Cond := .code yX4_out cX4_out 3 (some .boolean) :: ([])
def wsX4_cells : List Cond := .code yX4_cells cX4_cells 2 none :: ([.methodLink RX4 37 yX4_out, .static yX4_out, .initialized RX4, .code yX4_out cX4_out 3 (some .boolean), .methodLink RX4 41 yX4_fails, .instanceMethod yX4_fails, .selects RX4 yX4_fails yX4_fails, .code yX4_fails cX4_fails 3 (some .boolean), .fieldLink RX4 27 "FlowGridModel" "thrown" "I", .methodLink RX4 16 yX4_empty, .instanceMethod yX4_empty, .selects RX4 yX4_empty yX4_empty, .code yX4_empty cX4_empty 3 none, .fieldLink RX4 30 "FlowGridModel" "n" "I", .fieldLink RX4 33 "FlowGridModel" "time" "D", .fieldLink RX4 7 "FlowGridModel" "depth" "[D", .fieldLink RX4 13 "FlowGridModel" "momentum" "[D"] ++ wsX40)
def wsX4_choose : List Cond := .code yX4_choose cX4_choose 5 none :: ([.fieldLink RX4 45 "FlowGridModel" "ends" "I", .fieldLink RX4 20 "FlowGridModel" "limiter" "I", .fieldLink RX4 48 "FlowGridModel" "solver" "I", .fieldLink RX4 24 "FlowGridModel" "order" "I", .methodLink RX4 37 yX4_out, .static yX4_out, .initialized RX4, .code yX4_out cX4_out 3 (some .boolean), .methodLink RX4 41 yX4_fails, .instanceMethod yX4_fails, .selects RX4 yX4_fails yX4_fails, .code yX4_fails cX4_fails 3 (some .boolean), .fieldLink RX4 27 "FlowGridModel" "thrown" "I"] ++ wsX40)
def wsX4_within : List Cond := .code yX4_within cX4_within 6 (some .boolean) :: ([])
def wsX4_put : List Cond := .code yX4_put cX4_put 6 none :: ([.fieldLink RX4 30 "FlowGridModel" "n" "I", .constantDouble RX4 51 (4593671619917905920), .constantDouble RX4 53 (4626322717216342016), .constantDouble RX4 59 (13855605728582041600), .constantDouble RX4 61 (4632233691727265792), .fieldLink RX4 7 "FlowGridModel" "depth" "[D", .fieldLink RX4 13 "FlowGridModel" "momentum" "[D", .methodLink RX4 37 yX4_out, .static yX4_out, .initialized RX4, .code yX4_out cX4_out 3 (some .boolean), .methodLink RX4 55 yX4_within, .static yX4_within, .code yX4_within cX4_within 6 (some .boolean), .methodLink RX4 41 yX4_fails, .instanceMethod yX4_fails, .selects RX4 yX4_fails yX4_fails, .code yX4_fails cX4_fails 3 (some .boolean), .fieldLink RX4 27 "FlowGridModel" "thrown" "I"] ++ wsX40)
def wsX4_root : List Cond := .code yX4_root cX4_root 5 (some .double) :: ([.constantDouble RX4 63 (4602678819172646912)])
def wsX4_size : List Cond := .code yX4_size cX4_size 2 (some .double) :: ([])
def wsX4_greater : List Cond := .code yX4_greater cX4_greater 4 (some .double) :: ([])
def wsX4_lesser : List Cond := .code yX4_lesser cX4_lesser 4 (some .double) :: ([])
def wsX4_least : List Cond := .code yX4_least cX4_least 4 (some .double) :: ([.methodLink RX4 65 yX4_size, .static yX4_size, .initialized RX4, .code yX4_size cX4_size 2 (some .double)])
def wsX4_force : List Cond := .code yX4_force cX4_force 6 (some .double) :: ([.constantDouble RX4 63 (4602678819172646912)])
def wsX4_speed : List Cond := .code yX4_speed cX4_speed 4 (some .double) :: ([.methodLink RX4 65 yX4_size, .static yX4_size, .initialized RX4, .code yX4_size cX4_size 2 (some .double), .methodLink RX4 69 yX4_root, .static yX4_root, .code yX4_root cX4_root 5 (some .double), .constantDouble RX4 63 (4602678819172646912)])
def wsX4_close : List Cond := .code yX4_close cX4_close 7 none :: ([.fieldLink RX4 30 "FlowGridModel" "n" "I", .fieldLink RX4 45 "FlowGridModel" "ends" "I", .fieldLink RX4 7 "FlowGridModel" "depth" "[D", .fieldLink RX4 13 "FlowGridModel" "momentum" "[D"] ++ wsX40)
def wsX4_slope : List Cond := .code yX4_slope cX4_slope 9 (some .double) :: ([.fieldLink RX4 20 "FlowGridModel" "limiter" "I", .constantDouble RX4 76 (4611686018427387904), .methodLink RX4 72 yX4_least, .static yX4_least, .initialized RX4, .code yX4_least cX4_least 4 (some .double), .methodLink RX4 65 yX4_size, .static yX4_size, .code yX4_size cX4_size 2 (some .double)] ++ wsX40)
def wsX4_slopes : List Cond := .code yX4_slopes cX4_slopes 2 none :: ([.fieldLink RX4 7 "FlowGridModel" "depth" "[D", .fieldLink RX4 81 "FlowGridModel" "slopeH" "D", .fieldLink RX4 13 "FlowGridModel" "momentum" "[D", .fieldLink RX4 84 "FlowGridModel" "slopeM" "D", .constantDouble RX4 63 (4602678819172646912), .constantDouble RX4 87 (4576918229304087675), .methodLink RX4 78 yX4_slope, .instanceMethod yX4_slope, .selects RX4 yX4_slope yX4_slope, .initialized RX4, .code yX4_slope cX4_slope 9 (some .double), .fieldLink RX4 20 "FlowGridModel" "limiter" "I", .constantDouble RX4 76 (4611686018427387904), .methodLink RX4 72 yX4_least, .static yX4_least, .code yX4_least cX4_least 4 (some .double), .methodLink RX4 65 yX4_size, .static yX4_size, .code yX4_size cX4_size 2 (some .double)] ++ wsX40)
def wsX4_broad : List Cond := .code yX4_broad cX4_broad 10 (some .double) :: ([.constantDouble RX4 63 (4602678819172646912)])
def wsX4_narrow : List Cond := .code yX4_narrow cX4_narrow 12 (some .double) :: ([])
def wsX4_face_r1 : List Cond := [Cond.fieldLink RX4 7 "FlowGridModel" "depth" "[D", Cond.constantDouble RX4 63 (4602678819172646912), Cond.fieldLink RX4 81 "FlowGridModel" "slopeH" "D", Cond.fieldLink RX4 92 "FlowGridModel" "leftH" "D", Cond.fieldLink RX4 13 "FlowGridModel" "momentum" "[D", Cond.fieldLink RX4 84 "FlowGridModel" "slopeM" "D", Cond.fieldLink RX4 95 "FlowGridModel" "leftM" "D", Cond.fieldLink RX4 98 "FlowGridModel" "rightH" "D", Cond.fieldLink RX4 101 "FlowGridModel" "rightM" "D", Cond.fieldLink RX4 48 "FlowGridModel" "solver" "I", Cond.fieldLink RX4 117 "FlowGridModel" "fluxH" "D", Cond.fieldLink RX4 120 "FlowGridModel" "fluxM" "D", Cond.methodLink RX4 89 yX4_slopes, Cond.instanceMethod yX4_slopes, Cond.selects RX4 yX4_slopes yX4_slopes, Cond.initialized RX4, Cond.code yX4_slopes cX4_slopes 2 none, Cond.constantDouble RX4 87 (4576918229304087675), Cond.methodLink RX4 78 yX4_slope, Cond.instanceMethod yX4_slope, Cond.selects RX4 yX4_slope yX4_slope, Cond.code yX4_slope cX4_slope 9 (some .double), Cond.fieldLink RX4 20 "FlowGridModel" "limiter" "I", Cond.constantDouble RX4 76 (4611686018427387904)]
def wsX4_face_r2 : List Cond := [Cond.methodLink RX4 72 yX4_least, Cond.static yX4_least, Cond.code yX4_least cX4_least 4 (some .double), Cond.methodLink RX4 65 yX4_size, Cond.static yX4_size, Cond.code yX4_size cX4_size 2 (some .double), Cond.methodLink RX4 104 yX4_force, Cond.static yX4_force, Cond.code yX4_force cX4_force 6 (some .double), Cond.methodLink RX4 107 yX4_speed, Cond.static yX4_speed, Cond.code yX4_speed cX4_speed 4 (some .double), Cond.methodLink RX4 69 yX4_root, Cond.static yX4_root, Cond.code yX4_root cX4_root 5 (some .double), Cond.methodLink RX4 110 yX4_greater, Cond.static yX4_greater, Cond.code yX4_greater cX4_greater 4 (some .double), Cond.methodLink RX4 113 yX4_broad, Cond.static yX4_broad, Cond.code yX4_broad cX4_broad 10 (some .double), Cond.methodLink RX4 123 yX4_lesser, Cond.static yX4_lesser, Cond.code yX4_lesser cX4_lesser 4 (some .double)]
def wsX4_face_r3 : List Cond := [Cond.methodLink RX4 126 yX4_narrow, Cond.static yX4_narrow, Cond.code yX4_narrow cX4_narrow 12 (some .double)]
def wsX4_face : List Cond := .code yX4_face cX4_face 20 none :: ((wsX4_face_r1 ++ (wsX4_face_r2 ++ wsX4_face_r3)) ++ wsX40)
def wsX4_stage_r1 : List Cond := [Cond.fieldLink RX4 30 "FlowGridModel" "n" "I", Cond.fieldLink RX4 117 "FlowGridModel" "fluxH" "D", Cond.fieldLink RX4 120 "FlowGridModel" "fluxM" "D", Cond.fieldLink RX4 7 "FlowGridModel" "depth" "[D", Cond.fieldLink RX4 13 "FlowGridModel" "momentum" "[D", Cond.constantDouble RX4 87 (4576918229304087675), Cond.constantDouble RX4 137 (4652007308841189376), Cond.constantDouble RX4 139 (13875379345695965184), Cond.methodLink RX4 130 yX4_close, Cond.instanceMethod yX4_close, Cond.selects RX4 yX4_close yX4_close, Cond.initialized RX4, Cond.code yX4_close cX4_close 7 none, Cond.fieldLink RX4 45 "FlowGridModel" "ends" "I", Cond.methodLink RX4 133 yX4_face, Cond.instanceMethod yX4_face, Cond.selects RX4 yX4_face yX4_face, Cond.code yX4_face cX4_face 20 none, Cond.constantDouble RX4 63 (4602678819172646912), Cond.fieldLink RX4 81 "FlowGridModel" "slopeH" "D", Cond.fieldLink RX4 92 "FlowGridModel" "leftH" "D", Cond.fieldLink RX4 84 "FlowGridModel" "slopeM" "D", Cond.fieldLink RX4 95 "FlowGridModel" "leftM" "D", Cond.fieldLink RX4 98 "FlowGridModel" "rightH" "D"]
def wsX4_stage_r2 : List Cond := [Cond.fieldLink RX4 101 "FlowGridModel" "rightM" "D", Cond.fieldLink RX4 48 "FlowGridModel" "solver" "I", Cond.methodLink RX4 89 yX4_slopes, Cond.instanceMethod yX4_slopes, Cond.selects RX4 yX4_slopes yX4_slopes, Cond.code yX4_slopes cX4_slopes 2 none, Cond.methodLink RX4 78 yX4_slope, Cond.instanceMethod yX4_slope, Cond.selects RX4 yX4_slope yX4_slope, Cond.code yX4_slope cX4_slope 9 (some .double), Cond.fieldLink RX4 20 "FlowGridModel" "limiter" "I", Cond.constantDouble RX4 76 (4611686018427387904), Cond.methodLink RX4 72 yX4_least, Cond.static yX4_least, Cond.code yX4_least cX4_least 4 (some .double), Cond.methodLink RX4 65 yX4_size, Cond.static yX4_size, Cond.code yX4_size cX4_size 2 (some .double), Cond.methodLink RX4 104 yX4_force, Cond.static yX4_force, Cond.code yX4_force cX4_force 6 (some .double), Cond.methodLink RX4 107 yX4_speed, Cond.static yX4_speed, Cond.code yX4_speed cX4_speed 4 (some .double)]
def wsX4_stage_r3 : List Cond := [Cond.methodLink RX4 69 yX4_root, Cond.static yX4_root, Cond.code yX4_root cX4_root 5 (some .double), Cond.methodLink RX4 110 yX4_greater, Cond.static yX4_greater, Cond.code yX4_greater cX4_greater 4 (some .double), Cond.methodLink RX4 113 yX4_broad, Cond.static yX4_broad, Cond.code yX4_broad cX4_broad 10 (some .double), Cond.methodLink RX4 123 yX4_lesser, Cond.static yX4_lesser, Cond.code yX4_lesser cX4_lesser 4 (some .double), Cond.methodLink RX4 126 yX4_narrow, Cond.static yX4_narrow, Cond.code yX4_narrow cX4_narrow 12 (some .double)]
def wsX4_stage : List Cond := .code yX4_stage cX4_stage 13 (some .boolean) :: ((wsX4_stage_r1 ++ (wsX4_stage_r2 ++ wsX4_stage_r3)) ++ wsX40)
def wsX4_tried_r1 : List Cond := [Cond.fieldLink RX4 24 "FlowGridModel" "order" "I", Cond.fieldLink RX4 30 "FlowGridModel" "n" "I", Cond.fieldLink RX4 7 "FlowGridModel" "depth" "[D", Cond.constantDouble RX4 63 (4602678819172646912), Cond.fieldLink RX4 13 "FlowGridModel" "momentum" "[D", Cond.methodLink RX4 141 yX4_stage, Cond.instanceMethod yX4_stage, Cond.selects RX4 yX4_stage yX4_stage, Cond.initialized RX4, Cond.code yX4_stage cX4_stage 13 (some .boolean), Cond.fieldLink RX4 117 "FlowGridModel" "fluxH" "D", Cond.fieldLink RX4 120 "FlowGridModel" "fluxM" "D", Cond.constantDouble RX4 87 (4576918229304087675), Cond.constantDouble RX4 137 (4652007308841189376), Cond.constantDouble RX4 139 (13875379345695965184), Cond.methodLink RX4 130 yX4_close, Cond.instanceMethod yX4_close, Cond.selects RX4 yX4_close yX4_close, Cond.code yX4_close cX4_close 7 none, Cond.fieldLink RX4 45 "FlowGridModel" "ends" "I", Cond.methodLink RX4 133 yX4_face, Cond.instanceMethod yX4_face, Cond.selects RX4 yX4_face yX4_face, Cond.code yX4_face cX4_face 20 none]
def wsX4_tried_r2 : List Cond := [Cond.fieldLink RX4 81 "FlowGridModel" "slopeH" "D", Cond.fieldLink RX4 92 "FlowGridModel" "leftH" "D", Cond.fieldLink RX4 84 "FlowGridModel" "slopeM" "D", Cond.fieldLink RX4 95 "FlowGridModel" "leftM" "D", Cond.fieldLink RX4 98 "FlowGridModel" "rightH" "D", Cond.fieldLink RX4 101 "FlowGridModel" "rightM" "D", Cond.fieldLink RX4 48 "FlowGridModel" "solver" "I", Cond.methodLink RX4 89 yX4_slopes, Cond.instanceMethod yX4_slopes, Cond.selects RX4 yX4_slopes yX4_slopes, Cond.code yX4_slopes cX4_slopes 2 none, Cond.methodLink RX4 78 yX4_slope, Cond.instanceMethod yX4_slope, Cond.selects RX4 yX4_slope yX4_slope, Cond.code yX4_slope cX4_slope 9 (some .double), Cond.fieldLink RX4 20 "FlowGridModel" "limiter" "I", Cond.constantDouble RX4 76 (4611686018427387904), Cond.methodLink RX4 72 yX4_least, Cond.static yX4_least, Cond.code yX4_least cX4_least 4 (some .double), Cond.methodLink RX4 65 yX4_size, Cond.static yX4_size, Cond.code yX4_size cX4_size 2 (some .double), Cond.methodLink RX4 104 yX4_force]
def wsX4_tried_r3 : List Cond := [Cond.static yX4_force, Cond.code yX4_force cX4_force 6 (some .double), Cond.methodLink RX4 107 yX4_speed, Cond.static yX4_speed, Cond.code yX4_speed cX4_speed 4 (some .double), Cond.methodLink RX4 69 yX4_root, Cond.static yX4_root, Cond.code yX4_root cX4_root 5 (some .double), Cond.methodLink RX4 110 yX4_greater, Cond.static yX4_greater, Cond.code yX4_greater cX4_greater 4 (some .double), Cond.methodLink RX4 113 yX4_broad, Cond.static yX4_broad, Cond.code yX4_broad cX4_broad 10 (some .double), Cond.methodLink RX4 123 yX4_lesser, Cond.static yX4_lesser, Cond.code yX4_lesser cX4_lesser 4 (some .double), Cond.methodLink RX4 126 yX4_narrow, Cond.static yX4_narrow, Cond.code yX4_narrow cX4_narrow 12 (some .double)]
def wsX4_tried : List Cond := .code yX4_tried cX4_tried 4 (some .boolean) :: ((wsX4_tried_r1 ++ (wsX4_tried_r2 ++ wsX4_tried_r3)) ++ wsX40)
def wsX4_bounded : List Cond := .code yX4_bounded cX4_bounded 7 (some .double) :: ([.fieldLink RX4 30 "FlowGridModel" "n" "I", .fieldLink RX4 7 "FlowGridModel" "depth" "[D", .fieldLink RX4 13 "FlowGridModel" "momentum" "[D", .constantDouble RX4 145 (4600877379321698714), .methodLink RX4 107 yX4_speed, .static yX4_speed, .initialized RX4, .code yX4_speed cX4_speed 4 (some .double), .methodLink RX4 65 yX4_size, .static yX4_size, .code yX4_size cX4_size 2 (some .double), .methodLink RX4 69 yX4_root, .static yX4_root, .code yX4_root cX4_root 5 (some .double), .constantDouble RX4 63 (4602678819172646912), .methodLink RX4 110 yX4_greater, .static yX4_greater, .code yX4_greater cX4_greater 4 (some .double)] ++ wsX40)
def wsX4_made_r1 : List Cond := [Cond.fieldLink RX4 33 "FlowGridModel" "time" "D", Cond.fieldLink RX4 154 "FlowGridModel" "steps" "I", Cond.fieldLink RX4 157 "FlowGridModel" "failed" "I", Cond.constantDouble RX4 63 (4602678819172646912), Cond.fieldLink RX4 160 "FlowGridModel" "refused" "I", Cond.methodLink RX4 147 yX4_bounded, Cond.instanceMethod yX4_bounded, Cond.selects RX4 yX4_bounded yX4_bounded, Cond.initialized RX4, Cond.code yX4_bounded cX4_bounded 7 (some .double), Cond.fieldLink RX4 30 "FlowGridModel" "n" "I", Cond.fieldLink RX4 7 "FlowGridModel" "depth" "[D", Cond.fieldLink RX4 13 "FlowGridModel" "momentum" "[D", Cond.constantDouble RX4 145 (4600877379321698714), Cond.methodLink RX4 107 yX4_speed, Cond.static yX4_speed, Cond.code yX4_speed cX4_speed 4 (some .double), Cond.methodLink RX4 65 yX4_size, Cond.static yX4_size, Cond.code yX4_size cX4_size 2 (some .double), Cond.methodLink RX4 69 yX4_root, Cond.static yX4_root, Cond.code yX4_root cX4_root 5 (some .double), Cond.methodLink RX4 110 yX4_greater]
def wsX4_made_r2 : List Cond := [Cond.static yX4_greater, Cond.code yX4_greater cX4_greater 4 (some .double), Cond.methodLink RX4 150 yX4_tried, Cond.instanceMethod yX4_tried, Cond.selects RX4 yX4_tried yX4_tried, Cond.code yX4_tried cX4_tried 4 (some .boolean), Cond.fieldLink RX4 24 "FlowGridModel" "order" "I", Cond.methodLink RX4 141 yX4_stage, Cond.instanceMethod yX4_stage, Cond.selects RX4 yX4_stage yX4_stage, Cond.code yX4_stage cX4_stage 13 (some .boolean), Cond.fieldLink RX4 117 "FlowGridModel" "fluxH" "D", Cond.fieldLink RX4 120 "FlowGridModel" "fluxM" "D", Cond.constantDouble RX4 87 (4576918229304087675), Cond.constantDouble RX4 137 (4652007308841189376), Cond.constantDouble RX4 139 (13875379345695965184), Cond.methodLink RX4 130 yX4_close, Cond.instanceMethod yX4_close, Cond.selects RX4 yX4_close yX4_close, Cond.code yX4_close cX4_close 7 none, Cond.fieldLink RX4 45 "FlowGridModel" "ends" "I", Cond.methodLink RX4 133 yX4_face, Cond.instanceMethod yX4_face, Cond.selects RX4 yX4_face yX4_face]
def wsX4_made_r3 : List Cond := [Cond.code yX4_face cX4_face 20 none, Cond.fieldLink RX4 81 "FlowGridModel" "slopeH" "D", Cond.fieldLink RX4 92 "FlowGridModel" "leftH" "D", Cond.fieldLink RX4 84 "FlowGridModel" "slopeM" "D", Cond.fieldLink RX4 95 "FlowGridModel" "leftM" "D", Cond.fieldLink RX4 98 "FlowGridModel" "rightH" "D", Cond.fieldLink RX4 101 "FlowGridModel" "rightM" "D", Cond.fieldLink RX4 48 "FlowGridModel" "solver" "I", Cond.methodLink RX4 89 yX4_slopes, Cond.instanceMethod yX4_slopes, Cond.selects RX4 yX4_slopes yX4_slopes, Cond.code yX4_slopes cX4_slopes 2 none, Cond.methodLink RX4 78 yX4_slope, Cond.instanceMethod yX4_slope, Cond.selects RX4 yX4_slope yX4_slope, Cond.code yX4_slope cX4_slope 9 (some .double), Cond.fieldLink RX4 20 "FlowGridModel" "limiter" "I", Cond.constantDouble RX4 76 (4611686018427387904), Cond.methodLink RX4 72 yX4_least, Cond.static yX4_least, Cond.code yX4_least cX4_least 4 (some .double), Cond.methodLink RX4 104 yX4_force, Cond.static yX4_force, Cond.code yX4_force cX4_force 6 (some .double)]
def wsX4_made_r4 : List Cond := [Cond.methodLink RX4 113 yX4_broad, Cond.static yX4_broad, Cond.code yX4_broad cX4_broad 10 (some .double), Cond.methodLink RX4 123 yX4_lesser, Cond.static yX4_lesser, Cond.code yX4_lesser cX4_lesser 4 (some .double), Cond.methodLink RX4 126 yX4_narrow, Cond.static yX4_narrow, Cond.code yX4_narrow cX4_narrow 12 (some .double)]
def wsX4_made : List Cond := .code yX4_made cX4_made 6 (some .double) :: ((wsX4_made_r1 ++ (wsX4_made_r2 ++ (wsX4_made_r3 ++ wsX4_made_r4))) ++ wsX40)
def wsX4_isTime : List Cond := .code yX4_isTime cX4_isTime 2 (some .boolean) :: ([.constantDouble RX4 163 (4621819117588971520)])
def wsX4_step_r1 : List Cond := [Cond.methodLink RX4 165 yX4_isTime, Cond.static yX4_isTime, Cond.initialized RX4, Cond.code yX4_isTime cX4_isTime 2 (some .boolean), Cond.constantDouble RX4 163 (4621819117588971520), Cond.methodLink RX4 41 yX4_fails, Cond.instanceMethod yX4_fails, Cond.selects RX4 yX4_fails yX4_fails, Cond.code yX4_fails cX4_fails 3 (some .boolean), Cond.fieldLink RX4 27 "FlowGridModel" "thrown" "I", Cond.methodLink RX4 168 yX4_made, Cond.instanceMethod yX4_made, Cond.selects RX4 yX4_made yX4_made, Cond.code yX4_made cX4_made 6 (some .double), Cond.fieldLink RX4 33 "FlowGridModel" "time" "D", Cond.fieldLink RX4 154 "FlowGridModel" "steps" "I", Cond.fieldLink RX4 157 "FlowGridModel" "failed" "I", Cond.constantDouble RX4 63 (4602678819172646912), Cond.fieldLink RX4 160 "FlowGridModel" "refused" "I", Cond.methodLink RX4 147 yX4_bounded, Cond.instanceMethod yX4_bounded, Cond.selects RX4 yX4_bounded yX4_bounded, Cond.code yX4_bounded cX4_bounded 7 (some .double), Cond.fieldLink RX4 30 "FlowGridModel" "n" "I"]
def wsX4_step_r2 : List Cond := [Cond.fieldLink RX4 7 "FlowGridModel" "depth" "[D", Cond.fieldLink RX4 13 "FlowGridModel" "momentum" "[D", Cond.constantDouble RX4 145 (4600877379321698714), Cond.methodLink RX4 107 yX4_speed, Cond.static yX4_speed, Cond.code yX4_speed cX4_speed 4 (some .double), Cond.methodLink RX4 65 yX4_size, Cond.static yX4_size, Cond.code yX4_size cX4_size 2 (some .double), Cond.methodLink RX4 69 yX4_root, Cond.static yX4_root, Cond.code yX4_root cX4_root 5 (some .double), Cond.methodLink RX4 110 yX4_greater, Cond.static yX4_greater, Cond.code yX4_greater cX4_greater 4 (some .double), Cond.methodLink RX4 150 yX4_tried, Cond.instanceMethod yX4_tried, Cond.selects RX4 yX4_tried yX4_tried, Cond.code yX4_tried cX4_tried 4 (some .boolean), Cond.fieldLink RX4 24 "FlowGridModel" "order" "I", Cond.methodLink RX4 141 yX4_stage, Cond.instanceMethod yX4_stage, Cond.selects RX4 yX4_stage yX4_stage, Cond.code yX4_stage cX4_stage 13 (some .boolean)]
def wsX4_step_r3 : List Cond := [Cond.fieldLink RX4 117 "FlowGridModel" "fluxH" "D", Cond.fieldLink RX4 120 "FlowGridModel" "fluxM" "D", Cond.constantDouble RX4 87 (4576918229304087675), Cond.constantDouble RX4 137 (4652007308841189376), Cond.constantDouble RX4 139 (13875379345695965184), Cond.methodLink RX4 130 yX4_close, Cond.instanceMethod yX4_close, Cond.selects RX4 yX4_close yX4_close, Cond.code yX4_close cX4_close 7 none, Cond.fieldLink RX4 45 "FlowGridModel" "ends" "I", Cond.methodLink RX4 133 yX4_face, Cond.instanceMethod yX4_face, Cond.selects RX4 yX4_face yX4_face, Cond.code yX4_face cX4_face 20 none, Cond.fieldLink RX4 81 "FlowGridModel" "slopeH" "D", Cond.fieldLink RX4 92 "FlowGridModel" "leftH" "D", Cond.fieldLink RX4 84 "FlowGridModel" "slopeM" "D", Cond.fieldLink RX4 95 "FlowGridModel" "leftM" "D", Cond.fieldLink RX4 98 "FlowGridModel" "rightH" "D", Cond.fieldLink RX4 101 "FlowGridModel" "rightM" "D", Cond.fieldLink RX4 48 "FlowGridModel" "solver" "I", Cond.methodLink RX4 89 yX4_slopes, Cond.instanceMethod yX4_slopes, Cond.selects RX4 yX4_slopes yX4_slopes]
def wsX4_step_r4 : List Cond := [Cond.code yX4_slopes cX4_slopes 2 none, Cond.methodLink RX4 78 yX4_slope, Cond.instanceMethod yX4_slope, Cond.selects RX4 yX4_slope yX4_slope, Cond.code yX4_slope cX4_slope 9 (some .double), Cond.fieldLink RX4 20 "FlowGridModel" "limiter" "I", Cond.constantDouble RX4 76 (4611686018427387904), Cond.methodLink RX4 72 yX4_least, Cond.static yX4_least, Cond.code yX4_least cX4_least 4 (some .double), Cond.methodLink RX4 104 yX4_force, Cond.static yX4_force, Cond.code yX4_force cX4_force 6 (some .double), Cond.methodLink RX4 113 yX4_broad, Cond.static yX4_broad, Cond.code yX4_broad cX4_broad 10 (some .double), Cond.methodLink RX4 123 yX4_lesser, Cond.static yX4_lesser, Cond.code yX4_lesser cX4_lesser 4 (some .double), Cond.methodLink RX4 126 yX4_narrow, Cond.static yX4_narrow, Cond.code yX4_narrow cX4_narrow 12 (some .double)]
def wsX4_step : List Cond := .code yX4_step cX4_step 5 (some .double) :: ((wsX4_step_r1 ++ (wsX4_step_r2 ++ (wsX4_step_r3 ++ wsX4_step_r4))) ++ wsX40)
def wsX4_run_r1 : List Cond := [Cond.constantDouble RX4 171 (4562254508917369340), Cond.methodLink RX4 165 yX4_isTime, Cond.static yX4_isTime, Cond.initialized RX4, Cond.code yX4_isTime cX4_isTime 2 (some .boolean), Cond.constantDouble RX4 163 (4621819117588971520), Cond.methodLink RX4 41 yX4_fails, Cond.instanceMethod yX4_fails, Cond.selects RX4 yX4_fails yX4_fails, Cond.code yX4_fails cX4_fails 3 (some .boolean), Cond.fieldLink RX4 27 "FlowGridModel" "thrown" "I", Cond.methodLink RX4 168 yX4_made, Cond.instanceMethod yX4_made, Cond.selects RX4 yX4_made yX4_made, Cond.code yX4_made cX4_made 6 (some .double), Cond.fieldLink RX4 33 "FlowGridModel" "time" "D", Cond.fieldLink RX4 154 "FlowGridModel" "steps" "I", Cond.fieldLink RX4 157 "FlowGridModel" "failed" "I", Cond.constantDouble RX4 63 (4602678819172646912), Cond.fieldLink RX4 160 "FlowGridModel" "refused" "I", Cond.methodLink RX4 147 yX4_bounded, Cond.instanceMethod yX4_bounded, Cond.selects RX4 yX4_bounded yX4_bounded, Cond.code yX4_bounded cX4_bounded 7 (some .double)]
def wsX4_run_r2 : List Cond := [Cond.fieldLink RX4 30 "FlowGridModel" "n" "I", Cond.fieldLink RX4 7 "FlowGridModel" "depth" "[D", Cond.fieldLink RX4 13 "FlowGridModel" "momentum" "[D", Cond.constantDouble RX4 145 (4600877379321698714), Cond.methodLink RX4 107 yX4_speed, Cond.static yX4_speed, Cond.code yX4_speed cX4_speed 4 (some .double), Cond.methodLink RX4 65 yX4_size, Cond.static yX4_size, Cond.code yX4_size cX4_size 2 (some .double), Cond.methodLink RX4 69 yX4_root, Cond.static yX4_root, Cond.code yX4_root cX4_root 5 (some .double), Cond.methodLink RX4 110 yX4_greater, Cond.static yX4_greater, Cond.code yX4_greater cX4_greater 4 (some .double), Cond.methodLink RX4 150 yX4_tried, Cond.instanceMethod yX4_tried, Cond.selects RX4 yX4_tried yX4_tried, Cond.code yX4_tried cX4_tried 4 (some .boolean), Cond.fieldLink RX4 24 "FlowGridModel" "order" "I", Cond.methodLink RX4 141 yX4_stage, Cond.instanceMethod yX4_stage, Cond.selects RX4 yX4_stage yX4_stage]
def wsX4_run_r3 : List Cond := [Cond.code yX4_stage cX4_stage 13 (some .boolean), Cond.fieldLink RX4 117 "FlowGridModel" "fluxH" "D", Cond.fieldLink RX4 120 "FlowGridModel" "fluxM" "D", Cond.constantDouble RX4 87 (4576918229304087675), Cond.constantDouble RX4 137 (4652007308841189376), Cond.constantDouble RX4 139 (13875379345695965184), Cond.methodLink RX4 130 yX4_close, Cond.instanceMethod yX4_close, Cond.selects RX4 yX4_close yX4_close, Cond.code yX4_close cX4_close 7 none, Cond.fieldLink RX4 45 "FlowGridModel" "ends" "I", Cond.methodLink RX4 133 yX4_face, Cond.instanceMethod yX4_face, Cond.selects RX4 yX4_face yX4_face, Cond.code yX4_face cX4_face 20 none, Cond.fieldLink RX4 81 "FlowGridModel" "slopeH" "D", Cond.fieldLink RX4 92 "FlowGridModel" "leftH" "D", Cond.fieldLink RX4 84 "FlowGridModel" "slopeM" "D", Cond.fieldLink RX4 95 "FlowGridModel" "leftM" "D", Cond.fieldLink RX4 98 "FlowGridModel" "rightH" "D", Cond.fieldLink RX4 101 "FlowGridModel" "rightM" "D", Cond.fieldLink RX4 48 "FlowGridModel" "solver" "I", Cond.methodLink RX4 89 yX4_slopes, Cond.instanceMethod yX4_slopes]
def wsX4_run_r4 : List Cond := [Cond.selects RX4 yX4_slopes yX4_slopes, Cond.code yX4_slopes cX4_slopes 2 none, Cond.methodLink RX4 78 yX4_slope, Cond.instanceMethod yX4_slope, Cond.selects RX4 yX4_slope yX4_slope, Cond.code yX4_slope cX4_slope 9 (some .double), Cond.fieldLink RX4 20 "FlowGridModel" "limiter" "I", Cond.constantDouble RX4 76 (4611686018427387904), Cond.methodLink RX4 72 yX4_least, Cond.static yX4_least, Cond.code yX4_least cX4_least 4 (some .double), Cond.methodLink RX4 104 yX4_force, Cond.static yX4_force, Cond.code yX4_force cX4_force 6 (some .double), Cond.methodLink RX4 113 yX4_broad, Cond.static yX4_broad, Cond.code yX4_broad cX4_broad 10 (some .double), Cond.methodLink RX4 123 yX4_lesser, Cond.static yX4_lesser, Cond.code yX4_lesser cX4_lesser 4 (some .double), Cond.methodLink RX4 126 yX4_narrow, Cond.static yX4_narrow, Cond.code yX4_narrow cX4_narrow 12 (some .double)]
def wsX4_run : List Cond := .code yX4_run cX4_run 8 (some .int) :: ((wsX4_run_r1 ++ (wsX4_run_r2 ++ (wsX4_run_r3 ++ wsX4_run_r4))) ++ wsX40)
def wsX4_cell : List Cond := .code yX4_cell cX4_cell 7 (some .double) :: ([.fieldLink RX4 30 "FlowGridModel" "n" "I", .fieldLink RX4 7 "FlowGridModel" "depth" "[D", .fieldLink RX4 13 "FlowGridModel" "momentum" "[D", .methodLink RX4 37 yX4_out, .static yX4_out, .initialized RX4, .code yX4_out cX4_out 3 (some .boolean), .methodLink RX4 41 yX4_fails, .instanceMethod yX4_fails, .selects RX4 yX4_fails yX4_fails, .code yX4_fails cX4_fails 3 (some .boolean), .fieldLink RX4 27 "FlowGridModel" "thrown" "I", .methodLink RX4 69 yX4_root, .static yX4_root, .code yX4_root cX4_root 5 (some .double), .constantDouble RX4 63 (4602678819172646912)] ++ wsX40)
def wsX4_flux_r1 : List Cond := [Cond.fieldLink RX4 30 "FlowGridModel" "n" "I", Cond.fieldLink RX4 120 "FlowGridModel" "fluxM" "D", Cond.fieldLink RX4 117 "FlowGridModel" "fluxH" "D", Cond.methodLink RX4 37 yX4_out, Cond.static yX4_out, Cond.initialized RX4, Cond.code yX4_out cX4_out 3 (some .boolean), Cond.methodLink RX4 41 yX4_fails, Cond.instanceMethod yX4_fails, Cond.selects RX4 yX4_fails yX4_fails, Cond.code yX4_fails cX4_fails 3 (some .boolean), Cond.fieldLink RX4 27 "FlowGridModel" "thrown" "I", Cond.methodLink RX4 130 yX4_close, Cond.instanceMethod yX4_close, Cond.selects RX4 yX4_close yX4_close, Cond.code yX4_close cX4_close 7 none, Cond.fieldLink RX4 45 "FlowGridModel" "ends" "I", Cond.fieldLink RX4 7 "FlowGridModel" "depth" "[D", Cond.fieldLink RX4 13 "FlowGridModel" "momentum" "[D", Cond.methodLink RX4 133 yX4_face, Cond.instanceMethod yX4_face, Cond.selects RX4 yX4_face yX4_face, Cond.code yX4_face cX4_face 20 none, Cond.constantDouble RX4 63 (4602678819172646912)]
def wsX4_flux_r2 : List Cond := [Cond.fieldLink RX4 81 "FlowGridModel" "slopeH" "D", Cond.fieldLink RX4 92 "FlowGridModel" "leftH" "D", Cond.fieldLink RX4 84 "FlowGridModel" "slopeM" "D", Cond.fieldLink RX4 95 "FlowGridModel" "leftM" "D", Cond.fieldLink RX4 98 "FlowGridModel" "rightH" "D", Cond.fieldLink RX4 101 "FlowGridModel" "rightM" "D", Cond.fieldLink RX4 48 "FlowGridModel" "solver" "I", Cond.methodLink RX4 89 yX4_slopes, Cond.instanceMethod yX4_slopes, Cond.selects RX4 yX4_slopes yX4_slopes, Cond.code yX4_slopes cX4_slopes 2 none, Cond.constantDouble RX4 87 (4576918229304087675), Cond.methodLink RX4 78 yX4_slope, Cond.instanceMethod yX4_slope, Cond.selects RX4 yX4_slope yX4_slope, Cond.code yX4_slope cX4_slope 9 (some .double), Cond.fieldLink RX4 20 "FlowGridModel" "limiter" "I", Cond.constantDouble RX4 76 (4611686018427387904), Cond.methodLink RX4 72 yX4_least, Cond.static yX4_least, Cond.code yX4_least cX4_least 4 (some .double), Cond.methodLink RX4 65 yX4_size, Cond.static yX4_size, Cond.code yX4_size cX4_size 2 (some .double)]
def wsX4_flux_r3 : List Cond := [Cond.methodLink RX4 104 yX4_force, Cond.static yX4_force, Cond.code yX4_force cX4_force 6 (some .double), Cond.methodLink RX4 107 yX4_speed, Cond.static yX4_speed, Cond.code yX4_speed cX4_speed 4 (some .double), Cond.methodLink RX4 69 yX4_root, Cond.static yX4_root, Cond.code yX4_root cX4_root 5 (some .double), Cond.methodLink RX4 110 yX4_greater, Cond.static yX4_greater, Cond.code yX4_greater cX4_greater 4 (some .double), Cond.methodLink RX4 113 yX4_broad, Cond.static yX4_broad, Cond.code yX4_broad cX4_broad 10 (some .double), Cond.methodLink RX4 123 yX4_lesser, Cond.static yX4_lesser, Cond.code yX4_lesser cX4_lesser 4 (some .double), Cond.methodLink RX4 126 yX4_narrow, Cond.static yX4_narrow, Cond.code yX4_narrow cX4_narrow 12 (some .double)]
def wsX4_flux : List Cond := .code yX4_flux cX4_flux 3 (some .double) :: ((wsX4_flux_r1 ++ (wsX4_flux_r2 ++ wsX4_flux_r3)) ++ wsX40)
def wsX4_sum : List Cond := .code yX4_sum cX4_sum 11 (some .double) :: ([.fieldLink RX4 27 "FlowGridModel" "thrown" "I", .fieldLink RX4 30 "FlowGridModel" "n" "I", .fieldLink RX4 13 "FlowGridModel" "momentum" "[D", .fieldLink RX4 7 "FlowGridModel" "depth" "[D"] ++ wsX40)
def wsX4_time : List Cond := .code yX4_time cX4_time 1 (some .double) :: ([.fieldLink RX4 27 "FlowGridModel" "thrown" "I", .fieldLink RX4 33 "FlowGridModel" "time" "D"] ++ wsX40)
def wsX4_count : List Cond := .code yX4_count cX4_count 2 (some .int) :: ([.fieldLink RX4 30 "FlowGridModel" "n" "I", .fieldLink RX4 154 "FlowGridModel" "steps" "I", .fieldLink RX4 157 "FlowGridModel" "failed" "I", .fieldLink RX4 160 "FlowGridModel" "refused" "I", .methodLink RX4 37 yX4_out, .static yX4_out, .initialized RX4, .code yX4_out cX4_out 3 (some .boolean), .methodLink RX4 41 yX4_fails, .instanceMethod yX4_fails, .selects RX4 yX4_fails yX4_fails, .code yX4_fails cX4_fails 3 (some .boolean), .fieldLink RX4 27 "FlowGridModel" "thrown" "I"] ++ wsX40)
def wsL_cells : List Cond := .codeWith yL_cells cL_cells 3 (some .int) [(0, 5, 8, 13)] :: ([.classLink RL 13 "java/lang/IllegalArgumentException", .methodLink RL 7 yX3_cells, .instanceMethod yX3_cells, .selects RX3 yX3_cells yX3_cells, .initialized RX3, .code yX3_cells cX3_cells 2 none, .classLink RX3 60 "java/lang/IllegalArgumentException", .initialized "java/lang/IllegalArgumentException", .fieldLink RX3 12 "FlowGrid" "now" "LFlowGrid$Row;", .fieldLink RX3 39 "FlowGrid" "gone" "D", .methodLink RX3 56 yX3_isWithin, .static yX3_isWithin, .code yX3_isWithin cX3_isWithin 3 (some .boolean), .methodLink RX3 52 yX1_level, .instanceMethod yX1_level, .selects RX1 yX1_level yX1_level, .initialized RX1, .code yX1_level cX1_level 3 none, .fieldLink RX1 18 "FlowGrid$Row" "size" "I", .fieldLink RX1 9 "FlowGrid$Row" "depths" "[D", .fieldLink RX1 15 "FlowGrid$Row" "momenta" "[D"] ++ wsX30 ++ wsX10 ++ (vx_atS RX3 64 "java/lang/IllegalArgumentException" ["java/lang/RuntimeException", "java/lang/Exception"]).filter goodWord)
def wsL_choose : List Cond := .codeWith yL_choose cL_choose 6 (some .int) [(0, 9, 12, 13)] :: ([.classLink RL 13 "java/lang/IllegalArgumentException", .methodLink RL 15 yX3_choose, .instanceMethod yX3_choose, .selects RX3 yX3_choose yX3_choose, .initialized RX3, .code yX3_choose cX3_choose 5 none, .classLink RX3 60 "java/lang/IllegalArgumentException", .initialized "java/lang/IllegalArgumentException", .fieldLink RX3 26 "FlowGrid" "ends" "I", .fieldLink RX3 30 "FlowGrid" "limiter" "I", .fieldLink RX3 33 "FlowGrid" "solver" "I", .fieldLink RX3 36 "FlowGrid" "order" "I", .methodLink RX3 56 yX3_isWithin, .static yX3_isWithin, .code yX3_isWithin cX3_isWithin 3 (some .boolean)] ++ wsX30 ++ (vx_atS RX3 64 "java/lang/IllegalArgumentException" ["java/lang/RuntimeException", "java/lang/Exception"]).filter goodWord)
def wsL_put : List Cond := .codeWith yL_put cL_put 7 (some .int) [(0, 8, 11, 13)] :: ([.classLink RL 13 "java/lang/IllegalArgumentException", .methodLink RL 19 yX3_put, .instanceMethod yX3_put, .selects RX3 yX3_put yX3_put, .initialized RX3, .code yX3_put cX3_put 6 none, .classLink RX3 60 "java/lang/IllegalArgumentException", .initialized "java/lang/IllegalArgumentException", .fieldLink RX3 12 "FlowGrid" "now" "LFlowGrid$Row;", .constantDouble RX3 75 (4593671619917905920), .constantDouble RX3 77 (4626322717216342016), .constantDouble RX3 81 (13855605728582041600), .constantDouble RX3 83 (4632233691727265792), .fieldLink RX3 87 "FlowGrid$Row" "depths" "[D", .fieldLink RX3 91 "FlowGrid$Row" "momenta" "[D", .methodLink RX3 69 yX1_has, .instanceMethod yX1_has, .selects RX1 yX1_has yX1_has, .initialized RX1, .code yX1_has cX1_has 2 (some .boolean), .fieldLink RX1 18 "FlowGrid$Row" "size" "I"] ++ wsX30 ++ wsX10 ++ (vx_atS RX3 64 "java/lang/IllegalArgumentException" ["java/lang/RuntimeException", "java/lang/Exception"]).filter goodWord)
def wsL_step_r1 : List Cond := [Cond.classLink RL 13 "java/lang/IllegalArgumentException", Cond.classLink RL 27 "java/lang/IllegalStateException", Cond.methodLink RL 23 yX3_step, Cond.instanceMethod yX3_step, Cond.selects RX3 yX3_step yX3_step, Cond.initialized RX3, Cond.code yX3_step cX3_step 3 (some .double), Cond.classLink RX3 60 "java/lang/IllegalArgumentException", Cond.initialized "java/lang/IllegalArgumentException", Cond.methodLink RX3 94 yX3_isSpan, Cond.static yX3_isSpan, Cond.code yX3_isSpan cX3_isSpan 2 (some .boolean), Cond.constantDouble RX3 170 (4621819117588971520), Cond.methodLink RX3 100 yX3_advance, Cond.instanceMethod yX3_advance, Cond.selects RX3 yX3_advance yX3_advance, Cond.code yX3_advance cX3_advance 6 (some .double), Cond.classLink RX3 150 "java/lang/IllegalStateException", Cond.initialized "java/lang/IllegalStateException", Cond.fieldLink RX3 12 "FlowGrid" "now" "LFlowGrid$Row;", Cond.fieldLink RX3 39 "FlowGrid" "gone" "D", Cond.fieldLink RX3 43 "FlowGrid" "stepsMade" "I", Cond.fieldLink RX3 46 "FlowGrid" "triesFailed" "I", Cond.constantDouble RX3 148 (4602678819172646912)]
def wsL_step_r2 : List Cond := [Cond.fieldLink RX3 49 "FlowGrid" "stepsRefused" "I", Cond.methodLink RX3 142 yX1_longestTime, Cond.instanceMethod yX1_longestTime, Cond.selects RX1 yX1_longestTime yX1_longestTime, Cond.initialized RX1, Cond.code yX1_longestTime cX1_longestTime 8 (some .double), Cond.fieldLink RX1 18 "FlowGrid$Row" "size" "I", Cond.fieldLink RX1 9 "FlowGrid$Row" "depths" "[D", Cond.fieldLink RX1 15 "FlowGrid$Row" "momenta" "[D", Cond.constantDouble RX1 65 (4600877379321698714), Cond.static yX3_speedOf, Cond.code yX3_speedOf cX3_speedOf 4 (some .double), Cond.static yX3_absolute, Cond.code yX3_absolute cX3_absolute 2 (some .double), Cond.static yX3_root, Cond.code yX3_root cX3_root 5 (some .double), Cond.static yX3_greater, Cond.code yX3_greater cX3_greater 4 (some .double), Cond.static yX3_lesser, Cond.code yX3_lesser cX3_lesser 4 (some .double), Cond.methodLink RX3 145 yX3_succeeds, Cond.instanceMethod yX3_succeeds, Cond.selects RX3 yX3_succeeds yX3_succeeds, Cond.code yX3_succeeds cX3_succeeds 4 (some .boolean)]
def wsL_step_r3 : List Cond := [Cond.fieldLink RX3 16 "FlowGrid" "trial" "LFlowGrid$Row;", Cond.fieldLink RX3 36 "FlowGrid" "order" "I", Cond.fieldLink RX3 26 "FlowGrid" "ends" "I", Cond.fieldLink RX3 22 "FlowGrid" "faces" "LFlowGrid$Faces;", Cond.fieldLink RX3 30 "FlowGrid" "limiter" "I", Cond.fieldLink RX3 33 "FlowGrid" "solver" "I", Cond.methodLink RX3 155 yX1_become, Cond.instanceMethod yX1_become, Cond.selects RX1 yX1_become yX1_become, Cond.code yX1_become cX1_become 2 none, Cond.methodLink RX1 22 arraycopyName, Cond.native arraycopyName, Cond.static arraycopyName, Cond.initialized "java/lang/System", Cond.methodLink RX3 123 yX1_fillEnds, Cond.instanceMethod yX1_fillEnds, Cond.selects RX1 yX1_fillEnds yX1_fillEnds, Cond.code yX1_fillEnds cX1_fillEnds 5 none, Cond.methodLink RX1 28 yX1_copy, Cond.instanceMethod yX1_copy, Cond.selects RX1 yX1_copy yX1_copy, Cond.code yX1_copy cX1_copy 3 none, Cond.methodLink RX1 32 yX1_mirror, Cond.instanceMethod yX1_mirror]
def wsL_step_r4 : List Cond := [Cond.selects RX1 yX1_mirror yX1_mirror, Cond.code yX1_mirror cX1_mirror 3 none, Cond.methodLink RX3 126 yX0_measure, Cond.instanceMethod yX0_measure, Cond.selects RX0 yX0_measure yX0_measure, Cond.initialized RX0, Cond.code yX0_measure cX0_measure 5 none, Cond.fieldLink RX0 38 "FlowGrid$Row" "size" "I", Cond.methodLink RX0 34 yX0_fillSlopes, Cond.instanceMethod yX0_fillSlopes, Cond.selects RX0 yX0_fillSlopes yX0_fillSlopes, Cond.code yX0_fillSlopes cX0_fillSlopes 9 none, Cond.fieldLink RX0 54 "FlowGrid$Row" "depths" "[D", Cond.constantDouble RX0 61 (4602678819172646912), Cond.constantDouble RX0 63 (4576918229304087675), Cond.fieldLink RX0 9 "FlowGrid$Faces" "depthSlopes" "[D", Cond.fieldLink RX0 15 "FlowGrid$Faces" "momentumSlopes" "[D", Cond.fieldLink RX0 65 "FlowGrid$Row" "momenta" "[D", Cond.methodLink RX0 57 yX0_slopeAt, Cond.instanceMethod yX0_slopeAt, Cond.selects RX0 yX0_slopeAt yX0_slopeAt, Cond.code yX0_slopeAt cX0_slopeAt 8 (some .double), Cond.constantDouble RX0 72 (4611686018427387904), Cond.methodLink RX0 68 yX0_nearer]
def wsL_step_r5 : List Cond := [Cond.static yX0_nearer, Cond.code yX0_nearer cX0_nearer 4 (some .double), Cond.methodLink RX0 74 yX0_farther, Cond.static yX0_farther, Cond.code yX0_farther cX0_farther 4 (some .double), Cond.methodLink RX0 44 yX0_guess, Cond.instanceMethod yX0_guess, Cond.selects RX0 yX0_guess yX0_guess, Cond.code yX0_guess cX0_guess 5 none, Cond.fieldLink RX0 27 "FlowGrid$Faces" "left" "LFlowGrid$State;", Cond.fieldLink RX0 31 "FlowGrid$Faces" "right" "LFlowGrid$State;", Cond.methodLink RX0 77 yX2_become, Cond.instanceMethod yX2_become, Cond.selects RX2 yX2_become yX2_become, Cond.initialized RX2, Cond.code yX2_become cX2_become 5 none, Cond.fieldLink RX2 7 "FlowGrid$State" "h" "D", Cond.fieldLink RX2 13 "FlowGrid$State" "m" "D", Cond.fieldLink RX2 16 "FlowGrid$State" "speed" "D", Cond.fieldLink RX2 19 "FlowGrid$State" "wave" "D", Cond.methodLink RX0 47 yX0_solveNarrow, Cond.instanceMethod yX0_solveNarrow, Cond.selects RX0 yX0_solveNarrow yX0_solveNarrow, Cond.code yX0_solveNarrow cX0_solveNarrow 6 none]
def wsL_step_r6 : List Cond := [Cond.fieldLink RX0 101 "FlowGrid$State" "speed" "D", Cond.fieldLink RX0 104 "FlowGrid$State" "wave" "D", Cond.fieldLink RX0 18 "FlowGrid$Faces" "depthFluxes" "[D", Cond.fieldLink RX0 91 "FlowGrid$State" "h" "D", Cond.fieldLink RX0 21 "FlowGrid$Faces" "momentumFluxes" "[D", Cond.fieldLink RX0 98 "FlowGrid$State" "m" "D", Cond.methodLink RX0 88 yX2_depthFlux, Cond.instanceMethod yX2_depthFlux, Cond.selects RX2 yX2_depthFlux yX2_depthFlux, Cond.code yX2_depthFlux cX2_depthFlux 1 (some .double), Cond.methodLink RX0 110 yX0_blend, Cond.static yX0_blend, Cond.code yX0_blend cX0_blend 10 (some .double), Cond.methodLink RX0 95 yX2_momentumFlux, Cond.instanceMethod yX2_momentumFlux, Cond.selects RX2 yX2_momentumFlux yX2_momentumFlux, Cond.code yX2_momentumFlux cX2_momentumFlux 1 (some .double), Cond.constantDouble RX2 35 (4602678819172646912), Cond.methodLink RX0 51 yX0_solveBroad, Cond.instanceMethod yX0_solveBroad, Cond.selects RX0 yX0_solveBroad yX0_solveBroad, Cond.code yX0_solveBroad cX0_solveBroad 4 none, Cond.methodLink RX0 81 yX2_reach, Cond.instanceMethod yX2_reach]
def wsL_step_r7 : List Cond := [Cond.selects RX2 yX2_reach yX2_reach, Cond.code yX2_reach cX2_reach 1 (some .double), Cond.methodLink RX3 159 yX1_move, Cond.instanceMethod yX1_move, Cond.selects RX1 yX1_move yX1_move, Cond.code yX1_move cX1_move 6 none, Cond.fieldLink RX1 35 "FlowGrid$Faces" "depthFluxes" "[D", Cond.fieldLink RX1 40 "FlowGrid$Faces" "momentumFluxes" "[D", Cond.methodLink RX3 163 yX1_hasFailed, Cond.instanceMethod yX1_hasFailed, Cond.selects RX1 yX1_hasFailed yX1_hasFailed, Cond.code yX1_hasFailed cX1_hasFailed 2 (some .boolean), Cond.constantDouble RX1 43 (4576918229304087675), Cond.constantDouble RX1 45 (4652007308841189376), Cond.constantDouble RX1 47 (13875379345695965184), Cond.methodLink RX3 167 yX1_meet, Cond.instanceMethod yX1_meet, Cond.selects RX1 yX1_meet yX1_meet, Cond.code yX1_meet cX1_meet 3 none, Cond.constantDouble RX1 49 (4602678819172646912)]
def wsL_step : List Cond := .codeWith yL_step cL_step 5 (some .int) [(0, 8, 11, 13), (0, 8, 15, 27)] :: ((wsL_step_r1 ++ (wsL_step_r2 ++ (wsL_step_r3 ++ (wsL_step_r4 ++ (wsL_step_r5 ++ (wsL_step_r6 ++ wsL_step_r7)))))) ++ wsX30 ++ wsX10 ++ wsX00 ++ wsX20 ++ (vx_atS RX3 64 "java/lang/IllegalArgumentException" ["java/lang/RuntimeException", "java/lang/Exception"]).filter goodWord ++ (vx_atS RX3 154 "java/lang/IllegalStateException" ["java/lang/RuntimeException", "java/lang/Exception"]).filter goodWord)
def wsL_run_r1 : List Cond := [Cond.classLink RL 13 "java/lang/IllegalArgumentException", Cond.classLink RL 27 "java/lang/IllegalStateException", Cond.methodLink RL 29 yX3_run, Cond.instanceMethod yX3_run, Cond.selects RX3 yX3_run yX3_run, Cond.initialized RX3, Cond.code yX3_run cX3_run 6 (some .int), Cond.classLink RX3 60 "java/lang/IllegalArgumentException", Cond.initialized "java/lang/IllegalArgumentException", Cond.constantDouble RX3 104 (4562254508917369340), Cond.methodLink RX3 94 yX3_isSpan, Cond.static yX3_isSpan, Cond.code yX3_isSpan cX3_isSpan 2 (some .boolean), Cond.constantDouble RX3 170 (4621819117588971520), Cond.methodLink RX3 100 yX3_advance, Cond.instanceMethod yX3_advance, Cond.selects RX3 yX3_advance yX3_advance, Cond.code yX3_advance cX3_advance 6 (some .double), Cond.classLink RX3 150 "java/lang/IllegalStateException", Cond.initialized "java/lang/IllegalStateException", Cond.fieldLink RX3 12 "FlowGrid" "now" "LFlowGrid$Row;", Cond.fieldLink RX3 39 "FlowGrid" "gone" "D", Cond.fieldLink RX3 43 "FlowGrid" "stepsMade" "I", Cond.fieldLink RX3 46 "FlowGrid" "triesFailed" "I"]
def wsL_run_r2 : List Cond := [Cond.constantDouble RX3 148 (4602678819172646912), Cond.fieldLink RX3 49 "FlowGrid" "stepsRefused" "I", Cond.methodLink RX3 142 yX1_longestTime, Cond.instanceMethod yX1_longestTime, Cond.selects RX1 yX1_longestTime yX1_longestTime, Cond.initialized RX1, Cond.code yX1_longestTime cX1_longestTime 8 (some .double), Cond.fieldLink RX1 18 "FlowGrid$Row" "size" "I", Cond.fieldLink RX1 9 "FlowGrid$Row" "depths" "[D", Cond.fieldLink RX1 15 "FlowGrid$Row" "momenta" "[D", Cond.constantDouble RX1 65 (4600877379321698714), Cond.static yX3_speedOf, Cond.code yX3_speedOf cX3_speedOf 4 (some .double), Cond.static yX3_absolute, Cond.code yX3_absolute cX3_absolute 2 (some .double), Cond.static yX3_root, Cond.code yX3_root cX3_root 5 (some .double), Cond.static yX3_greater, Cond.code yX3_greater cX3_greater 4 (some .double), Cond.static yX3_lesser, Cond.code yX3_lesser cX3_lesser 4 (some .double), Cond.methodLink RX3 145 yX3_succeeds, Cond.instanceMethod yX3_succeeds, Cond.selects RX3 yX3_succeeds yX3_succeeds]
def wsL_run_r3 : List Cond := [Cond.code yX3_succeeds cX3_succeeds 4 (some .boolean), Cond.fieldLink RX3 16 "FlowGrid" "trial" "LFlowGrid$Row;", Cond.fieldLink RX3 36 "FlowGrid" "order" "I", Cond.fieldLink RX3 26 "FlowGrid" "ends" "I", Cond.fieldLink RX3 22 "FlowGrid" "faces" "LFlowGrid$Faces;", Cond.fieldLink RX3 30 "FlowGrid" "limiter" "I", Cond.fieldLink RX3 33 "FlowGrid" "solver" "I", Cond.methodLink RX3 155 yX1_become, Cond.instanceMethod yX1_become, Cond.selects RX1 yX1_become yX1_become, Cond.code yX1_become cX1_become 2 none, Cond.methodLink RX1 22 arraycopyName, Cond.native arraycopyName, Cond.static arraycopyName, Cond.initialized "java/lang/System", Cond.methodLink RX3 123 yX1_fillEnds, Cond.instanceMethod yX1_fillEnds, Cond.selects RX1 yX1_fillEnds yX1_fillEnds, Cond.code yX1_fillEnds cX1_fillEnds 5 none, Cond.methodLink RX1 28 yX1_copy, Cond.instanceMethod yX1_copy, Cond.selects RX1 yX1_copy yX1_copy, Cond.code yX1_copy cX1_copy 3 none, Cond.methodLink RX1 32 yX1_mirror]
def wsL_run_r4 : List Cond := [Cond.instanceMethod yX1_mirror, Cond.selects RX1 yX1_mirror yX1_mirror, Cond.code yX1_mirror cX1_mirror 3 none, Cond.methodLink RX3 126 yX0_measure, Cond.instanceMethod yX0_measure, Cond.selects RX0 yX0_measure yX0_measure, Cond.initialized RX0, Cond.code yX0_measure cX0_measure 5 none, Cond.fieldLink RX0 38 "FlowGrid$Row" "size" "I", Cond.methodLink RX0 34 yX0_fillSlopes, Cond.instanceMethod yX0_fillSlopes, Cond.selects RX0 yX0_fillSlopes yX0_fillSlopes, Cond.code yX0_fillSlopes cX0_fillSlopes 9 none, Cond.fieldLink RX0 54 "FlowGrid$Row" "depths" "[D", Cond.constantDouble RX0 61 (4602678819172646912), Cond.constantDouble RX0 63 (4576918229304087675), Cond.fieldLink RX0 9 "FlowGrid$Faces" "depthSlopes" "[D", Cond.fieldLink RX0 15 "FlowGrid$Faces" "momentumSlopes" "[D", Cond.fieldLink RX0 65 "FlowGrid$Row" "momenta" "[D", Cond.methodLink RX0 57 yX0_slopeAt, Cond.instanceMethod yX0_slopeAt, Cond.selects RX0 yX0_slopeAt yX0_slopeAt, Cond.code yX0_slopeAt cX0_slopeAt 8 (some .double), Cond.constantDouble RX0 72 (4611686018427387904)]
def wsL_run_r5 : List Cond := [Cond.methodLink RX0 68 yX0_nearer, Cond.static yX0_nearer, Cond.code yX0_nearer cX0_nearer 4 (some .double), Cond.methodLink RX0 74 yX0_farther, Cond.static yX0_farther, Cond.code yX0_farther cX0_farther 4 (some .double), Cond.methodLink RX0 44 yX0_guess, Cond.instanceMethod yX0_guess, Cond.selects RX0 yX0_guess yX0_guess, Cond.code yX0_guess cX0_guess 5 none, Cond.fieldLink RX0 27 "FlowGrid$Faces" "left" "LFlowGrid$State;", Cond.fieldLink RX0 31 "FlowGrid$Faces" "right" "LFlowGrid$State;", Cond.methodLink RX0 77 yX2_become, Cond.instanceMethod yX2_become, Cond.selects RX2 yX2_become yX2_become, Cond.initialized RX2, Cond.code yX2_become cX2_become 5 none, Cond.fieldLink RX2 7 "FlowGrid$State" "h" "D", Cond.fieldLink RX2 13 "FlowGrid$State" "m" "D", Cond.fieldLink RX2 16 "FlowGrid$State" "speed" "D", Cond.fieldLink RX2 19 "FlowGrid$State" "wave" "D", Cond.methodLink RX0 47 yX0_solveNarrow, Cond.instanceMethod yX0_solveNarrow, Cond.selects RX0 yX0_solveNarrow yX0_solveNarrow]
def wsL_run_r6 : List Cond := [Cond.code yX0_solveNarrow cX0_solveNarrow 6 none, Cond.fieldLink RX0 101 "FlowGrid$State" "speed" "D", Cond.fieldLink RX0 104 "FlowGrid$State" "wave" "D", Cond.fieldLink RX0 18 "FlowGrid$Faces" "depthFluxes" "[D", Cond.fieldLink RX0 91 "FlowGrid$State" "h" "D", Cond.fieldLink RX0 21 "FlowGrid$Faces" "momentumFluxes" "[D", Cond.fieldLink RX0 98 "FlowGrid$State" "m" "D", Cond.methodLink RX0 88 yX2_depthFlux, Cond.instanceMethod yX2_depthFlux, Cond.selects RX2 yX2_depthFlux yX2_depthFlux, Cond.code yX2_depthFlux cX2_depthFlux 1 (some .double), Cond.methodLink RX0 110 yX0_blend, Cond.static yX0_blend, Cond.code yX0_blend cX0_blend 10 (some .double), Cond.methodLink RX0 95 yX2_momentumFlux, Cond.instanceMethod yX2_momentumFlux, Cond.selects RX2 yX2_momentumFlux yX2_momentumFlux, Cond.code yX2_momentumFlux cX2_momentumFlux 1 (some .double), Cond.constantDouble RX2 35 (4602678819172646912), Cond.methodLink RX0 51 yX0_solveBroad, Cond.instanceMethod yX0_solveBroad, Cond.selects RX0 yX0_solveBroad yX0_solveBroad, Cond.code yX0_solveBroad cX0_solveBroad 4 none, Cond.methodLink RX0 81 yX2_reach]
def wsL_run_r7 : List Cond := [Cond.instanceMethod yX2_reach, Cond.selects RX2 yX2_reach yX2_reach, Cond.code yX2_reach cX2_reach 1 (some .double), Cond.methodLink RX3 159 yX1_move, Cond.instanceMethod yX1_move, Cond.selects RX1 yX1_move yX1_move, Cond.code yX1_move cX1_move 6 none, Cond.fieldLink RX1 35 "FlowGrid$Faces" "depthFluxes" "[D", Cond.fieldLink RX1 40 "FlowGrid$Faces" "momentumFluxes" "[D", Cond.methodLink RX3 163 yX1_hasFailed, Cond.instanceMethod yX1_hasFailed, Cond.selects RX1 yX1_hasFailed yX1_hasFailed, Cond.code yX1_hasFailed cX1_hasFailed 2 (some .boolean), Cond.constantDouble RX1 43 (4576918229304087675), Cond.constantDouble RX1 45 (4652007308841189376), Cond.constantDouble RX1 47 (13875379345695965184), Cond.methodLink RX3 167 yX1_meet, Cond.instanceMethod yX1_meet, Cond.selects RX1 yX1_meet yX1_meet, Cond.code yX1_meet cX1_meet 3 none, Cond.constantDouble RX1 49 (4602678819172646912)]
def wsL_run : List Cond := .codeWith yL_run cL_run 5 (some .int) [(0, 9, 12, 13), (0, 9, 16, 27)] :: ((wsL_run_r1 ++ (wsL_run_r2 ++ (wsL_run_r3 ++ (wsL_run_r4 ++ (wsL_run_r5 ++ (wsL_run_r6 ++ wsL_run_r7)))))) ++ wsX30 ++ wsX10 ++ wsX00 ++ wsX20 ++ (vx_atS RX3 64 "java/lang/IllegalArgumentException" ["java/lang/RuntimeException", "java/lang/Exception"]).filter goodWord ++ (vx_atS RX3 154 "java/lang/IllegalStateException" ["java/lang/RuntimeException", "java/lang/Exception"]).filter goodWord)
def wsL_cell : List Cond := .codeWith yL_cell cL_cell 5 (some .int) [(0, 9, 12, 37)] :: ([.classLink RL 37 "java/util/NoSuchElementException", .methodLink RL 33 yX3_cell, .instanceMethod yX3_cell, .selects RX3 yX3_cell yX3_cell, .initialized RX3, .code yX3_cell cX3_cell 7 (some .double), .classLink RX3 106 "java/util/NoSuchElementException", .initialized "java/util/NoSuchElementException", .fieldLink RX3 12 "FlowGrid" "now" "LFlowGrid$Row;", .fieldLink RX3 87 "FlowGrid$Row" "depths" "[D", .fieldLink RX3 91 "FlowGrid$Row" "momenta" "[D", .methodLink RX3 69 yX1_has, .instanceMethod yX1_has, .selects RX1 yX1_has yX1_has, .initialized RX1, .code yX1_has cX1_has 2 (some .boolean), .fieldLink RX1 18 "FlowGrid$Row" "size" "I", .methodLink RX3 109 yX3_speedOf, .static yX3_speedOf, .code yX3_speedOf cX3_speedOf 4 (some .double), .methodLink RX3 113 yX3_root, .static yX3_root, .code yX3_root cX3_root 5 (some .double), .constantDouble RX3 148 (4602678819172646912)] ++ wsX30 ++ wsX10 ++ (vx_atS RX3 108 "java/util/NoSuchElementException" ["java/lang/RuntimeException", "java/lang/Exception"]).filter goodWord)
def wsL_flux_r1 : List Cond := [Cond.classLink RL 37 "java/util/NoSuchElementException", Cond.methodLink RL 39 yX3_flux, Cond.instanceMethod yX3_flux, Cond.selects RX3 yX3_flux yX3_flux, Cond.initialized RX3, Cond.code yX3_flux cX3_flux 3 (some .double), Cond.classLink RX3 106 "java/util/NoSuchElementException", Cond.initialized "java/util/NoSuchElementException", Cond.fieldLink RX3 12 "FlowGrid" "now" "LFlowGrid$Row;", Cond.fieldLink RX3 118 "FlowGrid$Row" "size" "I", Cond.fieldLink RX3 26 "FlowGrid" "ends" "I", Cond.fieldLink RX3 22 "FlowGrid" "faces" "LFlowGrid$Faces;", Cond.fieldLink RX3 30 "FlowGrid" "limiter" "I", Cond.fieldLink RX3 33 "FlowGrid" "solver" "I", Cond.fieldLink RX3 130 "FlowGrid$Faces" "momentumFluxes" "[D", Cond.fieldLink RX3 133 "FlowGrid$Faces" "depthFluxes" "[D", Cond.methodLink RX3 56 yX3_isWithin, Cond.static yX3_isWithin, Cond.code yX3_isWithin cX3_isWithin 3 (some .boolean), Cond.methodLink RX3 123 yX1_fillEnds, Cond.instanceMethod yX1_fillEnds, Cond.selects RX1 yX1_fillEnds yX1_fillEnds, Cond.initialized RX1, Cond.code yX1_fillEnds cX1_fillEnds 5 none]
def wsL_flux_r2 : List Cond := [Cond.fieldLink RX1 18 "FlowGrid$Row" "size" "I", Cond.methodLink RX1 28 yX1_copy, Cond.instanceMethod yX1_copy, Cond.selects RX1 yX1_copy yX1_copy, Cond.code yX1_copy cX1_copy 3 none, Cond.fieldLink RX1 9 "FlowGrid$Row" "depths" "[D", Cond.fieldLink RX1 15 "FlowGrid$Row" "momenta" "[D", Cond.methodLink RX1 32 yX1_mirror, Cond.instanceMethod yX1_mirror, Cond.selects RX1 yX1_mirror yX1_mirror, Cond.code yX1_mirror cX1_mirror 3 none, Cond.methodLink RX3 126 yX0_measure, Cond.instanceMethod yX0_measure, Cond.selects RX0 yX0_measure yX0_measure, Cond.initialized RX0, Cond.code yX0_measure cX0_measure 5 none, Cond.fieldLink RX0 38 "FlowGrid$Row" "size" "I", Cond.methodLink RX0 34 yX0_fillSlopes, Cond.instanceMethod yX0_fillSlopes, Cond.selects RX0 yX0_fillSlopes yX0_fillSlopes, Cond.code yX0_fillSlopes cX0_fillSlopes 9 none, Cond.fieldLink RX0 54 "FlowGrid$Row" "depths" "[D", Cond.constantDouble RX0 61 (4602678819172646912), Cond.constantDouble RX0 63 (4576918229304087675)]
def wsL_flux_r3 : List Cond := [Cond.fieldLink RX0 9 "FlowGrid$Faces" "depthSlopes" "[D", Cond.fieldLink RX0 15 "FlowGrid$Faces" "momentumSlopes" "[D", Cond.fieldLink RX0 65 "FlowGrid$Row" "momenta" "[D", Cond.methodLink RX0 57 yX0_slopeAt, Cond.instanceMethod yX0_slopeAt, Cond.selects RX0 yX0_slopeAt yX0_slopeAt, Cond.code yX0_slopeAt cX0_slopeAt 8 (some .double), Cond.constantDouble RX0 72 (4611686018427387904), Cond.methodLink RX0 68 yX0_nearer, Cond.static yX0_nearer, Cond.code yX0_nearer cX0_nearer 4 (some .double), Cond.methodLink RX0 74 yX0_farther, Cond.static yX0_farther, Cond.code yX0_farther cX0_farther 4 (some .double), Cond.methodLink RX0 44 yX0_guess, Cond.instanceMethod yX0_guess, Cond.selects RX0 yX0_guess yX0_guess, Cond.code yX0_guess cX0_guess 5 none, Cond.fieldLink RX0 27 "FlowGrid$Faces" "left" "LFlowGrid$State;", Cond.fieldLink RX0 31 "FlowGrid$Faces" "right" "LFlowGrid$State;", Cond.methodLink RX0 77 yX2_become, Cond.instanceMethod yX2_become, Cond.selects RX2 yX2_become yX2_become, Cond.initialized RX2]
def wsL_flux_r4 : List Cond := [Cond.code yX2_become cX2_become 5 none, Cond.fieldLink RX2 7 "FlowGrid$State" "h" "D", Cond.fieldLink RX2 13 "FlowGrid$State" "m" "D", Cond.fieldLink RX2 16 "FlowGrid$State" "speed" "D", Cond.fieldLink RX2 19 "FlowGrid$State" "wave" "D", Cond.static yX3_speedOf, Cond.code yX3_speedOf cX3_speedOf 4 (some .double), Cond.static yX3_root, Cond.code yX3_root cX3_root 5 (some .double), Cond.constantDouble RX3 148 (4602678819172646912), Cond.methodLink RX0 47 yX0_solveNarrow, Cond.instanceMethod yX0_solveNarrow, Cond.selects RX0 yX0_solveNarrow yX0_solveNarrow, Cond.code yX0_solveNarrow cX0_solveNarrow 6 none, Cond.fieldLink RX0 101 "FlowGrid$State" "speed" "D", Cond.fieldLink RX0 104 "FlowGrid$State" "wave" "D", Cond.fieldLink RX0 18 "FlowGrid$Faces" "depthFluxes" "[D", Cond.fieldLink RX0 91 "FlowGrid$State" "h" "D", Cond.fieldLink RX0 21 "FlowGrid$Faces" "momentumFluxes" "[D", Cond.fieldLink RX0 98 "FlowGrid$State" "m" "D", Cond.static yX3_lesser, Cond.code yX3_lesser cX3_lesser 4 (some .double), Cond.static yX3_greater, Cond.code yX3_greater cX3_greater 4 (some .double)]
def wsL_flux_r5 : List Cond := [Cond.methodLink RX0 88 yX2_depthFlux, Cond.instanceMethod yX2_depthFlux, Cond.selects RX2 yX2_depthFlux yX2_depthFlux, Cond.code yX2_depthFlux cX2_depthFlux 1 (some .double), Cond.methodLink RX0 110 yX0_blend, Cond.static yX0_blend, Cond.code yX0_blend cX0_blend 10 (some .double), Cond.methodLink RX0 95 yX2_momentumFlux, Cond.instanceMethod yX2_momentumFlux, Cond.selects RX2 yX2_momentumFlux yX2_momentumFlux, Cond.code yX2_momentumFlux cX2_momentumFlux 1 (some .double), Cond.constantDouble RX2 35 (4602678819172646912), Cond.methodLink RX0 51 yX0_solveBroad, Cond.instanceMethod yX0_solveBroad, Cond.selects RX0 yX0_solveBroad yX0_solveBroad, Cond.code yX0_solveBroad cX0_solveBroad 4 none, Cond.methodLink RX0 81 yX2_reach, Cond.instanceMethod yX2_reach, Cond.selects RX2 yX2_reach yX2_reach, Cond.code yX2_reach cX2_reach 1 (some .double), Cond.static yX3_absolute, Cond.code yX3_absolute cX3_absolute 2 (some .double)]
def wsL_flux : List Cond := .codeWith yL_flux cL_flux 5 (some .int) [(0, 9, 12, 37)] :: ((wsL_flux_r1 ++ (wsL_flux_r2 ++ (wsL_flux_r3 ++ (wsL_flux_r4 ++ wsL_flux_r5)))) ++ wsX30 ++ wsX10 ++ wsX00 ++ wsX20 ++ (vx_atS RX3 108 "java/util/NoSuchElementException" ["java/lang/RuntimeException", "java/lang/Exception"]).filter goodWord)
def wsL_count : List Cond := .codeWith yL_count cL_count 4 (some .int) [(0, 9, 12, 37)] :: ([.classLink RL 37 "java/util/NoSuchElementException", .methodLink RL 43 yX3_count, .instanceMethod yX3_count, .selects RX3 yX3_count yX3_count, .initialized RX3, .code yX3_count cX3_count 2 (some .int), .classLink RX3 106 "java/util/NoSuchElementException", .initialized "java/util/NoSuchElementException", .fieldLink RX3 12 "FlowGrid" "now" "LFlowGrid$Row;", .fieldLink RX3 118 "FlowGrid$Row" "size" "I", .fieldLink RX3 43 "FlowGrid" "stepsMade" "I", .fieldLink RX3 46 "FlowGrid" "triesFailed" "I", .fieldLink RX3 49 "FlowGrid" "stepsRefused" "I"] ++ wsX30 ++ wsX10 ++ (vx_atS RX3 108 "java/util/NoSuchElementException" ["java/lang/RuntimeException", "java/lang/Exception"]).filter goodWord)
def wsL_law0_r1 : List Cond := [Cond.classLink RL 8 RX3, Cond.instantiable RX3 11, Cond.initialized RX3, Cond.classLink RL 48 RX4, Cond.instantiable RX4 20, Cond.initialized RX4, Cond.arrayClass .long, Cond.arrayClass .double, Cond.constantDouble RL 65 (4593671619917905920), Cond.methodLink RL 47 yX3_init, Cond.instanceMethod yX3_init, Cond.code yX3_init cX3_init 1 none, Cond.methodLink RX3 3 objectInit, Cond.instanceMethod objectInit, Cond.code objectInit ⟨#[0xb1]⟩ 1 none, Cond.classLink RX3 9 RX1, Cond.instantiable RX1 3, Cond.initialized RX1, Cond.fieldLink RX3 12 "FlowGrid" "now" "LFlowGrid$Row;", Cond.fieldLink RX3 16 "FlowGrid" "trial" "LFlowGrid$Row;", Cond.classLink RX3 19 RX0, Cond.instantiable RX0 6, Cond.initialized RX0, Cond.fieldLink RX3 22 "FlowGrid" "faces" "LFlowGrid$Faces;"]
def wsL_law0_r2 : List Cond := [Cond.fieldLink RX3 26 "FlowGrid" "ends" "I", Cond.fieldLink RX3 30 "FlowGrid" "limiter" "I", Cond.fieldLink RX3 33 "FlowGrid" "solver" "I", Cond.fieldLink RX3 36 "FlowGrid" "order" "I", Cond.fieldLink RX3 39 "FlowGrid" "gone" "D", Cond.fieldLink RX3 43 "FlowGrid" "stepsMade" "I", Cond.fieldLink RX3 46 "FlowGrid" "triesFailed" "I", Cond.fieldLink RX3 49 "FlowGrid" "stepsRefused" "I", Cond.instanceMethod yX1_init, Cond.code yX1_init cX1_init 1 none, Cond.methodLink RX1 3 objectInit, Cond.fieldLink RX1 9 "FlowGrid$Row" "depths" "[D", Cond.fieldLink RX1 15 "FlowGrid$Row" "momenta" "[D", Cond.fieldLink RX1 18 "FlowGrid$Row" "size" "I", Cond.instanceMethod yX0_init, Cond.code yX0_init cX0_init 1 none, Cond.methodLink RX0 3 objectInit, Cond.fieldLink RX0 9 "FlowGrid$Faces" "depthSlopes" "[D", Cond.fieldLink RX0 15 "FlowGrid$Faces" "momentumSlopes" "[D", Cond.fieldLink RX0 18 "FlowGrid$Faces" "depthFluxes" "[D", Cond.fieldLink RX0 21 "FlowGrid$Faces" "momentumFluxes" "[D", Cond.classLink RX0 24 RX2, Cond.instantiable RX2 4, Cond.initialized RX2]
def wsL_law0_r3 : List Cond := [Cond.fieldLink RX0 27 "FlowGrid$Faces" "left" "LFlowGrid$State;", Cond.fieldLink RX0 31 "FlowGrid$Faces" "right" "LFlowGrid$State;", Cond.instanceMethod yX2_init, Cond.code yX2_init cX2_init 1 none, Cond.methodLink RX2 1 objectInit, Cond.fieldLink RX2 7 "FlowGrid$State" "h" "D", Cond.fieldLink RX2 13 "FlowGrid$State" "m" "D", Cond.fieldLink RX2 16 "FlowGrid$State" "speed" "D", Cond.fieldLink RX2 19 "FlowGrid$State" "wave" "D", Cond.methodLink RX3 52 yX1_level, Cond.instanceMethod yX1_level, Cond.selects RX1 yX1_level yX1_level, Cond.code yX1_level cX1_level 3 none, Cond.methodLink RL 50 yX4_init, Cond.instanceMethod yX4_init, Cond.code yX4_init cX4_init 1 none, Cond.methodLink RX4 1 objectInit, Cond.fieldLink RX4 7 "FlowGridModel" "depth" "[D", Cond.fieldLink RX4 13 "FlowGridModel" "momentum" "[D", Cond.fieldLink RX4 20 "FlowGridModel" "limiter" "I", Cond.fieldLink RX4 24 "FlowGridModel" "order" "I", Cond.methodLink RX4 16 yX4_empty, Cond.instanceMethod yX4_empty, Cond.selects RX4 yX4_empty yX4_empty]
def wsL_law0_r4 : List Cond := [Cond.code yX4_empty cX4_empty 3 none, Cond.fieldLink RX4 30 "FlowGridModel" "n" "I", Cond.fieldLink RX4 33 "FlowGridModel" "time" "D", Cond.methodLink RL 51 yL_cells, Cond.static yL_cells, Cond.initialized RL, Cond.codeWith yL_cells cL_cells 3 (some .int) [(0, 5, 8, 13)], Cond.classLink RL 13 "java/lang/IllegalArgumentException", Cond.methodLink RL 7 yX3_cells, Cond.instanceMethod yX3_cells, Cond.selects RX3 yX3_cells yX3_cells, Cond.code yX3_cells cX3_cells 2 none, Cond.classLink RX3 60 "java/lang/IllegalArgumentException", Cond.initialized "java/lang/IllegalArgumentException", Cond.methodLink RX3 56 yX3_isWithin, Cond.static yX3_isWithin, Cond.code yX3_isWithin cX3_isWithin 3 (some .boolean), Cond.methodLink RL 56 yX4_cells, Cond.instanceMethod yX4_cells, Cond.selects RX4 yX4_cells yX4_cells, Cond.code yX4_cells cX4_cells 2 none, Cond.methodLink RX4 37 yX4_out, Cond.static yX4_out, Cond.code yX4_out cX4_out 3 (some .boolean)]
def wsL_law0_r5 : List Cond := [Cond.methodLink RX4 41 yX4_fails, Cond.instanceMethod yX4_fails, Cond.selects RX4 yX4_fails yX4_fails, Cond.code yX4_fails cX4_fails 3 (some .boolean), Cond.fieldLink RX4 27 "FlowGridModel" "thrown" "I", Cond.methodLink RL 57 yX4_thrown, Cond.instanceMethod yX4_thrown, Cond.selects RX4 yX4_thrown yX4_thrown, Cond.code yX4_thrown cX4_thrown 1 (some .int), Cond.methodLink RL 61 yL_choose, Cond.static yL_choose, Cond.codeWith yL_choose cL_choose 6 (some .int) [(0, 9, 12, 13)], Cond.methodLink RL 15 yX3_choose, Cond.instanceMethod yX3_choose, Cond.selects RX3 yX3_choose yX3_choose, Cond.code yX3_choose cX3_choose 5 none, Cond.methodLink RL 64 yX4_choose, Cond.instanceMethod yX4_choose, Cond.selects RX4 yX4_choose yX4_choose, Cond.code yX4_choose cX4_choose 5 none, Cond.fieldLink RX4 45 "FlowGridModel" "ends" "I", Cond.fieldLink RX4 48 "FlowGridModel" "solver" "I", Cond.methodLink RL 67 yL_put, Cond.static yL_put]
def wsL_law0_r6 : List Cond := [Cond.codeWith yL_put cL_put 7 (some .int) [(0, 8, 11, 13)], Cond.methodLink RL 19 yX3_put, Cond.instanceMethod yX3_put, Cond.selects RX3 yX3_put yX3_put, Cond.code yX3_put cX3_put 6 none, Cond.constantDouble RX3 75 (4593671619917905920), Cond.constantDouble RX3 77 (4626322717216342016), Cond.constantDouble RX3 81 (13855605728582041600), Cond.constantDouble RX3 83 (4632233691727265792), Cond.fieldLink RX3 87 "FlowGrid$Row" "depths" "[D", Cond.fieldLink RX3 91 "FlowGrid$Row" "momenta" "[D", Cond.methodLink RX3 69 yX1_has, Cond.instanceMethod yX1_has, Cond.selects RX1 yX1_has yX1_has, Cond.code yX1_has cX1_has 2 (some .boolean), Cond.methodLink RL 70 yX4_put, Cond.instanceMethod yX4_put, Cond.selects RX4 yX4_put yX4_put, Cond.code yX4_put cX4_put 6 none, Cond.constantDouble RX4 51 (4593671619917905920), Cond.constantDouble RX4 53 (4626322717216342016), Cond.constantDouble RX4 59 (13855605728582041600), Cond.constantDouble RX4 61 (4632233691727265792), Cond.methodLink RX4 55 yX4_within]
def wsL_law0_r7 : List Cond := [Cond.static yX4_within, Cond.code yX4_within cX4_within 6 (some .boolean), Cond.methodLink RL 71 yL_step, Cond.static yL_step, Cond.codeWith yL_step cL_step 5 (some .int) [(0, 8, 11, 13), (0, 8, 15, 27)], Cond.classLink RL 27 "java/lang/IllegalStateException", Cond.methodLink RL 23 yX3_step, Cond.instanceMethod yX3_step, Cond.selects RX3 yX3_step yX3_step, Cond.code yX3_step cX3_step 3 (some .double), Cond.methodLink RX3 94 yX3_isSpan, Cond.static yX3_isSpan, Cond.code yX3_isSpan cX3_isSpan 2 (some .boolean), Cond.constantDouble RX3 170 (4621819117588971520), Cond.methodLink RX3 100 yX3_advance, Cond.instanceMethod yX3_advance, Cond.selects RX3 yX3_advance yX3_advance, Cond.code yX3_advance cX3_advance 6 (some .double), Cond.classLink RX3 150 "java/lang/IllegalStateException", Cond.initialized "java/lang/IllegalStateException", Cond.constantDouble RX3 148 (4602678819172646912), Cond.methodLink RX3 142 yX1_longestTime, Cond.instanceMethod yX1_longestTime, Cond.selects RX1 yX1_longestTime yX1_longestTime]
def wsL_law0_r8 : List Cond := [Cond.code yX1_longestTime cX1_longestTime 8 (some .double), Cond.constantDouble RX1 65 (4600877379321698714), Cond.static yX3_speedOf, Cond.code yX3_speedOf cX3_speedOf 4 (some .double), Cond.static yX3_absolute, Cond.code yX3_absolute cX3_absolute 2 (some .double), Cond.static yX3_root, Cond.code yX3_root cX3_root 5 (some .double), Cond.static yX3_greater, Cond.code yX3_greater cX3_greater 4 (some .double), Cond.static yX3_lesser, Cond.code yX3_lesser cX3_lesser 4 (some .double), Cond.methodLink RX3 145 yX3_succeeds, Cond.instanceMethod yX3_succeeds, Cond.selects RX3 yX3_succeeds yX3_succeeds, Cond.code yX3_succeeds cX3_succeeds 4 (some .boolean), Cond.methodLink RX3 155 yX1_become, Cond.instanceMethod yX1_become, Cond.selects RX1 yX1_become yX1_become, Cond.code yX1_become cX1_become 2 none, Cond.methodLink RX1 22 arraycopyName, Cond.native arraycopyName, Cond.static arraycopyName, Cond.initialized "java/lang/System"]
def wsL_law0_r9 : List Cond := [Cond.methodLink RX3 123 yX1_fillEnds, Cond.instanceMethod yX1_fillEnds, Cond.selects RX1 yX1_fillEnds yX1_fillEnds, Cond.code yX1_fillEnds cX1_fillEnds 5 none, Cond.methodLink RX1 28 yX1_copy, Cond.instanceMethod yX1_copy, Cond.selects RX1 yX1_copy yX1_copy, Cond.code yX1_copy cX1_copy 3 none, Cond.methodLink RX1 32 yX1_mirror, Cond.instanceMethod yX1_mirror, Cond.selects RX1 yX1_mirror yX1_mirror, Cond.code yX1_mirror cX1_mirror 3 none, Cond.methodLink RX3 126 yX0_measure, Cond.instanceMethod yX0_measure, Cond.selects RX0 yX0_measure yX0_measure, Cond.code yX0_measure cX0_measure 5 none, Cond.fieldLink RX0 38 "FlowGrid$Row" "size" "I", Cond.methodLink RX0 34 yX0_fillSlopes, Cond.instanceMethod yX0_fillSlopes, Cond.selects RX0 yX0_fillSlopes yX0_fillSlopes, Cond.code yX0_fillSlopes cX0_fillSlopes 9 none, Cond.fieldLink RX0 54 "FlowGrid$Row" "depths" "[D", Cond.constantDouble RX0 61 (4602678819172646912), Cond.constantDouble RX0 63 (4576918229304087675)]
def wsL_law0_r10 : List Cond := [Cond.fieldLink RX0 65 "FlowGrid$Row" "momenta" "[D", Cond.methodLink RX0 57 yX0_slopeAt, Cond.instanceMethod yX0_slopeAt, Cond.selects RX0 yX0_slopeAt yX0_slopeAt, Cond.code yX0_slopeAt cX0_slopeAt 8 (some .double), Cond.constantDouble RX0 72 (4611686018427387904), Cond.methodLink RX0 68 yX0_nearer, Cond.static yX0_nearer, Cond.code yX0_nearer cX0_nearer 4 (some .double), Cond.methodLink RX0 74 yX0_farther, Cond.static yX0_farther, Cond.code yX0_farther cX0_farther 4 (some .double), Cond.methodLink RX0 44 yX0_guess, Cond.instanceMethod yX0_guess, Cond.selects RX0 yX0_guess yX0_guess, Cond.code yX0_guess cX0_guess 5 none, Cond.methodLink RX0 77 yX2_become, Cond.instanceMethod yX2_become, Cond.selects RX2 yX2_become yX2_become, Cond.code yX2_become cX2_become 5 none, Cond.methodLink RX0 47 yX0_solveNarrow, Cond.instanceMethod yX0_solveNarrow, Cond.selects RX0 yX0_solveNarrow yX0_solveNarrow, Cond.code yX0_solveNarrow cX0_solveNarrow 6 none]
def wsL_law0_r11 : List Cond := [Cond.fieldLink RX0 101 "FlowGrid$State" "speed" "D", Cond.fieldLink RX0 104 "FlowGrid$State" "wave" "D", Cond.fieldLink RX0 91 "FlowGrid$State" "h" "D", Cond.fieldLink RX0 98 "FlowGrid$State" "m" "D", Cond.methodLink RX0 88 yX2_depthFlux, Cond.instanceMethod yX2_depthFlux, Cond.selects RX2 yX2_depthFlux yX2_depthFlux, Cond.code yX2_depthFlux cX2_depthFlux 1 (some .double), Cond.methodLink RX0 110 yX0_blend, Cond.static yX0_blend, Cond.code yX0_blend cX0_blend 10 (some .double), Cond.methodLink RX0 95 yX2_momentumFlux, Cond.instanceMethod yX2_momentumFlux, Cond.selects RX2 yX2_momentumFlux yX2_momentumFlux, Cond.code yX2_momentumFlux cX2_momentumFlux 1 (some .double), Cond.constantDouble RX2 35 (4602678819172646912), Cond.methodLink RX0 51 yX0_solveBroad, Cond.instanceMethod yX0_solveBroad, Cond.selects RX0 yX0_solveBroad yX0_solveBroad, Cond.code yX0_solveBroad cX0_solveBroad 4 none, Cond.methodLink RX0 81 yX2_reach, Cond.instanceMethod yX2_reach, Cond.selects RX2 yX2_reach yX2_reach, Cond.code yX2_reach cX2_reach 1 (some .double)]
def wsL_law0_r12 : List Cond := [Cond.methodLink RX3 159 yX1_move, Cond.instanceMethod yX1_move, Cond.selects RX1 yX1_move yX1_move, Cond.code yX1_move cX1_move 6 none, Cond.fieldLink RX1 35 "FlowGrid$Faces" "depthFluxes" "[D", Cond.fieldLink RX1 40 "FlowGrid$Faces" "momentumFluxes" "[D", Cond.methodLink RX3 163 yX1_hasFailed, Cond.instanceMethod yX1_hasFailed, Cond.selects RX1 yX1_hasFailed yX1_hasFailed, Cond.code yX1_hasFailed cX1_hasFailed 2 (some .boolean), Cond.constantDouble RX1 43 (4576918229304087675), Cond.constantDouble RX1 45 (4652007308841189376), Cond.constantDouble RX1 47 (13875379345695965184), Cond.methodLink RX3 167 yX1_meet, Cond.instanceMethod yX1_meet, Cond.selects RX1 yX1_meet yX1_meet, Cond.code yX1_meet cX1_meet 3 none, Cond.constantDouble RX1 49 (4602678819172646912), Cond.methodLink RL 74 yX4_step, Cond.instanceMethod yX4_step, Cond.selects RX4 yX4_step yX4_step, Cond.code yX4_step cX4_step 5 (some .double), Cond.methodLink RX4 165 yX4_isTime, Cond.static yX4_isTime]
def wsL_law0_r13 : List Cond := [Cond.code yX4_isTime cX4_isTime 2 (some .boolean), Cond.constantDouble RX4 163 (4621819117588971520), Cond.methodLink RX4 168 yX4_made, Cond.instanceMethod yX4_made, Cond.selects RX4 yX4_made yX4_made, Cond.code yX4_made cX4_made 6 (some .double), Cond.fieldLink RX4 154 "FlowGridModel" "steps" "I", Cond.fieldLink RX4 157 "FlowGridModel" "failed" "I", Cond.constantDouble RX4 63 (4602678819172646912), Cond.fieldLink RX4 160 "FlowGridModel" "refused" "I", Cond.methodLink RX4 147 yX4_bounded, Cond.instanceMethod yX4_bounded, Cond.selects RX4 yX4_bounded yX4_bounded, Cond.code yX4_bounded cX4_bounded 7 (some .double), Cond.constantDouble RX4 145 (4600877379321698714), Cond.methodLink RX4 107 yX4_speed, Cond.static yX4_speed, Cond.code yX4_speed cX4_speed 4 (some .double), Cond.methodLink RX4 65 yX4_size, Cond.static yX4_size, Cond.code yX4_size cX4_size 2 (some .double), Cond.methodLink RX4 69 yX4_root, Cond.static yX4_root, Cond.code yX4_root cX4_root 5 (some .double)]
def wsL_law0_r14 : List Cond := [Cond.methodLink RX4 110 yX4_greater, Cond.static yX4_greater, Cond.code yX4_greater cX4_greater 4 (some .double), Cond.methodLink RX4 150 yX4_tried, Cond.instanceMethod yX4_tried, Cond.selects RX4 yX4_tried yX4_tried, Cond.code yX4_tried cX4_tried 4 (some .boolean), Cond.methodLink RX4 141 yX4_stage, Cond.instanceMethod yX4_stage, Cond.selects RX4 yX4_stage yX4_stage, Cond.code yX4_stage cX4_stage 13 (some .boolean), Cond.fieldLink RX4 117 "FlowGridModel" "fluxH" "D", Cond.fieldLink RX4 120 "FlowGridModel" "fluxM" "D", Cond.constantDouble RX4 87 (4576918229304087675), Cond.constantDouble RX4 137 (4652007308841189376), Cond.constantDouble RX4 139 (13875379345695965184), Cond.methodLink RX4 130 yX4_close, Cond.instanceMethod yX4_close, Cond.selects RX4 yX4_close yX4_close, Cond.code yX4_close cX4_close 7 none, Cond.methodLink RX4 133 yX4_face, Cond.instanceMethod yX4_face, Cond.selects RX4 yX4_face yX4_face, Cond.code yX4_face cX4_face 20 none]
def wsL_law0_r15 : List Cond := [Cond.fieldLink RX4 81 "FlowGridModel" "slopeH" "D", Cond.fieldLink RX4 92 "FlowGridModel" "leftH" "D", Cond.fieldLink RX4 84 "FlowGridModel" "slopeM" "D", Cond.fieldLink RX4 95 "FlowGridModel" "leftM" "D", Cond.fieldLink RX4 98 "FlowGridModel" "rightH" "D", Cond.fieldLink RX4 101 "FlowGridModel" "rightM" "D", Cond.methodLink RX4 89 yX4_slopes, Cond.instanceMethod yX4_slopes, Cond.selects RX4 yX4_slopes yX4_slopes, Cond.code yX4_slopes cX4_slopes 2 none, Cond.methodLink RX4 78 yX4_slope, Cond.instanceMethod yX4_slope, Cond.selects RX4 yX4_slope yX4_slope, Cond.code yX4_slope cX4_slope 9 (some .double), Cond.constantDouble RX4 76 (4611686018427387904), Cond.methodLink RX4 72 yX4_least, Cond.static yX4_least, Cond.code yX4_least cX4_least 4 (some .double), Cond.methodLink RX4 104 yX4_force, Cond.static yX4_force, Cond.code yX4_force cX4_force 6 (some .double), Cond.methodLink RX4 113 yX4_broad, Cond.static yX4_broad, Cond.code yX4_broad cX4_broad 10 (some .double)]
def wsL_law0_r16 : List Cond := [Cond.methodLink RX4 123 yX4_lesser, Cond.static yX4_lesser, Cond.code yX4_lesser cX4_lesser 4 (some .double), Cond.methodLink RX4 126 yX4_narrow, Cond.static yX4_narrow, Cond.code yX4_narrow cX4_narrow 12 (some .double), Cond.methodLink RL 75 yL_run, Cond.static yL_run, Cond.codeWith yL_run cL_run 5 (some .int) [(0, 9, 12, 13), (0, 9, 16, 27)], Cond.methodLink RL 29 yX3_run, Cond.instanceMethod yX3_run, Cond.selects RX3 yX3_run yX3_run, Cond.code yX3_run cX3_run 6 (some .int), Cond.constantDouble RX3 104 (4562254508917369340), Cond.methodLink RL 78 yX4_run, Cond.instanceMethod yX4_run, Cond.selects RX4 yX4_run yX4_run, Cond.code yX4_run cX4_run 8 (some .int), Cond.constantDouble RX4 171 (4562254508917369340), Cond.methodLink RL 79 yL_cell, Cond.static yL_cell, Cond.codeWith yL_cell cL_cell 5 (some .int) [(0, 9, 12, 37)], Cond.classLink RL 37 "java/util/NoSuchElementException", Cond.methodLink RL 33 yX3_cell]
def wsL_law0_r17 : List Cond := [Cond.instanceMethod yX3_cell, Cond.selects RX3 yX3_cell yX3_cell, Cond.code yX3_cell cX3_cell 7 (some .double), Cond.classLink RX3 106 "java/util/NoSuchElementException", Cond.initialized "java/util/NoSuchElementException", Cond.methodLink RX3 109 yX3_speedOf, Cond.methodLink RX3 113 yX3_root, Cond.methodLink RL 82 yX4_cell, Cond.instanceMethod yX4_cell, Cond.selects RX4 yX4_cell yX4_cell, Cond.code yX4_cell cX4_cell 7 (some .double), Cond.methodLink RL 83 yL_flux, Cond.static yL_flux, Cond.codeWith yL_flux cL_flux 5 (some .int) [(0, 9, 12, 37)], Cond.methodLink RL 39 yX3_flux, Cond.instanceMethod yX3_flux, Cond.selects RX3 yX3_flux yX3_flux, Cond.code yX3_flux cX3_flux 3 (some .double), Cond.fieldLink RX3 118 "FlowGrid$Row" "size" "I", Cond.fieldLink RX3 130 "FlowGrid$Faces" "momentumFluxes" "[D", Cond.fieldLink RX3 133 "FlowGrid$Faces" "depthFluxes" "[D", Cond.methodLink RL 86 yX4_flux, Cond.instanceMethod yX4_flux, Cond.selects RX4 yX4_flux yX4_flux]
def wsL_law0_r18 : List Cond := [Cond.code yX4_flux cX4_flux 3 (some .double), Cond.methodLink RL 87 yX3_sum, Cond.instanceMethod yX3_sum, Cond.selects RX3 yX3_sum yX3_sum, Cond.code yX3_sum cX3_sum 2 (some .double), Cond.methodLink RX3 136 yX1_total, Cond.instanceMethod yX1_total, Cond.selects RX1 yX1_total yX1_total, Cond.code yX1_total cX1_total 11 (some .double), Cond.methodLink RL 91 yX4_sum, Cond.instanceMethod yX4_sum, Cond.selects RX4 yX4_sum yX4_sum, Cond.code yX4_sum cX4_sum 11 (some .double), Cond.methodLink RL 92 yX3_time, Cond.instanceMethod yX3_time, Cond.selects RX3 yX3_time yX3_time, Cond.code yX3_time cX3_time 1 (some .double), Cond.methodLink RL 96 yX4_time, Cond.instanceMethod yX4_time, Cond.selects RX4 yX4_time yX4_time, Cond.code yX4_time cX4_time 1 (some .double), Cond.methodLink RL 97 yL_count, Cond.static yL_count, Cond.codeWith yL_count cL_count 4 (some .int) [(0, 9, 12, 37)]]
def wsL_law0_r19 : List Cond := [Cond.methodLink RL 43 yX3_count, Cond.instanceMethod yX3_count, Cond.selects RX3 yX3_count yX3_count, Cond.code yX3_count cX3_count 2 (some .int), Cond.methodLink RL 100 yX4_count, Cond.instanceMethod yX4_count, Cond.selects RX4 yX4_count yX4_count, Cond.code yX4_count cX4_count 2 (some .int)]
def wsL_law0 : List Cond := (wsL_law0_r1 ++ (wsL_law0_r2 ++ (wsL_law0_r3 ++ (wsL_law0_r4 ++ (wsL_law0_r5 ++ (wsL_law0_r6 ++ (wsL_law0_r7 ++ (wsL_law0_r8 ++ (wsL_law0_r9 ++ (wsL_law0_r10 ++ (wsL_law0_r11 ++ (wsL_law0_r12 ++ (wsL_law0_r13 ++ (wsL_law0_r14 ++ (wsL_law0_r15 ++ (wsL_law0_r16 ++ (wsL_law0_r17 ++ (wsL_law0_r18 ++ wsL_law0_r19)))))))))))))))))) ++ wsX30 ++ wsX40 ++ wsX10 ++ wsX00 ++ wsX20 ++ ([] : List Cond)
def wsL_law : List Cond := wsL_law0 ++ (vx_atS RX3 64 "java/lang/IllegalArgumentException" ["java/lang/RuntimeException", "java/lang/Exception"]).filter goodWord ++ (vx_atS RX3 154 "java/lang/IllegalStateException" ["java/lang/RuntimeException", "java/lang/Exception"]).filter goodWord ++ (vx_atS RX3 108 "java/util/NoSuchElementException" ["java/lang/RuntimeException", "java/lang/Exception"]).filter goodWord
set_option maxRecDepth 20000 in
theorem ggX0_init_X2_init : GoodIn wsX0_init wsX2_init := goodIn_r _ [15, 16, 2, 3, 17, 18, 19, 20, 27, 28, 29, 30] (by decide +kernel) (by decide +kernel)
set_option maxRecDepth 20000 in
theorem gX0_init_X2_init_n26 : GoodIn wsX0_init (wsX2_init) := ggX0_init_X2_init
theorem dX0_init_0 : decode cX0_init 0 = .ok (.aload_n 0, 1) := by decide +kernel
theorem dX0_init_1 : decode cX0_init 1 = .ok (.invokespecial 3, 3) := by decide +kernel
theorem dX0_init_4 : decode cX0_init 4 = .ok (.aload_n 0, 1) := by decide +kernel
theorem dX0_init_5 : decode cX0_init 5 = .ok (.bipush 28, 2) := by decide +kernel
theorem dX0_init_7 : decode cX0_init 7 = .ok (.newarray .double, 2) := by decide +kernel
theorem dX0_init_9 : decode cX0_init 9 = .ok (.putfield 9, 3) := by decide +kernel
theorem dX0_init_12 : decode cX0_init 12 = .ok (.aload_n 0, 1) := by decide +kernel
theorem dX0_init_13 : decode cX0_init 13 = .ok (.bipush 28, 2) := by decide +kernel
theorem dX0_init_15 : decode cX0_init 15 = .ok (.newarray .double, 2) := by decide +kernel
theorem dX0_init_17 : decode cX0_init 17 = .ok (.putfield 15, 3) := by decide +kernel
theorem dX0_init_20 : decode cX0_init 20 = .ok (.aload_n 0, 1) := by decide +kernel
theorem dX0_init_21 : decode cX0_init 21 = .ok (.bipush 25, 2) := by decide +kernel
theorem dX0_init_23 : decode cX0_init 23 = .ok (.newarray .double, 2) := by decide +kernel
theorem dX0_init_25 : decode cX0_init 25 = .ok (.putfield 18, 3) := by decide +kernel
theorem dX0_init_28 : decode cX0_init 28 = .ok (.aload_n 0, 1) := by decide +kernel
theorem dX0_init_29 : decode cX0_init 29 = .ok (.bipush 25, 2) := by decide +kernel
theorem dX0_init_31 : decode cX0_init 31 = .ok (.newarray .double, 2) := by decide +kernel
theorem dX0_init_33 : decode cX0_init 33 = .ok (.putfield 21, 3) := by decide +kernel
theorem dX0_init_36 : decode cX0_init 36 = .ok (.aload_n 0, 1) := by decide +kernel
theorem dX0_init_37 : decode cX0_init 37 = .ok (.new 24, 3) := by decide +kernel
theorem dX0_init_40 : decode cX0_init 40 = .ok (.dup, 1) := by decide +kernel
theorem dX0_init_41 : decode cX0_init 41 = .ok (.invokespecial 26, 3) := by decide +kernel
theorem dX0_init_44 : decode cX0_init 44 = .ok (.putfield 27, 3) := by decide +kernel
theorem dX0_init_47 : decode cX0_init 47 = .ok (.aload_n 0, 1) := by decide +kernel
theorem dX0_init_48 : decode cX0_init 48 = .ok (.new 24, 3) := by decide +kernel
theorem dX0_init_51 : decode cX0_init 51 = .ok (.dup, 1) := by decide +kernel
theorem dX0_init_52 : decode cX0_init 52 = .ok (.invokespecial 26, 3) := by decide +kernel
theorem dX0_init_55 : decode cX0_init 55 = .ok (.putfield 31, 3) := by decide +kernel
theorem dX0_init_58 : decode cX0_init 58 = .ok (.return_, 1) := by decide +kernel
set_option maxRecDepth 20000 in
theorem ggX0_measure_X0_fillSlopes : GoodIn wsX0_measure wsX0_fillSlopes := goodIn_r _ [6, 1, 7, 8, 9, 10, 11, 12, 13, 14, 15, 5, 16, 17, 18, 19, 20, 21, 22, 23, 81, 82, 83, 84, 85, 86, 87, 88, 89] (by decide +kernel) (by decide +kernel)
set_option maxRecDepth 20000 in
theorem gX0_measure_X0_fillSlopes : GoodIn wsX0_measure (wsV RX0 34 RX0 yX0_fillSlopes wsX0_fillSlopes) := goodIn_app (goodIn_of _ (by decide +kernel)) ggX0_measure_X0_fillSlopes
set_option maxRecDepth 20000 in
theorem ggX0_measure_X0_guess : GoodIn wsX0_measure wsX0_guess := goodIn_r _ [27, 28, 7, 8, 10, 12, 11, 29, 30, 31, 32, 33, 34, 35, 36, 37, 38, 39, 40, 41, 42, 43, 44, 84, 85, 86, 87, 88, 89, 81, 82, 83, 90, 91, 92, 93] (by decide +kernel) (by decide +kernel)
set_option maxRecDepth 20000 in
theorem gX0_measure_X0_guess : GoodIn wsX0_measure (wsV RX0 44 RX0 yX0_guess wsX0_guess) := goodIn_app (goodIn_of _ (by decide +kernel)) ggX0_measure_X0_guess
set_option maxRecDepth 20000 in
theorem ggX0_measure_X0_solveNarrow : GoodIn wsX0_measure wsX0_solveNarrow := goodIn_r _ [48, 28, 49, 50, 29, 51, 52, 53, 54, 55, 40, 56, 57, 58, 59, 60, 61, 33, 62, 36, 63, 64, 5, 65, 66, 67, 68, 69, 37, 70, 35, 84, 85, 86, 87, 88, 89, 90, 91, 92, 93] (by decide +kernel) (by decide +kernel)
set_option maxRecDepth 20000 in
theorem gX0_measure_X0_solveNarrow : GoodIn wsX0_measure (wsV RX0 47 RX0 yX0_solveNarrow wsX0_solveNarrow) := goodIn_app (goodIn_of _ (by decide +kernel)) ggX0_measure_X0_solveNarrow
set_option maxRecDepth 20000 in
theorem ggX0_measure_X0_solveBroad : GoodIn wsX0_measure wsX0_solveBroad := goodIn_r _ [74, 28, 29, 51, 8, 52, 53, 54, 75, 76, 77, 33, 78, 37, 38, 79, 40, 80, 57, 58, 59, 60, 61, 62, 36, 66, 67, 68, 69, 70, 35, 84, 85, 86, 87, 88, 89, 90, 91, 92, 93] (by decide +kernel) (by decide +kernel)
set_option maxRecDepth 20000 in
theorem gX0_measure_X0_solveBroad : GoodIn wsX0_measure (wsV RX0 51 RX0 yX0_solveBroad wsX0_solveBroad) := goodIn_app (goodIn_of _ (by decide +kernel)) ggX0_measure_X0_solveBroad
end
section
theorem dX0_measure_0 : decode cX0_measure 0 = .ok (.aload_n 0, 1) := by decide +kernel
theorem dX0_measure_1 : decode cX0_measure 1 = .ok (.aload_n 1, 1) := by decide +kernel
theorem dX0_measure_2 : decode cX0_measure 2 = .ok (.iload_n 2, 1) := by decide +kernel
theorem dX0_measure_3 : decode cX0_measure 3 = .ok (.invokevirtual 34, 3) := by decide +kernel
theorem dX0_measure_6 : decode cX0_measure 6 = .ok (.iconst 0, 1) := by decide +kernel
theorem dX0_measure_7 : decode cX0_measure 7 = .ok (.istore 4, 2) := by decide +kernel
theorem dX0_measure_9 : decode cX0_measure 9 = .ok (.iload 4, 2) := by decide +kernel
theorem dX0_measure_11 : decode cX0_measure 11 = .ok (.aload_n 1, 1) := by decide +kernel
theorem dX0_measure_12 : decode cX0_measure 12 = .ok (.getfield 38, 3) := by decide +kernel
theorem dX0_measure_15 : decode cX0_measure 15 = .ok (.if_icmp .gt 36, 3) := by decide +kernel
theorem dX0_measure_18 : decode cX0_measure 18 = .ok (.aload_n 0, 1) := by decide +kernel
theorem dX0_measure_19 : decode cX0_measure 19 = .ok (.aload_n 1, 1) := by decide +kernel
theorem dX0_measure_20 : decode cX0_measure 20 = .ok (.iload 4, 2) := by decide +kernel
theorem dX0_measure_22 : decode cX0_measure 22 = .ok (.invokevirtual 44, 3) := by decide +kernel
theorem dX0_measure_25 : decode cX0_measure 25 = .ok (.iload_n 3, 1) := by decide +kernel
theorem dX0_measure_26 : decode cX0_measure 26 = .ok (.iconst 1, 1) := by decide +kernel
theorem dX0_measure_27 : decode cX0_measure 27 = .ok (.if_icmp .ne 12, 3) := by decide +kernel
theorem dX0_measure_30 : decode cX0_measure 30 = .ok (.aload_n 0, 1) := by decide +kernel
theorem dX0_measure_31 : decode cX0_measure 31 = .ok (.iload 4, 2) := by decide +kernel
theorem dX0_measure_33 : decode cX0_measure 33 = .ok (.invokevirtual 47, 3) := by decide +kernel
theorem dX0_measure_36 : decode cX0_measure 36 = .ok (.goto 9, 3) := by decide +kernel
theorem dX0_measure_39 : decode cX0_measure 39 = .ok (.aload_n 0, 1) := by decide +kernel
theorem dX0_measure_40 : decode cX0_measure 40 = .ok (.iload 4, 2) := by decide +kernel
theorem dX0_measure_42 : decode cX0_measure 42 = .ok (.invokevirtual 51, 3) := by decide +kernel
theorem dX0_measure_45 : decode cX0_measure 45 = .ok (.iinc 4 1, 3) := by decide +kernel
theorem dX0_measure_48 : decode cX0_measure 48 = .ok (.goto (-39), 3) := by decide +kernel
theorem dX0_measure_51 : decode cX0_measure 51 = .ok (.return_, 1) := by decide +kernel
set_option maxRecDepth 20000 in
theorem ggX0_fillSlopes_X0_slopeAt : GoodIn wsX0_fillSlopes wsX0_slopeAt := goodIn_r _ [12, 13, 14, 15, 11, 16, 17, 18, 19] (by decide +kernel) (by decide +kernel)
set_option maxRecDepth 20000 in
theorem gX0_fillSlopes_X0_slopeAt : GoodIn wsX0_fillSlopes (wsV RX0 57 RX0 yX0_slopeAt wsX0_slopeAt) := goodIn_app (goodIn_of _ (by decide +kernel)) ggX0_fillSlopes_X0_slopeAt
theorem dX0_fillSlopes_0 : decode cX0_fillSlopes 0 = .ok (.iconst 1, 1) := by decide +kernel
theorem dX0_fillSlopes_1 : decode cX0_fillSlopes 1 = .ok (.istore_n 3, 1) := by decide +kernel
theorem dX0_fillSlopes_2 : decode cX0_fillSlopes 2 = .ok (.iload_n 3, 1) := by decide +kernel
theorem dX0_fillSlopes_3 : decode cX0_fillSlopes 3 = .ok (.iconst 2, 1) := by decide +kernel
theorem dX0_fillSlopes_4 : decode cX0_fillSlopes 4 = .ok (.aload_n 1, 1) := by decide +kernel
theorem dX0_fillSlopes_5 : decode cX0_fillSlopes 5 = .ok (.getfield 38, 3) := by decide +kernel
theorem dX0_fillSlopes_8 : decode cX0_fillSlopes 8 = .ok (.iadd, 1) := by decide +kernel
theorem dX0_fillSlopes_9 : decode cX0_fillSlopes 9 = .ok (.if_icmp .gt 110, 3) := by decide +kernel
theorem dX0_fillSlopes_12 : decode cX0_fillSlopes 12 = .ok (.aload_n 1, 1) := by decide +kernel
theorem dX0_fillSlopes_13 : decode cX0_fillSlopes 13 = .ok (.getfield 54, 3) := by decide +kernel
theorem dX0_fillSlopes_16 : decode cX0_fillSlopes 16 = .ok (.iload_n 3, 1) := by decide +kernel
theorem dX0_fillSlopes_17 : decode cX0_fillSlopes 17 = .ok (.daload, 1) := by decide +kernel
theorem dX0_fillSlopes_18 : decode cX0_fillSlopes 18 = .ok (.dstore 4, 2) := by decide +kernel
theorem dX0_fillSlopes_20 : decode cX0_fillSlopes 20 = .ok (.aload_n 0, 1) := by decide +kernel
theorem dX0_fillSlopes_21 : decode cX0_fillSlopes 21 = .ok (.aload_n 1, 1) := by decide +kernel
theorem dX0_fillSlopes_22 : decode cX0_fillSlopes 22 = .ok (.getfield 54, 3) := by decide +kernel
theorem dX0_fillSlopes_25 : decode cX0_fillSlopes 25 = .ok (.iload_n 3, 1) := by decide +kernel
theorem dX0_fillSlopes_26 : decode cX0_fillSlopes 26 = .ok (.iload_n 2, 1) := by decide +kernel
theorem dX0_fillSlopes_27 : decode cX0_fillSlopes 27 = .ok (.invokevirtual 57, 3) := by decide +kernel
theorem dX0_fillSlopes_30 : decode cX0_fillSlopes 30 = .ok (.dstore 6, 2) := by decide +kernel
theorem dX0_fillSlopes_32 : decode cX0_fillSlopes 32 = .ok (.dload 4, 2) := by decide +kernel
theorem dX0_fillSlopes_34 : decode cX0_fillSlopes 34 = .ok (.ldc2_w 61, 3) := by decide +kernel
theorem dX0_fillSlopes_37 : decode cX0_fillSlopes 37 = .ok (.dload 6, 2) := by decide +kernel
theorem dX0_fillSlopes_39 : decode cX0_fillSlopes 39 = .ok (.dmul, 1) := by decide +kernel
theorem dX0_fillSlopes_40 : decode cX0_fillSlopes 40 = .ok (.dadd, 1) := by decide +kernel
theorem dX0_fillSlopes_41 : decode cX0_fillSlopes 41 = .ok (.ldc2_w 63, 3) := by decide +kernel
theorem dX0_fillSlopes_44 : decode cX0_fillSlopes 44 = .ok (.dcmp .g, 1) := by decide +kernel
theorem dX0_fillSlopes_45 : decode cX0_fillSlopes 45 = .ok (.ifCond .lt 19, 3) := by decide +kernel
theorem dX0_fillSlopes_48 : decode cX0_fillSlopes 48 = .ok (.dload 4, 2) := by decide +kernel
theorem dX0_fillSlopes_50 : decode cX0_fillSlopes 50 = .ok (.ldc2_w 61, 3) := by decide +kernel
theorem dX0_fillSlopes_53 : decode cX0_fillSlopes 53 = .ok (.dload 6, 2) := by decide +kernel
theorem dX0_fillSlopes_55 : decode cX0_fillSlopes 55 = .ok (.dmul, 1) := by decide +kernel
theorem dX0_fillSlopes_56 : decode cX0_fillSlopes 56 = .ok (.dsub, 1) := by decide +kernel
theorem dX0_fillSlopes_57 : decode cX0_fillSlopes 57 = .ok (.ldc2_w 63, 3) := by decide +kernel
theorem dX0_fillSlopes_60 : decode cX0_fillSlopes 60 = .ok (.dcmp .g, 1) := by decide +kernel
theorem dX0_fillSlopes_61 : decode cX0_fillSlopes 61 = .ok (.ifCond .ge 7, 3) := by decide +kernel
theorem dX0_fillSlopes_64 : decode cX0_fillSlopes 64 = .ok (.iconst 1, 1) := by decide +kernel
theorem dX0_fillSlopes_65 : decode cX0_fillSlopes 65 = .ok (.goto 4, 3) := by decide +kernel
theorem dX0_fillSlopes_68 : decode cX0_fillSlopes 68 = .ok (.iconst 0, 1) := by decide +kernel
theorem dX0_fillSlopes_69 : decode cX0_fillSlopes 69 = .ok (.istore 8, 2) := by decide +kernel
theorem dX0_fillSlopes_71 : decode cX0_fillSlopes 71 = .ok (.aload_n 0, 1) := by decide +kernel
theorem dX0_fillSlopes_72 : decode cX0_fillSlopes 72 = .ok (.getfield 9, 3) := by decide +kernel
theorem dX0_fillSlopes_75 : decode cX0_fillSlopes 75 = .ok (.iload_n 3, 1) := by decide +kernel
theorem dX0_fillSlopes_76 : decode cX0_fillSlopes 76 = .ok (.iload 8, 2) := by decide +kernel
theorem dX0_fillSlopes_78 : decode cX0_fillSlopes 78 = .ok (.ifCond .eq 7, 3) := by decide +kernel
theorem dX0_fillSlopes_81 : decode cX0_fillSlopes 81 = .ok (.dconst 0, 1) := by decide +kernel
theorem dX0_fillSlopes_82 : decode cX0_fillSlopes 82 = .ok (.goto 5, 3) := by decide +kernel
theorem dX0_fillSlopes_85 : decode cX0_fillSlopes 85 = .ok (.dload 6, 2) := by decide +kernel
theorem dX0_fillSlopes_87 : decode cX0_fillSlopes 87 = .ok (.dastore, 1) := by decide +kernel
theorem dX0_fillSlopes_88 : decode cX0_fillSlopes 88 = .ok (.aload_n 0, 1) := by decide +kernel
theorem dX0_fillSlopes_89 : decode cX0_fillSlopes 89 = .ok (.getfield 15, 3) := by decide +kernel
theorem dX0_fillSlopes_92 : decode cX0_fillSlopes 92 = .ok (.iload_n 3, 1) := by decide +kernel
theorem dX0_fillSlopes_93 : decode cX0_fillSlopes 93 = .ok (.iload 8, 2) := by decide +kernel
theorem dX0_fillSlopes_95 : decode cX0_fillSlopes 95 = .ok (.ifCond .eq 7, 3) := by decide +kernel
theorem dX0_fillSlopes_98 : decode cX0_fillSlopes 98 = .ok (.dconst 0, 1) := by decide +kernel
theorem dX0_fillSlopes_99 : decode cX0_fillSlopes 99 = .ok (.goto 13, 3) := by decide +kernel
theorem dX0_fillSlopes_102 : decode cX0_fillSlopes 102 = .ok (.aload_n 0, 1) := by decide +kernel
theorem dX0_fillSlopes_103 : decode cX0_fillSlopes 103 = .ok (.aload_n 1, 1) := by decide +kernel
theorem dX0_fillSlopes_104 : decode cX0_fillSlopes 104 = .ok (.getfield 65, 3) := by decide +kernel
theorem dX0_fillSlopes_107 : decode cX0_fillSlopes 107 = .ok (.iload_n 3, 1) := by decide +kernel
theorem dX0_fillSlopes_108 : decode cX0_fillSlopes 108 = .ok (.iload_n 2, 1) := by decide +kernel
theorem dX0_fillSlopes_109 : decode cX0_fillSlopes 109 = .ok (.invokevirtual 57, 3) := by decide +kernel
theorem dX0_fillSlopes_112 : decode cX0_fillSlopes 112 = .ok (.dastore, 1) := by decide +kernel
theorem dX0_fillSlopes_113 : decode cX0_fillSlopes 113 = .ok (.iinc 3 1, 3) := by decide +kernel
theorem dX0_fillSlopes_116 : decode cX0_fillSlopes 116 = .ok (.goto (-114), 3) := by decide +kernel
theorem dX0_fillSlopes_119 : decode cX0_fillSlopes 119 = .ok (.return_, 1) := by decide +kernel
set_option maxRecDepth 20000 in
theorem ggX0_slopeAt_X0_nearer : GoodIn wsX0_slopeAt wsX0_nearer := goodIn_r _ [5] (by decide +kernel) (by decide +kernel)
set_option maxRecDepth 20000 in
theorem gX0_slopeAt_X0_nearer : GoodIn wsX0_slopeAt (va_wsS RX0 68 yX0_nearer wsX0_nearer) := goodIn_app (goodIn_of _ (by decide +kernel)) ggX0_slopeAt_X0_nearer
set_option maxRecDepth 20000 in
theorem ggX0_slopeAt_X0_farther : GoodIn wsX0_slopeAt wsX0_farther := goodIn_r _ [8] (by decide +kernel) (by decide +kernel)
set_option maxRecDepth 20000 in
theorem gX0_slopeAt_X0_farther : GoodIn wsX0_slopeAt (va_wsS RX0 74 yX0_farther wsX0_farther) := goodIn_app (goodIn_of _ (by decide +kernel)) ggX0_slopeAt_X0_farther
theorem dX0_slopeAt_0 : decode cX0_slopeAt 0 = .ok (.aload_n 1, 1) := by decide +kernel
theorem dX0_slopeAt_1 : decode cX0_slopeAt 1 = .ok (.iload_n 2, 1) := by decide +kernel
theorem dX0_slopeAt_2 : decode cX0_slopeAt 2 = .ok (.daload, 1) := by decide +kernel
theorem dX0_slopeAt_3 : decode cX0_slopeAt 3 = .ok (.aload_n 1, 1) := by decide +kernel
theorem dX0_slopeAt_4 : decode cX0_slopeAt 4 = .ok (.iload_n 2, 1) := by decide +kernel
theorem dX0_slopeAt_5 : decode cX0_slopeAt 5 = .ok (.iconst 1, 1) := by decide +kernel
theorem dX0_slopeAt_6 : decode cX0_slopeAt 6 = .ok (.isub, 1) := by decide +kernel
theorem dX0_slopeAt_7 : decode cX0_slopeAt 7 = .ok (.daload, 1) := by decide +kernel
theorem dX0_slopeAt_8 : decode cX0_slopeAt 8 = .ok (.dsub, 1) := by decide +kernel
theorem dX0_slopeAt_9 : decode cX0_slopeAt 9 = .ok (.dstore 4, 2) := by decide +kernel
theorem dX0_slopeAt_11 : decode cX0_slopeAt 11 = .ok (.aload_n 1, 1) := by decide +kernel
theorem dX0_slopeAt_12 : decode cX0_slopeAt 12 = .ok (.iload_n 2, 1) := by decide +kernel
theorem dX0_slopeAt_13 : decode cX0_slopeAt 13 = .ok (.iconst 1, 1) := by decide +kernel
theorem dX0_slopeAt_14 : decode cX0_slopeAt 14 = .ok (.iadd, 1) := by decide +kernel
theorem dX0_slopeAt_15 : decode cX0_slopeAt 15 = .ok (.daload, 1) := by decide +kernel
theorem dX0_slopeAt_16 : decode cX0_slopeAt 16 = .ok (.aload_n 1, 1) := by decide +kernel
theorem dX0_slopeAt_17 : decode cX0_slopeAt 17 = .ok (.iload_n 2, 1) := by decide +kernel
theorem dX0_slopeAt_18 : decode cX0_slopeAt 18 = .ok (.daload, 1) := by decide +kernel
theorem dX0_slopeAt_19 : decode cX0_slopeAt 19 = .ok (.dsub, 1) := by decide +kernel
theorem dX0_slopeAt_20 : decode cX0_slopeAt 20 = .ok (.dstore 6, 2) := by decide +kernel
theorem dX0_slopeAt_22 : decode cX0_slopeAt 22 = .ok (.iload_n 3, 1) := by decide +kernel
theorem dX0_slopeAt_23 : decode cX0_slopeAt 23 = .ok (.ifCond .eq 13, 3) := by decide +kernel
theorem dX0_slopeAt_26 : decode cX0_slopeAt 26 = .ok (.dload 4, 2) := by decide +kernel
theorem dX0_slopeAt_28 : decode cX0_slopeAt 28 = .ok (.dload 6, 2) := by decide +kernel
theorem dX0_slopeAt_30 : decode cX0_slopeAt 30 = .ok (.dmul, 1) := by decide +kernel
theorem dX0_slopeAt_31 : decode cX0_slopeAt 31 = .ok (.dconst 0, 1) := by decide +kernel
theorem dX0_slopeAt_32 : decode cX0_slopeAt 32 = .ok (.dcmp .l, 1) := by decide +kernel
theorem dX0_slopeAt_33 : decode cX0_slopeAt 33 = .ok (.ifCond .gt 5, 3) := by decide +kernel
theorem dX0_slopeAt_36 : decode cX0_slopeAt 36 = .ok (.dconst 0, 1) := by decide +kernel
theorem dX0_slopeAt_37 : decode cX0_slopeAt 37 = .ok (.dreturn, 1) := by decide +kernel
theorem dX0_slopeAt_38 : decode cX0_slopeAt 38 = .ok (.iload_n 3, 1) := by decide +kernel
theorem dX0_slopeAt_39 : decode cX0_slopeAt 39 = .ok (.lookupswitch 59 #[(1, 25), (2, 33)], 25) := by decide +kernel
theorem dX0_slopeAt_64 : decode cX0_slopeAt 64 = .ok (.dload 4, 2) := by decide +kernel
theorem dX0_slopeAt_66 : decode cX0_slopeAt 66 = .ok (.dload 6, 2) := by decide +kernel
theorem dX0_slopeAt_68 : decode cX0_slopeAt 68 = .ok (.invokestatic 68, 3) := by decide +kernel
theorem dX0_slopeAt_71 : decode cX0_slopeAt 71 = .ok (.dreturn, 1) := by decide +kernel
theorem dX0_slopeAt_72 : decode cX0_slopeAt 72 = .ok (.ldc2_w 72, 3) := by decide +kernel
theorem dX0_slopeAt_75 : decode cX0_slopeAt 75 = .ok (.dload 4, 2) := by decide +kernel
theorem dX0_slopeAt_77 : decode cX0_slopeAt 77 = .ok (.dmul, 1) := by decide +kernel
theorem dX0_slopeAt_78 : decode cX0_slopeAt 78 = .ok (.dload 6, 2) := by decide +kernel
theorem dX0_slopeAt_80 : decode cX0_slopeAt 80 = .ok (.invokestatic 68, 3) := by decide +kernel
theorem dX0_slopeAt_83 : decode cX0_slopeAt 83 = .ok (.dload 4, 2) := by decide +kernel
theorem dX0_slopeAt_85 : decode cX0_slopeAt 85 = .ok (.ldc2_w 72, 3) := by decide +kernel
theorem dX0_slopeAt_88 : decode cX0_slopeAt 88 = .ok (.dload 6, 2) := by decide +kernel
theorem dX0_slopeAt_90 : decode cX0_slopeAt 90 = .ok (.dmul, 1) := by decide +kernel
theorem dX0_slopeAt_91 : decode cX0_slopeAt 91 = .ok (.invokestatic 68, 3) := by decide +kernel
theorem dX0_slopeAt_94 : decode cX0_slopeAt 94 = .ok (.invokestatic 74, 3) := by decide +kernel
theorem dX0_slopeAt_97 : decode cX0_slopeAt 97 = .ok (.dreturn, 1) := by decide +kernel
theorem dX0_slopeAt_98 : decode cX0_slopeAt 98 = .ok (.ldc2_w 72, 3) := by decide +kernel
theorem dX0_slopeAt_101 : decode cX0_slopeAt 101 = .ok (.dload 4, 2) := by decide +kernel
theorem dX0_slopeAt_103 : decode cX0_slopeAt 103 = .ok (.dmul, 1) := by decide +kernel
theorem dX0_slopeAt_104 : decode cX0_slopeAt 104 = .ok (.dload 6, 2) := by decide +kernel
theorem dX0_slopeAt_106 : decode cX0_slopeAt 106 = .ok (.dmul, 1) := by decide +kernel
theorem dX0_slopeAt_107 : decode cX0_slopeAt 107 = .ok (.dload 4, 2) := by decide +kernel
theorem dX0_slopeAt_109 : decode cX0_slopeAt 109 = .ok (.dload 6, 2) := by decide +kernel
theorem dX0_slopeAt_111 : decode cX0_slopeAt 111 = .ok (.dadd, 1) := by decide +kernel
theorem dX0_slopeAt_112 : decode cX0_slopeAt 112 = .ok (.ddiv, 1) := by decide +kernel
theorem dX0_slopeAt_113 : decode cX0_slopeAt 113 = .ok (.dreturn, 1) := by decide +kernel
theorem dX0_nearer_0 : decode cX0_nearer 0 = .ok (.dload_n 0, 1) := by decide +kernel
theorem dX0_nearer_1 : decode cX0_nearer 1 = .ok (.dconst 0, 1) := by decide +kernel
theorem dX0_nearer_2 : decode cX0_nearer 2 = .ok (.dcmp .g, 1) := by decide +kernel
theorem dX0_nearer_3 : decode cX0_nearer 3 = .ok (.ifCond .ge 12, 3) := by decide +kernel
theorem dX0_nearer_6 : decode cX0_nearer 6 = .ok (.dload_n 0, 1) := by decide +kernel
theorem dX0_nearer_7 : decode cX0_nearer 7 = .ok (.dload_n 2, 1) := by decide +kernel
theorem dX0_nearer_8 : decode cX0_nearer 8 = .ok (.dcmp .l, 1) := by decide +kernel
theorem dX0_nearer_9 : decode cX0_nearer 9 = .ok (.ifCond .lt 16, 3) := by decide +kernel
theorem dX0_nearer_12 : decode cX0_nearer 12 = .ok (.goto 9, 3) := by decide +kernel
theorem dX0_nearer_15 : decode cX0_nearer 15 = .ok (.dload_n 0, 1) := by decide +kernel
theorem dX0_nearer_16 : decode cX0_nearer 16 = .ok (.dload_n 2, 1) := by decide +kernel
theorem dX0_nearer_17 : decode cX0_nearer 17 = .ok (.dcmp .g, 1) := by decide +kernel
theorem dX0_nearer_18 : decode cX0_nearer 18 = .ok (.ifCond .gt 7, 3) := by decide +kernel
theorem dX0_nearer_21 : decode cX0_nearer 21 = .ok (.dload_n 0, 1) := by decide +kernel
theorem dX0_nearer_22 : decode cX0_nearer 22 = .ok (.goto 4, 3) := by decide +kernel
theorem dX0_nearer_25 : decode cX0_nearer 25 = .ok (.dload_n 2, 1) := by decide +kernel
theorem dX0_nearer_26 : decode cX0_nearer 26 = .ok (.dreturn, 1) := by decide +kernel
theorem dX0_farther_0 : decode cX0_farther 0 = .ok (.dload_n 0, 1) := by decide +kernel
theorem dX0_farther_1 : decode cX0_farther 1 = .ok (.dconst 0, 1) := by decide +kernel
theorem dX0_farther_2 : decode cX0_farther 2 = .ok (.dcmp .g, 1) := by decide +kernel
theorem dX0_farther_3 : decode cX0_farther 3 = .ok (.ifCond .ge 12, 3) := by decide +kernel
theorem dX0_farther_6 : decode cX0_farther 6 = .ok (.dload_n 0, 1) := by decide +kernel
theorem dX0_farther_7 : decode cX0_farther 7 = .ok (.dload_n 2, 1) := by decide +kernel
theorem dX0_farther_8 : decode cX0_farther 8 = .ok (.dcmp .g, 1) := by decide +kernel
theorem dX0_farther_9 : decode cX0_farther 9 = .ok (.ifCond .gt 16, 3) := by decide +kernel
theorem dX0_farther_12 : decode cX0_farther 12 = .ok (.goto 9, 3) := by decide +kernel
theorem dX0_farther_15 : decode cX0_farther 15 = .ok (.dload_n 0, 1) := by decide +kernel
theorem dX0_farther_16 : decode cX0_farther 16 = .ok (.dload_n 2, 1) := by decide +kernel
theorem dX0_farther_17 : decode cX0_farther 17 = .ok (.dcmp .l, 1) := by decide +kernel
theorem dX0_farther_18 : decode cX0_farther 18 = .ok (.ifCond .lt 7, 3) := by decide +kernel
theorem dX0_farther_21 : decode cX0_farther 21 = .ok (.dload_n 0, 1) := by decide +kernel
theorem dX0_farther_22 : decode cX0_farther 22 = .ok (.goto 4, 3) := by decide +kernel
theorem dX0_farther_25 : decode cX0_farther 25 = .ok (.dload_n 2, 1) := by decide +kernel
theorem dX0_farther_26 : decode cX0_farther 26 = .ok (.dreturn, 1) := by decide +kernel
set_option maxRecDepth 20000 in
theorem ggX0_guess_X2_become : GoodIn wsX0_guess wsX2_become := goodIn_r _ [12, 13, 14, 15, 16, 17, 18, 19, 20, 21, 22, 32, 33, 34, 35] (by decide +kernel) (by decide +kernel)
set_option maxRecDepth 20000 in
theorem gX0_guess_X2_become : GoodIn wsX0_guess (wsV RX0 77 RX2 yX2_become wsX2_become) := goodIn_app (goodIn_of _ (by decide +kernel)) ggX0_guess_X2_become
theorem dX0_guess_0 : decode cX0_guess 0 = .ok (.iconst 2, 1) := by decide +kernel
theorem dX0_guess_1 : decode cX0_guess 1 = .ok (.iload_n 2, 1) := by decide +kernel
theorem dX0_guess_2 : decode cX0_guess 2 = .ok (.iadd, 1) := by decide +kernel
theorem dX0_guess_3 : decode cX0_guess 3 = .ok (.iconst 1, 1) := by decide +kernel
theorem dX0_guess_4 : decode cX0_guess 4 = .ok (.isub, 1) := by decide +kernel
theorem dX0_guess_5 : decode cX0_guess 5 = .ok (.istore_n 3, 1) := by decide +kernel
theorem dX0_guess_6 : decode cX0_guess 6 = .ok (.iconst 2, 1) := by decide +kernel
theorem dX0_guess_7 : decode cX0_guess 7 = .ok (.iload_n 2, 1) := by decide +kernel
theorem dX0_guess_8 : decode cX0_guess 8 = .ok (.iadd, 1) := by decide +kernel
theorem dX0_guess_9 : decode cX0_guess 9 = .ok (.istore 4, 2) := by decide +kernel
theorem dX0_guess_11 : decode cX0_guess 11 = .ok (.aload_n 0, 1) := by decide +kernel
theorem dX0_guess_12 : decode cX0_guess 12 = .ok (.getfield 27, 3) := by decide +kernel
theorem dX0_guess_15 : decode cX0_guess 15 = .ok (.aload_n 1, 1) := by decide +kernel
theorem dX0_guess_16 : decode cX0_guess 16 = .ok (.getfield 54, 3) := by decide +kernel
theorem dX0_guess_19 : decode cX0_guess 19 = .ok (.iload_n 3, 1) := by decide +kernel
theorem dX0_guess_20 : decode cX0_guess 20 = .ok (.daload, 1) := by decide +kernel
theorem dX0_guess_21 : decode cX0_guess 21 = .ok (.ldc2_w 61, 3) := by decide +kernel
theorem dX0_guess_24 : decode cX0_guess 24 = .ok (.aload_n 0, 1) := by decide +kernel
theorem dX0_guess_25 : decode cX0_guess 25 = .ok (.getfield 9, 3) := by decide +kernel
theorem dX0_guess_28 : decode cX0_guess 28 = .ok (.iload_n 3, 1) := by decide +kernel
theorem dX0_guess_29 : decode cX0_guess 29 = .ok (.daload, 1) := by decide +kernel
theorem dX0_guess_30 : decode cX0_guess 30 = .ok (.dmul, 1) := by decide +kernel
theorem dX0_guess_31 : decode cX0_guess 31 = .ok (.dadd, 1) := by decide +kernel
theorem dX0_guess_32 : decode cX0_guess 32 = .ok (.aload_n 1, 1) := by decide +kernel
theorem dX0_guess_33 : decode cX0_guess 33 = .ok (.getfield 65, 3) := by decide +kernel
theorem dX0_guess_36 : decode cX0_guess 36 = .ok (.iload_n 3, 1) := by decide +kernel
theorem dX0_guess_37 : decode cX0_guess 37 = .ok (.daload, 1) := by decide +kernel
theorem dX0_guess_38 : decode cX0_guess 38 = .ok (.ldc2_w 61, 3) := by decide +kernel
theorem dX0_guess_41 : decode cX0_guess 41 = .ok (.aload_n 0, 1) := by decide +kernel
theorem dX0_guess_42 : decode cX0_guess 42 = .ok (.getfield 15, 3) := by decide +kernel
theorem dX0_guess_45 : decode cX0_guess 45 = .ok (.iload_n 3, 1) := by decide +kernel
theorem dX0_guess_46 : decode cX0_guess 46 = .ok (.daload, 1) := by decide +kernel
theorem dX0_guess_47 : decode cX0_guess 47 = .ok (.dmul, 1) := by decide +kernel
theorem dX0_guess_48 : decode cX0_guess 48 = .ok (.dadd, 1) := by decide +kernel
theorem dX0_guess_49 : decode cX0_guess 49 = .ok (.invokevirtual 77, 3) := by decide +kernel
theorem dX0_guess_52 : decode cX0_guess 52 = .ok (.aload_n 0, 1) := by decide +kernel
theorem dX0_guess_53 : decode cX0_guess 53 = .ok (.getfield 31, 3) := by decide +kernel
theorem dX0_guess_56 : decode cX0_guess 56 = .ok (.aload_n 1, 1) := by decide +kernel
theorem dX0_guess_57 : decode cX0_guess 57 = .ok (.getfield 54, 3) := by decide +kernel
theorem dX0_guess_60 : decode cX0_guess 60 = .ok (.iload 4, 2) := by decide +kernel
theorem dX0_guess_62 : decode cX0_guess 62 = .ok (.daload, 1) := by decide +kernel
theorem dX0_guess_63 : decode cX0_guess 63 = .ok (.ldc2_w 61, 3) := by decide +kernel
theorem dX0_guess_66 : decode cX0_guess 66 = .ok (.aload_n 0, 1) := by decide +kernel
theorem dX0_guess_67 : decode cX0_guess 67 = .ok (.getfield 9, 3) := by decide +kernel
theorem dX0_guess_70 : decode cX0_guess 70 = .ok (.iload 4, 2) := by decide +kernel
theorem dX0_guess_72 : decode cX0_guess 72 = .ok (.daload, 1) := by decide +kernel
theorem dX0_guess_73 : decode cX0_guess 73 = .ok (.dmul, 1) := by decide +kernel
theorem dX0_guess_74 : decode cX0_guess 74 = .ok (.dsub, 1) := by decide +kernel
theorem dX0_guess_75 : decode cX0_guess 75 = .ok (.aload_n 1, 1) := by decide +kernel
theorem dX0_guess_76 : decode cX0_guess 76 = .ok (.getfield 65, 3) := by decide +kernel
theorem dX0_guess_79 : decode cX0_guess 79 = .ok (.iload 4, 2) := by decide +kernel
theorem dX0_guess_81 : decode cX0_guess 81 = .ok (.daload, 1) := by decide +kernel
theorem dX0_guess_82 : decode cX0_guess 82 = .ok (.ldc2_w 61, 3) := by decide +kernel
theorem dX0_guess_85 : decode cX0_guess 85 = .ok (.aload_n 0, 1) := by decide +kernel
theorem dX0_guess_86 : decode cX0_guess 86 = .ok (.getfield 15, 3) := by decide +kernel
theorem dX0_guess_89 : decode cX0_guess 89 = .ok (.iload 4, 2) := by decide +kernel
theorem dX0_guess_91 : decode cX0_guess 91 = .ok (.daload, 1) := by decide +kernel
theorem dX0_guess_92 : decode cX0_guess 92 = .ok (.dmul, 1) := by decide +kernel
theorem dX0_guess_93 : decode cX0_guess 93 = .ok (.dsub, 1) := by decide +kernel
theorem dX0_guess_94 : decode cX0_guess 94 = .ok (.invokevirtual 77, 3) := by decide +kernel
theorem dX0_guess_97 : decode cX0_guess 97 = .ok (.return_, 1) := by decide +kernel
set_option maxRecDepth 20000 in
theorem ggX0_solveBroad_X2_reach : GoodIn wsX0_solveBroad wsX2_reach := goodIn_r _ [12, 13, 14, 15, 16, 17, 37, 38, 39, 40] (by decide +kernel) (by decide +kernel)
set_option maxRecDepth 20000 in
theorem gX0_solveBroad_X2_reach : GoodIn wsX0_solveBroad (wsV RX0 81 RX2 yX2_reach wsX2_reach) := goodIn_app (goodIn_of _ (by decide +kernel)) ggX0_solveBroad_X2_reach
set_option maxRecDepth 20000 in
theorem ggX0_solveBroad_X3_greater : GoodIn wsX0_solveBroad wsX3_greater := goodIn_r _ [19] (by decide +kernel) (by decide +kernel)
set_option maxRecDepth 20000 in
theorem gX0_solveBroad_X3_greater_n85 : GoodIn wsX0_solveBroad (wsX3_greater) := ggX0_solveBroad_X3_greater
set_option maxRecDepth 20000 in
theorem ggX0_solveBroad_X2_depthFlux : GoodIn wsX0_solveBroad wsX2_depthFlux := goodIn_r _ [23, 24, 37, 38, 39, 40] (by decide +kernel) (by decide +kernel)
set_option maxRecDepth 20000 in
theorem gX0_solveBroad_X2_depthFlux : GoodIn wsX0_solveBroad (wsV RX0 88 RX2 yX2_depthFlux wsX2_depthFlux) := goodIn_app (goodIn_of _ (by decide +kernel)) ggX0_solveBroad_X2_depthFlux
set_option maxRecDepth 20000 in
theorem ggX0_solveBroad_X2_momentumFlux : GoodIn wsX0_solveBroad wsX2_momentumFlux := goodIn_r _ [28, 24, 13, 29, 30, 37, 38, 39, 40] (by decide +kernel) (by decide +kernel)
set_option maxRecDepth 20000 in
theorem gX0_solveBroad_X2_momentumFlux : GoodIn wsX0_solveBroad (wsV RX0 95 RX2 yX2_momentumFlux wsX2_momentumFlux) := goodIn_app (goodIn_of _ (by decide +kernel)) ggX0_solveBroad_X2_momentumFlux
theorem dX0_solveBroad_0 : decode cX0_solveBroad 0 = .ok (.aload_n 0, 1) := by decide +kernel
theorem dX0_solveBroad_1 : decode cX0_solveBroad 1 = .ok (.getfield 27, 3) := by decide +kernel
theorem dX0_solveBroad_4 : decode cX0_solveBroad 4 = .ok (.invokevirtual 81, 3) := by decide +kernel
theorem dX0_solveBroad_7 : decode cX0_solveBroad 7 = .ok (.aload_n 0, 1) := by decide +kernel
theorem dX0_solveBroad_8 : decode cX0_solveBroad 8 = .ok (.getfield 31, 3) := by decide +kernel
theorem dX0_solveBroad_11 : decode cX0_solveBroad 11 = .ok (.invokevirtual 81, 3) := by decide +kernel
theorem dX0_solveBroad_14 : decode cX0_solveBroad 14 = .ok (.invokestatic 85, 3) := by decide +kernel
theorem dX0_solveBroad_17 : decode cX0_solveBroad 17 = .ok (.dstore_n 2, 1) := by decide +kernel
theorem dX0_solveBroad_18 : decode cX0_solveBroad 18 = .ok (.aload_n 0, 1) := by decide +kernel
theorem dX0_solveBroad_19 : decode cX0_solveBroad 19 = .ok (.getfield 18, 3) := by decide +kernel
theorem dX0_solveBroad_22 : decode cX0_solveBroad 22 = .ok (.iload_n 1, 1) := by decide +kernel
theorem dX0_solveBroad_23 : decode cX0_solveBroad 23 = .ok (.ldc2_w 61, 3) := by decide +kernel
theorem dX0_solveBroad_26 : decode cX0_solveBroad 26 = .ok (.aload_n 0, 1) := by decide +kernel
theorem dX0_solveBroad_27 : decode cX0_solveBroad 27 = .ok (.getfield 27, 3) := by decide +kernel
theorem dX0_solveBroad_30 : decode cX0_solveBroad 30 = .ok (.invokevirtual 88, 3) := by decide +kernel
theorem dX0_solveBroad_33 : decode cX0_solveBroad 33 = .ok (.aload_n 0, 1) := by decide +kernel
theorem dX0_solveBroad_34 : decode cX0_solveBroad 34 = .ok (.getfield 31, 3) := by decide +kernel
theorem dX0_solveBroad_37 : decode cX0_solveBroad 37 = .ok (.invokevirtual 88, 3) := by decide +kernel
theorem dX0_solveBroad_40 : decode cX0_solveBroad 40 = .ok (.dadd, 1) := by decide +kernel
theorem dX0_solveBroad_41 : decode cX0_solveBroad 41 = .ok (.dmul, 1) := by decide +kernel
theorem dX0_solveBroad_42 : decode cX0_solveBroad 42 = .ok (.ldc2_w 61, 3) := by decide +kernel
theorem dX0_solveBroad_45 : decode cX0_solveBroad 45 = .ok (.dload_n 2, 1) := by decide +kernel
theorem dX0_solveBroad_46 : decode cX0_solveBroad 46 = .ok (.dmul, 1) := by decide +kernel
theorem dX0_solveBroad_47 : decode cX0_solveBroad 47 = .ok (.aload_n 0, 1) := by decide +kernel
theorem dX0_solveBroad_48 : decode cX0_solveBroad 48 = .ok (.getfield 31, 3) := by decide +kernel
theorem dX0_solveBroad_51 : decode cX0_solveBroad 51 = .ok (.getfield 91, 3) := by decide +kernel
theorem dX0_solveBroad_54 : decode cX0_solveBroad 54 = .ok (.aload_n 0, 1) := by decide +kernel
theorem dX0_solveBroad_55 : decode cX0_solveBroad 55 = .ok (.getfield 27, 3) := by decide +kernel
theorem dX0_solveBroad_58 : decode cX0_solveBroad 58 = .ok (.getfield 91, 3) := by decide +kernel
theorem dX0_solveBroad_61 : decode cX0_solveBroad 61 = .ok (.dsub, 1) := by decide +kernel
theorem dX0_solveBroad_62 : decode cX0_solveBroad 62 = .ok (.dmul, 1) := by decide +kernel
theorem dX0_solveBroad_63 : decode cX0_solveBroad 63 = .ok (.dsub, 1) := by decide +kernel
theorem dX0_solveBroad_64 : decode cX0_solveBroad 64 = .ok (.dastore, 1) := by decide +kernel
theorem dX0_solveBroad_65 : decode cX0_solveBroad 65 = .ok (.aload_n 0, 1) := by decide +kernel
theorem dX0_solveBroad_66 : decode cX0_solveBroad 66 = .ok (.getfield 21, 3) := by decide +kernel
theorem dX0_solveBroad_69 : decode cX0_solveBroad 69 = .ok (.iload_n 1, 1) := by decide +kernel
theorem dX0_solveBroad_70 : decode cX0_solveBroad 70 = .ok (.ldc2_w 61, 3) := by decide +kernel
theorem dX0_solveBroad_73 : decode cX0_solveBroad 73 = .ok (.aload_n 0, 1) := by decide +kernel
theorem dX0_solveBroad_74 : decode cX0_solveBroad 74 = .ok (.getfield 27, 3) := by decide +kernel
theorem dX0_solveBroad_77 : decode cX0_solveBroad 77 = .ok (.invokevirtual 95, 3) := by decide +kernel
theorem dX0_solveBroad_80 : decode cX0_solveBroad 80 = .ok (.aload_n 0, 1) := by decide +kernel
theorem dX0_solveBroad_81 : decode cX0_solveBroad 81 = .ok (.getfield 31, 3) := by decide +kernel
theorem dX0_solveBroad_84 : decode cX0_solveBroad 84 = .ok (.invokevirtual 95, 3) := by decide +kernel
theorem dX0_solveBroad_87 : decode cX0_solveBroad 87 = .ok (.dadd, 1) := by decide +kernel
theorem dX0_solveBroad_88 : decode cX0_solveBroad 88 = .ok (.dmul, 1) := by decide +kernel
theorem dX0_solveBroad_89 : decode cX0_solveBroad 89 = .ok (.ldc2_w 61, 3) := by decide +kernel
theorem dX0_solveBroad_92 : decode cX0_solveBroad 92 = .ok (.dload_n 2, 1) := by decide +kernel
theorem dX0_solveBroad_93 : decode cX0_solveBroad 93 = .ok (.dmul, 1) := by decide +kernel
theorem dX0_solveBroad_94 : decode cX0_solveBroad 94 = .ok (.aload_n 0, 1) := by decide +kernel
theorem dX0_solveBroad_95 : decode cX0_solveBroad 95 = .ok (.getfield 31, 3) := by decide +kernel
theorem dX0_solveBroad_98 : decode cX0_solveBroad 98 = .ok (.getfield 98, 3) := by decide +kernel
theorem dX0_solveBroad_101 : decode cX0_solveBroad 101 = .ok (.aload_n 0, 1) := by decide +kernel
theorem dX0_solveBroad_102 : decode cX0_solveBroad 102 = .ok (.getfield 27, 3) := by decide +kernel
theorem dX0_solveBroad_105 : decode cX0_solveBroad 105 = .ok (.getfield 98, 3) := by decide +kernel
theorem dX0_solveBroad_108 : decode cX0_solveBroad 108 = .ok (.dsub, 1) := by decide +kernel
theorem dX0_solveBroad_109 : decode cX0_solveBroad 109 = .ok (.dmul, 1) := by decide +kernel
theorem dX0_solveBroad_110 : decode cX0_solveBroad 110 = .ok (.dsub, 1) := by decide +kernel
theorem dX0_solveBroad_111 : decode cX0_solveBroad 111 = .ok (.dastore, 1) := by decide +kernel
theorem dX0_solveBroad_112 : decode cX0_solveBroad 112 = .ok (.return_, 1) := by decide +kernel
set_option maxRecDepth 20000 in
theorem ggX0_solveNarrow_X3_lesser : GoodIn wsX0_solveNarrow wsX3_lesser := goodIn_r _ [11] (by decide +kernel) (by decide +kernel)
set_option maxRecDepth 20000 in
theorem gX0_solveNarrow_X3_lesser_n107 : GoodIn wsX0_solveNarrow (wsX3_lesser) := ggX0_solveNarrow_X3_lesser
set_option maxRecDepth 20000 in
theorem ggX0_solveNarrow_X3_greater : GoodIn wsX0_solveNarrow wsX3_greater := goodIn_r _ [13] (by decide +kernel) (by decide +kernel)
set_option maxRecDepth 20000 in
theorem gX0_solveNarrow_X3_greater_n85 : GoodIn wsX0_solveNarrow (wsX3_greater) := ggX0_solveNarrow_X3_greater
set_option maxRecDepth 20000 in
theorem ggX0_solveNarrow_X2_depthFlux : GoodIn wsX0_solveNarrow wsX2_depthFlux := goodIn_r _ [18, 19, 37, 38, 39, 40] (by decide +kernel) (by decide +kernel)
set_option maxRecDepth 20000 in
theorem gX0_solveNarrow_X2_depthFlux : GoodIn wsX0_solveNarrow (wsV RX0 88 RX2 yX2_depthFlux wsX2_depthFlux) := goodIn_app (goodIn_of _ (by decide +kernel)) ggX0_solveNarrow_X2_depthFlux
set_option maxRecDepth 20000 in
theorem ggX0_solveNarrow_X0_blend : GoodIn wsX0_solveNarrow wsX0_blend := goodIn_r _ [23] (by decide +kernel) (by decide +kernel)
set_option maxRecDepth 20000 in
theorem gX0_solveNarrow_X0_blend : GoodIn wsX0_solveNarrow (va_wsS RX0 110 yX0_blend wsX0_blend) := goodIn_app (goodIn_of _ (by decide +kernel)) ggX0_solveNarrow_X0_blend
set_option maxRecDepth 20000 in
theorem ggX0_solveNarrow_X2_momentumFlux : GoodIn wsX0_solveNarrow wsX2_momentumFlux := goodIn_r _ [27, 19, 28, 29, 30, 37, 38, 39, 40] (by decide +kernel) (by decide +kernel)
set_option maxRecDepth 20000 in
theorem gX0_solveNarrow_X2_momentumFlux : GoodIn wsX0_solveNarrow (wsV RX0 95 RX2 yX2_momentumFlux wsX2_momentumFlux) := goodIn_app (goodIn_of _ (by decide +kernel)) ggX0_solveNarrow_X2_momentumFlux
theorem dX0_solveNarrow_0 : decode cX0_solveNarrow 0 = .ok (.aload_n 0, 1) := by decide +kernel
theorem dX0_solveNarrow_1 : decode cX0_solveNarrow 1 = .ok (.getfield 27, 3) := by decide +kernel
theorem dX0_solveNarrow_4 : decode cX0_solveNarrow 4 = .ok (.getfield 101, 3) := by decide +kernel
theorem dX0_solveNarrow_7 : decode cX0_solveNarrow 7 = .ok (.aload_n 0, 1) := by decide +kernel
theorem dX0_solveNarrow_8 : decode cX0_solveNarrow 8 = .ok (.getfield 27, 3) := by decide +kernel
theorem dX0_solveNarrow_11 : decode cX0_solveNarrow 11 = .ok (.getfield 104, 3) := by decide +kernel
theorem dX0_solveNarrow_14 : decode cX0_solveNarrow 14 = .ok (.dsub, 1) := by decide +kernel
theorem dX0_solveNarrow_15 : decode cX0_solveNarrow 15 = .ok (.aload_n 0, 1) := by decide +kernel
theorem dX0_solveNarrow_16 : decode cX0_solveNarrow 16 = .ok (.getfield 31, 3) := by decide +kernel
theorem dX0_solveNarrow_19 : decode cX0_solveNarrow 19 = .ok (.getfield 101, 3) := by decide +kernel
theorem dX0_solveNarrow_22 : decode cX0_solveNarrow 22 = .ok (.aload_n 0, 1) := by decide +kernel
theorem dX0_solveNarrow_23 : decode cX0_solveNarrow 23 = .ok (.getfield 31, 3) := by decide +kernel
theorem dX0_solveNarrow_26 : decode cX0_solveNarrow 26 = .ok (.getfield 104, 3) := by decide +kernel
theorem dX0_solveNarrow_29 : decode cX0_solveNarrow 29 = .ok (.dsub, 1) := by decide +kernel
theorem dX0_solveNarrow_30 : decode cX0_solveNarrow 30 = .ok (.invokestatic 107, 3) := by decide +kernel
theorem dX0_solveNarrow_33 : decode cX0_solveNarrow 33 = .ok (.dstore_n 2, 1) := by decide +kernel
theorem dX0_solveNarrow_34 : decode cX0_solveNarrow 34 = .ok (.aload_n 0, 1) := by decide +kernel
theorem dX0_solveNarrow_35 : decode cX0_solveNarrow 35 = .ok (.getfield 27, 3) := by decide +kernel
theorem dX0_solveNarrow_38 : decode cX0_solveNarrow 38 = .ok (.getfield 101, 3) := by decide +kernel
theorem dX0_solveNarrow_41 : decode cX0_solveNarrow 41 = .ok (.aload_n 0, 1) := by decide +kernel
theorem dX0_solveNarrow_42 : decode cX0_solveNarrow 42 = .ok (.getfield 27, 3) := by decide +kernel
theorem dX0_solveNarrow_45 : decode cX0_solveNarrow 45 = .ok (.getfield 104, 3) := by decide +kernel
theorem dX0_solveNarrow_48 : decode cX0_solveNarrow 48 = .ok (.dadd, 1) := by decide +kernel
theorem dX0_solveNarrow_49 : decode cX0_solveNarrow 49 = .ok (.aload_n 0, 1) := by decide +kernel
theorem dX0_solveNarrow_50 : decode cX0_solveNarrow 50 = .ok (.getfield 31, 3) := by decide +kernel
theorem dX0_solveNarrow_53 : decode cX0_solveNarrow 53 = .ok (.getfield 101, 3) := by decide +kernel
theorem dX0_solveNarrow_56 : decode cX0_solveNarrow 56 = .ok (.aload_n 0, 1) := by decide +kernel
theorem dX0_solveNarrow_57 : decode cX0_solveNarrow 57 = .ok (.getfield 31, 3) := by decide +kernel
theorem dX0_solveNarrow_60 : decode cX0_solveNarrow 60 = .ok (.getfield 104, 3) := by decide +kernel
theorem dX0_solveNarrow_63 : decode cX0_solveNarrow 63 = .ok (.dadd, 1) := by decide +kernel
theorem dX0_solveNarrow_64 : decode cX0_solveNarrow 64 = .ok (.invokestatic 85, 3) := by decide +kernel
theorem dX0_solveNarrow_67 : decode cX0_solveNarrow 67 = .ok (.dstore 4, 2) := by decide +kernel
theorem dX0_solveNarrow_69 : decode cX0_solveNarrow 69 = .ok (.aload_n 0, 1) := by decide +kernel
theorem dX0_solveNarrow_70 : decode cX0_solveNarrow 70 = .ok (.getfield 18, 3) := by decide +kernel
theorem dX0_solveNarrow_73 : decode cX0_solveNarrow 73 = .ok (.iload_n 1, 1) := by decide +kernel
theorem dX0_solveNarrow_74 : decode cX0_solveNarrow 74 = .ok (.dload_n 2, 1) := by decide +kernel
theorem dX0_solveNarrow_75 : decode cX0_solveNarrow 75 = .ok (.dload 4, 2) := by decide +kernel
theorem dX0_solveNarrow_77 : decode cX0_solveNarrow 77 = .ok (.aload_n 0, 1) := by decide +kernel
theorem dX0_solveNarrow_78 : decode cX0_solveNarrow 78 = .ok (.getfield 27, 3) := by decide +kernel
theorem dX0_solveNarrow_81 : decode cX0_solveNarrow 81 = .ok (.invokevirtual 88, 3) := by decide +kernel
theorem dX0_solveNarrow_84 : decode cX0_solveNarrow 84 = .ok (.aload_n 0, 1) := by decide +kernel
theorem dX0_solveNarrow_85 : decode cX0_solveNarrow 85 = .ok (.getfield 31, 3) := by decide +kernel
theorem dX0_solveNarrow_88 : decode cX0_solveNarrow 88 = .ok (.invokevirtual 88, 3) := by decide +kernel
theorem dX0_solveNarrow_91 : decode cX0_solveNarrow 91 = .ok (.aload_n 0, 1) := by decide +kernel
theorem dX0_solveNarrow_92 : decode cX0_solveNarrow 92 = .ok (.getfield 31, 3) := by decide +kernel
theorem dX0_solveNarrow_95 : decode cX0_solveNarrow 95 = .ok (.getfield 91, 3) := by decide +kernel
theorem dX0_solveNarrow_98 : decode cX0_solveNarrow 98 = .ok (.aload_n 0, 1) := by decide +kernel
theorem dX0_solveNarrow_99 : decode cX0_solveNarrow 99 = .ok (.getfield 27, 3) := by decide +kernel
theorem dX0_solveNarrow_102 : decode cX0_solveNarrow 102 = .ok (.getfield 91, 3) := by decide +kernel
theorem dX0_solveNarrow_105 : decode cX0_solveNarrow 105 = .ok (.dsub, 1) := by decide +kernel
theorem dX0_solveNarrow_106 : decode cX0_solveNarrow 106 = .ok (.invokestatic 110, 3) := by decide +kernel
theorem dX0_solveNarrow_109 : decode cX0_solveNarrow 109 = .ok (.dastore, 1) := by decide +kernel
theorem dX0_solveNarrow_110 : decode cX0_solveNarrow 110 = .ok (.aload_n 0, 1) := by decide +kernel
theorem dX0_solveNarrow_111 : decode cX0_solveNarrow 111 = .ok (.getfield 21, 3) := by decide +kernel
theorem dX0_solveNarrow_114 : decode cX0_solveNarrow 114 = .ok (.iload_n 1, 1) := by decide +kernel
theorem dX0_solveNarrow_115 : decode cX0_solveNarrow 115 = .ok (.dload_n 2, 1) := by decide +kernel
theorem dX0_solveNarrow_116 : decode cX0_solveNarrow 116 = .ok (.dload 4, 2) := by decide +kernel
theorem dX0_solveNarrow_118 : decode cX0_solveNarrow 118 = .ok (.aload_n 0, 1) := by decide +kernel
theorem dX0_solveNarrow_119 : decode cX0_solveNarrow 119 = .ok (.getfield 27, 3) := by decide +kernel
theorem dX0_solveNarrow_122 : decode cX0_solveNarrow 122 = .ok (.invokevirtual 95, 3) := by decide +kernel
theorem dX0_solveNarrow_125 : decode cX0_solveNarrow 125 = .ok (.aload_n 0, 1) := by decide +kernel
theorem dX0_solveNarrow_126 : decode cX0_solveNarrow 126 = .ok (.getfield 31, 3) := by decide +kernel
theorem dX0_solveNarrow_129 : decode cX0_solveNarrow 129 = .ok (.invokevirtual 95, 3) := by decide +kernel
theorem dX0_solveNarrow_132 : decode cX0_solveNarrow 132 = .ok (.aload_n 0, 1) := by decide +kernel
theorem dX0_solveNarrow_133 : decode cX0_solveNarrow 133 = .ok (.getfield 31, 3) := by decide +kernel
theorem dX0_solveNarrow_136 : decode cX0_solveNarrow 136 = .ok (.getfield 98, 3) := by decide +kernel
theorem dX0_solveNarrow_139 : decode cX0_solveNarrow 139 = .ok (.aload_n 0, 1) := by decide +kernel
theorem dX0_solveNarrow_140 : decode cX0_solveNarrow 140 = .ok (.getfield 27, 3) := by decide +kernel
theorem dX0_solveNarrow_143 : decode cX0_solveNarrow 143 = .ok (.getfield 98, 3) := by decide +kernel
theorem dX0_solveNarrow_146 : decode cX0_solveNarrow 146 = .ok (.dsub, 1) := by decide +kernel
theorem dX0_solveNarrow_147 : decode cX0_solveNarrow 147 = .ok (.invokestatic 110, 3) := by decide +kernel
theorem dX0_solveNarrow_150 : decode cX0_solveNarrow 150 = .ok (.dastore, 1) := by decide +kernel
theorem dX0_solveNarrow_151 : decode cX0_solveNarrow 151 = .ok (.return_, 1) := by decide +kernel
theorem dX0_blend_0 : decode cX0_blend 0 = .ok (.dload_n 0, 1) := by decide +kernel
theorem dX0_blend_1 : decode cX0_blend 1 = .ok (.dconst 0, 1) := by decide +kernel
theorem dX0_blend_2 : decode cX0_blend 2 = .ok (.dcmp .g, 1) := by decide +kernel
theorem dX0_blend_3 : decode cX0_blend 3 = .ok (.ifCond .lt 6, 3) := by decide +kernel
theorem dX0_blend_6 : decode cX0_blend 6 = .ok (.dload 4, 2) := by decide +kernel
theorem dX0_blend_8 : decode cX0_blend 8 = .ok (.dreturn, 1) := by decide +kernel
theorem dX0_blend_9 : decode cX0_blend 9 = .ok (.dload_n 2, 1) := by decide +kernel
theorem dX0_blend_10 : decode cX0_blend 10 = .ok (.dconst 0, 1) := by decide +kernel
theorem dX0_blend_11 : decode cX0_blend 11 = .ok (.dcmp .l, 1) := by decide +kernel
theorem dX0_blend_12 : decode cX0_blend 12 = .ok (.ifCond .gt 6, 3) := by decide +kernel
theorem dX0_blend_15 : decode cX0_blend 15 = .ok (.dload 6, 2) := by decide +kernel
theorem dX0_blend_17 : decode cX0_blend 17 = .ok (.dreturn, 1) := by decide +kernel
theorem dX0_blend_18 : decode cX0_blend 18 = .ok (.dload_n 2, 1) := by decide +kernel
theorem dX0_blend_19 : decode cX0_blend 19 = .ok (.dload 4, 2) := by decide +kernel
theorem dX0_blend_21 : decode cX0_blend 21 = .ok (.dmul, 1) := by decide +kernel
theorem dX0_blend_22 : decode cX0_blend 22 = .ok (.dload_n 0, 1) := by decide +kernel
theorem dX0_blend_23 : decode cX0_blend 23 = .ok (.dload 6, 2) := by decide +kernel
theorem dX0_blend_25 : decode cX0_blend 25 = .ok (.dmul, 1) := by decide +kernel
theorem dX0_blend_26 : decode cX0_blend 26 = .ok (.dsub, 1) := by decide +kernel
theorem dX0_blend_27 : decode cX0_blend 27 = .ok (.dload_n 0, 1) := by decide +kernel
theorem dX0_blend_28 : decode cX0_blend 28 = .ok (.dload_n 2, 1) := by decide +kernel
theorem dX0_blend_29 : decode cX0_blend 29 = .ok (.dmul, 1) := by decide +kernel
theorem dX0_blend_30 : decode cX0_blend 30 = .ok (.dload 8, 2) := by decide +kernel
theorem dX0_blend_32 : decode cX0_blend 32 = .ok (.dmul, 1) := by decide +kernel
theorem dX0_blend_33 : decode cX0_blend 33 = .ok (.dadd, 1) := by decide +kernel
theorem dX0_blend_34 : decode cX0_blend 34 = .ok (.dload_n 2, 1) := by decide +kernel
theorem dX0_blend_35 : decode cX0_blend 35 = .ok (.dload_n 0, 1) := by decide +kernel
theorem dX0_blend_36 : decode cX0_blend 36 = .ok (.dsub, 1) := by decide +kernel
theorem dX0_blend_37 : decode cX0_blend 37 = .ok (.ddiv, 1) := by decide +kernel
theorem dX0_blend_38 : decode cX0_blend 38 = .ok (.dreturn, 1) := by decide +kernel
theorem dX1_init_0 : decode cX1_init 0 = .ok (.aload_n 0, 1) := by decide +kernel
theorem dX1_init_1 : decode cX1_init 1 = .ok (.invokespecial 3, 3) := by decide +kernel
theorem dX1_init_4 : decode cX1_init 4 = .ok (.aload_n 0, 1) := by decide +kernel
theorem dX1_init_5 : decode cX1_init 5 = .ok (.bipush 28, 2) := by decide +kernel
theorem dX1_init_7 : decode cX1_init 7 = .ok (.newarray .double, 2) := by decide +kernel
theorem dX1_init_9 : decode cX1_init 9 = .ok (.putfield 9, 3) := by decide +kernel
theorem dX1_init_12 : decode cX1_init 12 = .ok (.aload_n 0, 1) := by decide +kernel
theorem dX1_init_13 : decode cX1_init 13 = .ok (.bipush 28, 2) := by decide +kernel
theorem dX1_init_15 : decode cX1_init 15 = .ok (.newarray .double, 2) := by decide +kernel
theorem dX1_init_17 : decode cX1_init 17 = .ok (.putfield 15, 3) := by decide +kernel
theorem dX1_init_20 : decode cX1_init 20 = .ok (.aload_n 0, 1) := by decide +kernel
theorem dX1_init_21 : decode cX1_init 21 = .ok (.iconst 0, 1) := by decide +kernel
theorem dX1_init_22 : decode cX1_init 22 = .ok (.putfield 18, 3) := by decide +kernel
theorem dX1_init_25 : decode cX1_init 25 = .ok (.return_, 1) := by decide +kernel
theorem dX1_has_0 : decode cX1_has 0 = .ok (.iload_n 1, 1) := by decide +kernel
theorem dX1_has_1 : decode cX1_has 1 = .ok (.ifCond .lt 15, 3) := by decide +kernel
theorem dX1_has_4 : decode cX1_has 4 = .ok (.iload_n 1, 1) := by decide +kernel
theorem dX1_has_5 : decode cX1_has 5 = .ok (.aload_n 0, 1) := by decide +kernel
theorem dX1_has_6 : decode cX1_has 6 = .ok (.getfield 18, 3) := by decide +kernel
theorem dX1_has_9 : decode cX1_has 9 = .ok (.if_icmp .ge 7, 3) := by decide +kernel
theorem dX1_has_12 : decode cX1_has 12 = .ok (.iconst 1, 1) := by decide +kernel
theorem dX1_has_13 : decode cX1_has 13 = .ok (.goto 4, 3) := by decide +kernel
theorem dX1_has_16 : decode cX1_has 16 = .ok (.iconst 0, 1) := by decide +kernel
theorem dX1_has_17 : decode cX1_has 17 = .ok (.ireturn, 1) := by decide +kernel
theorem dX1_level_0 : decode cX1_level 0 = .ok (.aload_n 0, 1) := by decide +kernel
theorem dX1_level_1 : decode cX1_level 1 = .ok (.iload_n 1, 1) := by decide +kernel
theorem dX1_level_2 : decode cX1_level 2 = .ok (.putfield 18, 3) := by decide +kernel
theorem dX1_level_5 : decode cX1_level 5 = .ok (.iconst 0, 1) := by decide +kernel
theorem dX1_level_6 : decode cX1_level 6 = .ok (.istore_n 2, 1) := by decide +kernel
theorem dX1_level_7 : decode cX1_level 7 = .ok (.iload_n 2, 1) := by decide +kernel
theorem dX1_level_8 : decode cX1_level 8 = .ok (.bipush 28, 2) := by decide +kernel
theorem dX1_level_10 : decode cX1_level 10 = .ok (.if_icmp .ge 23, 3) := by decide +kernel
theorem dX1_level_13 : decode cX1_level 13 = .ok (.aload_n 0, 1) := by decide +kernel
theorem dX1_level_14 : decode cX1_level 14 = .ok (.getfield 9, 3) := by decide +kernel
theorem dX1_level_17 : decode cX1_level 17 = .ok (.iload_n 2, 1) := by decide +kernel
theorem dX1_level_18 : decode cX1_level 18 = .ok (.dconst 1, 1) := by decide +kernel
theorem dX1_level_19 : decode cX1_level 19 = .ok (.dastore, 1) := by decide +kernel
theorem dX1_level_20 : decode cX1_level 20 = .ok (.aload_n 0, 1) := by decide +kernel
theorem dX1_level_21 : decode cX1_level 21 = .ok (.getfield 15, 3) := by decide +kernel
theorem dX1_level_24 : decode cX1_level 24 = .ok (.iload_n 2, 1) := by decide +kernel
theorem dX1_level_25 : decode cX1_level 25 = .ok (.dconst 0, 1) := by decide +kernel
theorem dX1_level_26 : decode cX1_level 26 = .ok (.dastore, 1) := by decide +kernel
theorem dX1_level_27 : decode cX1_level 27 = .ok (.iinc 2 1, 3) := by decide +kernel
theorem dX1_level_30 : decode cX1_level 30 = .ok (.goto (-23), 3) := by decide +kernel
theorem dX1_level_33 : decode cX1_level 33 = .ok (.return_, 1) := by decide +kernel
theorem dX1_become_0 : decode cX1_become 0 = .ok (.aload_n 0, 1) := by decide +kernel
theorem dX1_become_1 : decode cX1_become 1 = .ok (.aload_n 1, 1) := by decide +kernel
theorem dX1_become_2 : decode cX1_become 2 = .ok (.getfield 18, 3) := by decide +kernel
theorem dX1_become_5 : decode cX1_become 5 = .ok (.putfield 18, 3) := by decide +kernel
theorem dX1_become_8 : decode cX1_become 8 = .ok (.aload_n 1, 1) := by decide +kernel
theorem dX1_become_9 : decode cX1_become 9 = .ok (.getfield 9, 3) := by decide +kernel
theorem dX1_become_12 : decode cX1_become 12 = .ok (.iconst 0, 1) := by decide +kernel
theorem dX1_become_13 : decode cX1_become 13 = .ok (.aload_n 0, 1) := by decide +kernel
theorem dX1_become_14 : decode cX1_become 14 = .ok (.getfield 9, 3) := by decide +kernel
theorem dX1_become_17 : decode cX1_become 17 = .ok (.iconst 0, 1) := by decide +kernel
theorem dX1_become_18 : decode cX1_become 18 = .ok (.bipush 28, 2) := by decide +kernel
theorem dX1_become_20 : decode cX1_become 20 = .ok (.invokestatic 22, 3) := by decide +kernel
theorem dX1_become_23 : decode cX1_become 23 = .ok (.aload_n 1, 1) := by decide +kernel
theorem dX1_become_24 : decode cX1_become 24 = .ok (.getfield 15, 3) := by decide +kernel
theorem dX1_become_27 : decode cX1_become 27 = .ok (.iconst 0, 1) := by decide +kernel
theorem dX1_become_28 : decode cX1_become 28 = .ok (.aload_n 0, 1) := by decide +kernel
theorem dX1_become_29 : decode cX1_become 29 = .ok (.getfield 15, 3) := by decide +kernel
theorem dX1_become_32 : decode cX1_become 32 = .ok (.iconst 0, 1) := by decide +kernel
theorem dX1_become_33 : decode cX1_become 33 = .ok (.bipush 28, 2) := by decide +kernel
theorem dX1_become_35 : decode cX1_become 35 = .ok (.invokestatic 22, 3) := by decide +kernel
theorem dX1_become_38 : decode cX1_become 38 = .ok (.return_, 1) := by decide +kernel
set_option maxRecDepth 20000 in
theorem ggX1_fillEnds_X1_copy : GoodIn wsX1_fillEnds wsX1_copy := goodIn_r _ [6, 7, 8, 13, 14, 15] (by decide +kernel) (by decide +kernel)
set_option maxRecDepth 20000 in
theorem gX1_fillEnds_X1_copy : GoodIn wsX1_fillEnds (wsV RX1 28 RX1 yX1_copy wsX1_copy) := goodIn_app (goodIn_of _ (by decide +kernel)) ggX1_fillEnds_X1_copy
set_option maxRecDepth 20000 in
theorem ggX1_fillEnds_X1_mirror : GoodIn wsX1_fillEnds wsX1_mirror := goodIn_r _ [12, 7, 8, 13, 14, 15] (by decide +kernel) (by decide +kernel)
set_option maxRecDepth 20000 in
theorem gX1_fillEnds_X1_mirror : GoodIn wsX1_fillEnds (wsV RX1 32 RX1 yX1_mirror wsX1_mirror) := goodIn_app (goodIn_of _ (by decide +kernel)) ggX1_fillEnds_X1_mirror
theorem dX1_fillEnds_0 : decode cX1_fillEnds 0 = .ok (.iconst 2, 1) := by decide +kernel
theorem dX1_fillEnds_1 : decode cX1_fillEnds 1 = .ok (.istore_n 2, 1) := by decide +kernel
theorem dX1_fillEnds_2 : decode cX1_fillEnds 2 = .ok (.iconst 2, 1) := by decide +kernel
theorem dX1_fillEnds_3 : decode cX1_fillEnds 3 = .ok (.aload_n 0, 1) := by decide +kernel
theorem dX1_fillEnds_4 : decode cX1_fillEnds 4 = .ok (.getfield 18, 3) := by decide +kernel
theorem dX1_fillEnds_7 : decode cX1_fillEnds 7 = .ok (.iadd, 1) := by decide +kernel
theorem dX1_fillEnds_8 : decode cX1_fillEnds 8 = .ok (.iconst 1, 1) := by decide +kernel
theorem dX1_fillEnds_9 : decode cX1_fillEnds 9 = .ok (.isub, 1) := by decide +kernel
theorem dX1_fillEnds_10 : decode cX1_fillEnds 10 = .ok (.istore_n 3, 1) := by decide +kernel
theorem dX1_fillEnds_11 : decode cX1_fillEnds 11 = .ok (.iconst 1, 1) := by decide +kernel
theorem dX1_fillEnds_12 : decode cX1_fillEnds 12 = .ok (.istore 4, 2) := by decide +kernel
theorem dX1_fillEnds_14 : decode cX1_fillEnds 14 = .ok (.iload 4, 2) := by decide +kernel
theorem dX1_fillEnds_16 : decode cX1_fillEnds 16 = .ok (.iconst 2, 1) := by decide +kernel
theorem dX1_fillEnds_17 : decode cX1_fillEnds 17 = .ok (.if_icmp .gt 117, 3) := by decide +kernel
theorem dX1_fillEnds_20 : decode cX1_fillEnds 20 = .ok (.iload_n 1, 1) := by decide +kernel
theorem dX1_fillEnds_21 : decode cX1_fillEnds 21 = .ok (.lookupswitch 89 #[(0, 27), (1, 58)], 27) := by decide +kernel
end
section
theorem dX1_fillEnds_48 : decode cX1_fillEnds 48 = .ok (.aload_n 0, 1) := by decide +kernel
theorem dX1_fillEnds_49 : decode cX1_fillEnds 49 = .ok (.iload_n 3, 1) := by decide +kernel
theorem dX1_fillEnds_50 : decode cX1_fillEnds 50 = .ok (.iconst 1, 1) := by decide +kernel
theorem dX1_fillEnds_51 : decode cX1_fillEnds 51 = .ok (.iadd, 1) := by decide +kernel
theorem dX1_fillEnds_52 : decode cX1_fillEnds 52 = .ok (.iload 4, 2) := by decide +kernel
theorem dX1_fillEnds_54 : decode cX1_fillEnds 54 = .ok (.isub, 1) := by decide +kernel
theorem dX1_fillEnds_55 : decode cX1_fillEnds 55 = .ok (.iload_n 2, 1) := by decide +kernel
theorem dX1_fillEnds_56 : decode cX1_fillEnds 56 = .ok (.iload 4, 2) := by decide +kernel
theorem dX1_fillEnds_58 : decode cX1_fillEnds 58 = .ok (.isub, 1) := by decide +kernel
theorem dX1_fillEnds_59 : decode cX1_fillEnds 59 = .ok (.invokevirtual 28, 3) := by decide +kernel
theorem dX1_fillEnds_62 : decode cX1_fillEnds 62 = .ok (.aload_n 0, 1) := by decide +kernel
theorem dX1_fillEnds_63 : decode cX1_fillEnds 63 = .ok (.iload_n 2, 1) := by decide +kernel
theorem dX1_fillEnds_64 : decode cX1_fillEnds 64 = .ok (.iconst 1, 1) := by decide +kernel
theorem dX1_fillEnds_65 : decode cX1_fillEnds 65 = .ok (.isub, 1) := by decide +kernel
theorem dX1_fillEnds_66 : decode cX1_fillEnds 66 = .ok (.iload 4, 2) := by decide +kernel
theorem dX1_fillEnds_68 : decode cX1_fillEnds 68 = .ok (.iadd, 1) := by decide +kernel
theorem dX1_fillEnds_69 : decode cX1_fillEnds 69 = .ok (.iload_n 3, 1) := by decide +kernel
theorem dX1_fillEnds_70 : decode cX1_fillEnds 70 = .ok (.iload 4, 2) := by decide +kernel
theorem dX1_fillEnds_72 : decode cX1_fillEnds 72 = .ok (.iadd, 1) := by decide +kernel
theorem dX1_fillEnds_73 : decode cX1_fillEnds 73 = .ok (.invokevirtual 28, 3) := by decide +kernel
theorem dX1_fillEnds_76 : decode cX1_fillEnds 76 = .ok (.goto 52, 3) := by decide +kernel
theorem dX1_fillEnds_79 : decode cX1_fillEnds 79 = .ok (.aload_n 0, 1) := by decide +kernel
theorem dX1_fillEnds_80 : decode cX1_fillEnds 80 = .ok (.iload_n 2, 1) := by decide +kernel
theorem dX1_fillEnds_81 : decode cX1_fillEnds 81 = .ok (.iconst 1, 1) := by decide +kernel
theorem dX1_fillEnds_82 : decode cX1_fillEnds 82 = .ok (.isub, 1) := by decide +kernel
theorem dX1_fillEnds_83 : decode cX1_fillEnds 83 = .ok (.iload 4, 2) := by decide +kernel
theorem dX1_fillEnds_85 : decode cX1_fillEnds 85 = .ok (.iadd, 1) := by decide +kernel
theorem dX1_fillEnds_86 : decode cX1_fillEnds 86 = .ok (.iload_n 2, 1) := by decide +kernel
theorem dX1_fillEnds_87 : decode cX1_fillEnds 87 = .ok (.iload 4, 2) := by decide +kernel
theorem dX1_fillEnds_89 : decode cX1_fillEnds 89 = .ok (.isub, 1) := by decide +kernel
theorem dX1_fillEnds_90 : decode cX1_fillEnds 90 = .ok (.invokevirtual 32, 3) := by decide +kernel
theorem dX1_fillEnds_93 : decode cX1_fillEnds 93 = .ok (.aload_n 0, 1) := by decide +kernel
theorem dX1_fillEnds_94 : decode cX1_fillEnds 94 = .ok (.iload_n 3, 1) := by decide +kernel
theorem dX1_fillEnds_95 : decode cX1_fillEnds 95 = .ok (.iconst 1, 1) := by decide +kernel
theorem dX1_fillEnds_96 : decode cX1_fillEnds 96 = .ok (.iadd, 1) := by decide +kernel
theorem dX1_fillEnds_97 : decode cX1_fillEnds 97 = .ok (.iload 4, 2) := by decide +kernel
theorem dX1_fillEnds_99 : decode cX1_fillEnds 99 = .ok (.isub, 1) := by decide +kernel
theorem dX1_fillEnds_100 : decode cX1_fillEnds 100 = .ok (.iload_n 3, 1) := by decide +kernel
theorem dX1_fillEnds_101 : decode cX1_fillEnds 101 = .ok (.iload 4, 2) := by decide +kernel
theorem dX1_fillEnds_103 : decode cX1_fillEnds 103 = .ok (.iadd, 1) := by decide +kernel
theorem dX1_fillEnds_104 : decode cX1_fillEnds 104 = .ok (.invokevirtual 32, 3) := by decide +kernel
theorem dX1_fillEnds_107 : decode cX1_fillEnds 107 = .ok (.goto 21, 3) := by decide +kernel
theorem dX1_fillEnds_110 : decode cX1_fillEnds 110 = .ok (.aload_n 0, 1) := by decide +kernel
theorem dX1_fillEnds_111 : decode cX1_fillEnds 111 = .ok (.iload_n 2, 1) := by decide +kernel
theorem dX1_fillEnds_112 : decode cX1_fillEnds 112 = .ok (.iload_n 2, 1) := by decide +kernel
theorem dX1_fillEnds_113 : decode cX1_fillEnds 113 = .ok (.iload 4, 2) := by decide +kernel
theorem dX1_fillEnds_115 : decode cX1_fillEnds 115 = .ok (.isub, 1) := by decide +kernel
theorem dX1_fillEnds_116 : decode cX1_fillEnds 116 = .ok (.invokevirtual 28, 3) := by decide +kernel
theorem dX1_fillEnds_119 : decode cX1_fillEnds 119 = .ok (.aload_n 0, 1) := by decide +kernel
theorem dX1_fillEnds_120 : decode cX1_fillEnds 120 = .ok (.iload_n 3, 1) := by decide +kernel
theorem dX1_fillEnds_121 : decode cX1_fillEnds 121 = .ok (.iload_n 3, 1) := by decide +kernel
theorem dX1_fillEnds_122 : decode cX1_fillEnds 122 = .ok (.iload 4, 2) := by decide +kernel
theorem dX1_fillEnds_124 : decode cX1_fillEnds 124 = .ok (.iadd, 1) := by decide +kernel
theorem dX1_fillEnds_125 : decode cX1_fillEnds 125 = .ok (.invokevirtual 28, 3) := by decide +kernel
theorem dX1_fillEnds_128 : decode cX1_fillEnds 128 = .ok (.iinc 4 1, 3) := by decide +kernel
theorem dX1_fillEnds_131 : decode cX1_fillEnds 131 = .ok (.goto (-117), 3) := by decide +kernel
theorem dX1_fillEnds_134 : decode cX1_fillEnds 134 = .ok (.return_, 1) := by decide +kernel
theorem dX1_copy_0 : decode cX1_copy 0 = .ok (.aload_n 0, 1) := by decide +kernel
theorem dX1_copy_1 : decode cX1_copy 1 = .ok (.getfield 9, 3) := by decide +kernel
theorem dX1_copy_4 : decode cX1_copy 4 = .ok (.iload_n 2, 1) := by decide +kernel
theorem dX1_copy_5 : decode cX1_copy 5 = .ok (.aload_n 0, 1) := by decide +kernel
theorem dX1_copy_6 : decode cX1_copy 6 = .ok (.getfield 9, 3) := by decide +kernel
theorem dX1_copy_9 : decode cX1_copy 9 = .ok (.iload_n 1, 1) := by decide +kernel
theorem dX1_copy_10 : decode cX1_copy 10 = .ok (.daload, 1) := by decide +kernel
theorem dX1_copy_11 : decode cX1_copy 11 = .ok (.dastore, 1) := by decide +kernel
theorem dX1_copy_12 : decode cX1_copy 12 = .ok (.aload_n 0, 1) := by decide +kernel
theorem dX1_copy_13 : decode cX1_copy 13 = .ok (.getfield 15, 3) := by decide +kernel
theorem dX1_copy_16 : decode cX1_copy 16 = .ok (.iload_n 2, 1) := by decide +kernel
theorem dX1_copy_17 : decode cX1_copy 17 = .ok (.aload_n 0, 1) := by decide +kernel
theorem dX1_copy_18 : decode cX1_copy 18 = .ok (.getfield 15, 3) := by decide +kernel
theorem dX1_copy_21 : decode cX1_copy 21 = .ok (.iload_n 1, 1) := by decide +kernel
theorem dX1_copy_22 : decode cX1_copy 22 = .ok (.daload, 1) := by decide +kernel
theorem dX1_copy_23 : decode cX1_copy 23 = .ok (.dastore, 1) := by decide +kernel
theorem dX1_copy_24 : decode cX1_copy 24 = .ok (.return_, 1) := by decide +kernel
theorem dX1_mirror_0 : decode cX1_mirror 0 = .ok (.aload_n 0, 1) := by decide +kernel
theorem dX1_mirror_1 : decode cX1_mirror 1 = .ok (.getfield 9, 3) := by decide +kernel
theorem dX1_mirror_4 : decode cX1_mirror 4 = .ok (.iload_n 2, 1) := by decide +kernel
theorem dX1_mirror_5 : decode cX1_mirror 5 = .ok (.aload_n 0, 1) := by decide +kernel
theorem dX1_mirror_6 : decode cX1_mirror 6 = .ok (.getfield 9, 3) := by decide +kernel
theorem dX1_mirror_9 : decode cX1_mirror 9 = .ok (.iload_n 1, 1) := by decide +kernel
theorem dX1_mirror_10 : decode cX1_mirror 10 = .ok (.daload, 1) := by decide +kernel
theorem dX1_mirror_11 : decode cX1_mirror 11 = .ok (.dastore, 1) := by decide +kernel
theorem dX1_mirror_12 : decode cX1_mirror 12 = .ok (.aload_n 0, 1) := by decide +kernel
theorem dX1_mirror_13 : decode cX1_mirror 13 = .ok (.getfield 15, 3) := by decide +kernel
theorem dX1_mirror_16 : decode cX1_mirror 16 = .ok (.iload_n 2, 1) := by decide +kernel
theorem dX1_mirror_17 : decode cX1_mirror 17 = .ok (.aload_n 0, 1) := by decide +kernel
theorem dX1_mirror_18 : decode cX1_mirror 18 = .ok (.getfield 15, 3) := by decide +kernel
theorem dX1_mirror_21 : decode cX1_mirror 21 = .ok (.iload_n 1, 1) := by decide +kernel
theorem dX1_mirror_22 : decode cX1_mirror 22 = .ok (.daload, 1) := by decide +kernel
theorem dX1_mirror_23 : decode cX1_mirror 23 = .ok (.dneg, 1) := by decide +kernel
theorem dX1_mirror_24 : decode cX1_mirror 24 = .ok (.dastore, 1) := by decide +kernel
theorem dX1_mirror_25 : decode cX1_mirror 25 = .ok (.return_, 1) := by decide +kernel
theorem dX1_move_0 : decode cX1_move 0 = .ok (.iconst 0, 1) := by decide +kernel
theorem dX1_move_1 : decode cX1_move 1 = .ok (.istore 4, 2) := by decide +kernel
theorem dX1_move_3 : decode cX1_move 3 = .ok (.iload 4, 2) := by decide +kernel
theorem dX1_move_5 : decode cX1_move 5 = .ok (.aload_n 0, 1) := by decide +kernel
theorem dX1_move_6 : decode cX1_move 6 = .ok (.getfield 18, 3) := by decide +kernel
theorem dX1_move_9 : decode cX1_move 9 = .ok (.if_icmp .ge 83, 3) := by decide +kernel
theorem dX1_move_12 : decode cX1_move 12 = .ok (.iconst 2, 1) := by decide +kernel
theorem dX1_move_13 : decode cX1_move 13 = .ok (.iload 4, 2) := by decide +kernel
theorem dX1_move_15 : decode cX1_move 15 = .ok (.iadd, 1) := by decide +kernel
theorem dX1_move_16 : decode cX1_move 16 = .ok (.istore 5, 2) := by decide +kernel
theorem dX1_move_18 : decode cX1_move 18 = .ok (.aload_n 0, 1) := by decide +kernel
theorem dX1_move_19 : decode cX1_move 19 = .ok (.getfield 9, 3) := by decide +kernel
theorem dX1_move_22 : decode cX1_move 22 = .ok (.iload 5, 2) := by decide +kernel
theorem dX1_move_24 : decode cX1_move 24 = .ok (.aload_n 0, 1) := by decide +kernel
theorem dX1_move_25 : decode cX1_move 25 = .ok (.getfield 9, 3) := by decide +kernel
theorem dX1_move_28 : decode cX1_move 28 = .ok (.iload 5, 2) := by decide +kernel
theorem dX1_move_30 : decode cX1_move 30 = .ok (.daload, 1) := by decide +kernel
theorem dX1_move_31 : decode cX1_move 31 = .ok (.dload_n 1, 1) := by decide +kernel
theorem dX1_move_32 : decode cX1_move 32 = .ok (.aload_n 3, 1) := by decide +kernel
theorem dX1_move_33 : decode cX1_move 33 = .ok (.getfield 35, 3) := by decide +kernel
theorem dX1_move_36 : decode cX1_move 36 = .ok (.iload 4, 2) := by decide +kernel
theorem dX1_move_38 : decode cX1_move 38 = .ok (.iconst 1, 1) := by decide +kernel
theorem dX1_move_39 : decode cX1_move 39 = .ok (.iadd, 1) := by decide +kernel
theorem dX1_move_40 : decode cX1_move 40 = .ok (.daload, 1) := by decide +kernel
theorem dX1_move_41 : decode cX1_move 41 = .ok (.aload_n 3, 1) := by decide +kernel
theorem dX1_move_42 : decode cX1_move 42 = .ok (.getfield 35, 3) := by decide +kernel
theorem dX1_move_45 : decode cX1_move 45 = .ok (.iload 4, 2) := by decide +kernel
theorem dX1_move_47 : decode cX1_move 47 = .ok (.daload, 1) := by decide +kernel
theorem dX1_move_48 : decode cX1_move 48 = .ok (.dsub, 1) := by decide +kernel
theorem dX1_move_49 : decode cX1_move 49 = .ok (.dmul, 1) := by decide +kernel
theorem dX1_move_50 : decode cX1_move 50 = .ok (.dsub, 1) := by decide +kernel
theorem dX1_move_51 : decode cX1_move 51 = .ok (.dastore, 1) := by decide +kernel
theorem dX1_move_52 : decode cX1_move 52 = .ok (.aload_n 0, 1) := by decide +kernel
theorem dX1_move_53 : decode cX1_move 53 = .ok (.getfield 15, 3) := by decide +kernel
theorem dX1_move_56 : decode cX1_move 56 = .ok (.iload 5, 2) := by decide +kernel
theorem dX1_move_58 : decode cX1_move 58 = .ok (.aload_n 0, 1) := by decide +kernel
theorem dX1_move_59 : decode cX1_move 59 = .ok (.getfield 15, 3) := by decide +kernel
theorem dX1_move_62 : decode cX1_move 62 = .ok (.iload 5, 2) := by decide +kernel
theorem dX1_move_64 : decode cX1_move 64 = .ok (.daload, 1) := by decide +kernel
theorem dX1_move_65 : decode cX1_move 65 = .ok (.dload_n 1, 1) := by decide +kernel
theorem dX1_move_66 : decode cX1_move 66 = .ok (.aload_n 3, 1) := by decide +kernel
theorem dX1_move_67 : decode cX1_move 67 = .ok (.getfield 40, 3) := by decide +kernel
theorem dX1_move_70 : decode cX1_move 70 = .ok (.iload 4, 2) := by decide +kernel
theorem dX1_move_72 : decode cX1_move 72 = .ok (.iconst 1, 1) := by decide +kernel
theorem dX1_move_73 : decode cX1_move 73 = .ok (.iadd, 1) := by decide +kernel
theorem dX1_move_74 : decode cX1_move 74 = .ok (.daload, 1) := by decide +kernel
theorem dX1_move_75 : decode cX1_move 75 = .ok (.aload_n 3, 1) := by decide +kernel
theorem dX1_move_76 : decode cX1_move 76 = .ok (.getfield 40, 3) := by decide +kernel
theorem dX1_move_79 : decode cX1_move 79 = .ok (.iload 4, 2) := by decide +kernel
theorem dX1_move_81 : decode cX1_move 81 = .ok (.daload, 1) := by decide +kernel
theorem dX1_move_82 : decode cX1_move 82 = .ok (.dsub, 1) := by decide +kernel
theorem dX1_move_83 : decode cX1_move 83 = .ok (.dmul, 1) := by decide +kernel
theorem dX1_move_84 : decode cX1_move 84 = .ok (.dsub, 1) := by decide +kernel
theorem dX1_move_85 : decode cX1_move 85 = .ok (.dastore, 1) := by decide +kernel
theorem dX1_move_86 : decode cX1_move 86 = .ok (.iinc 4 1, 3) := by decide +kernel
theorem dX1_move_89 : decode cX1_move 89 = .ok (.goto (-86), 3) := by decide +kernel
theorem dX1_move_92 : decode cX1_move 92 = .ok (.return_, 1) := by decide +kernel
theorem dX1_hasFailed_0 : decode cX1_hasFailed 0 = .ok (.iconst 2, 1) := by decide +kernel
theorem dX1_hasFailed_1 : decode cX1_hasFailed 1 = .ok (.istore_n 1, 1) := by decide +kernel
theorem dX1_hasFailed_2 : decode cX1_hasFailed 2 = .ok (.iload_n 1, 1) := by decide +kernel
theorem dX1_hasFailed_3 : decode cX1_hasFailed 3 = .ok (.iconst 2, 1) := by decide +kernel
theorem dX1_hasFailed_4 : decode cX1_hasFailed 4 = .ok (.aload_n 0, 1) := by decide +kernel
theorem dX1_hasFailed_5 : decode cX1_hasFailed 5 = .ok (.getfield 18, 3) := by decide +kernel
theorem dX1_hasFailed_8 : decode cX1_hasFailed 8 = .ok (.iadd, 1) := by decide +kernel
theorem dX1_hasFailed_9 : decode cX1_hasFailed 9 = .ok (.if_icmp .ge 50, 3) := by decide +kernel
theorem dX1_hasFailed_12 : decode cX1_hasFailed 12 = .ok (.aload_n 0, 1) := by decide +kernel
theorem dX1_hasFailed_13 : decode cX1_hasFailed 13 = .ok (.getfield 9, 3) := by decide +kernel
theorem dX1_hasFailed_16 : decode cX1_hasFailed 16 = .ok (.iload_n 1, 1) := by decide +kernel
theorem dX1_hasFailed_17 : decode cX1_hasFailed 17 = .ok (.daload, 1) := by decide +kernel
theorem dX1_hasFailed_18 : decode cX1_hasFailed 18 = .ok (.ldc2_w 43, 3) := by decide +kernel
theorem dX1_hasFailed_21 : decode cX1_hasFailed 21 = .ok (.dcmp .g, 1) := by decide +kernel
theorem dX1_hasFailed_22 : decode cX1_hasFailed 22 = .ok (.ifCond .lt 29, 3) := by decide +kernel
theorem dX1_hasFailed_25 : decode cX1_hasFailed 25 = .ok (.aload_n 0, 1) := by decide +kernel
theorem dX1_hasFailed_26 : decode cX1_hasFailed 26 = .ok (.getfield 15, 3) := by decide +kernel
theorem dX1_hasFailed_29 : decode cX1_hasFailed 29 = .ok (.iload_n 1, 1) := by decide +kernel
theorem dX1_hasFailed_30 : decode cX1_hasFailed 30 = .ok (.daload, 1) := by decide +kernel
theorem dX1_hasFailed_31 : decode cX1_hasFailed 31 = .ok (.ldc2_w 45, 3) := by decide +kernel
theorem dX1_hasFailed_34 : decode cX1_hasFailed 34 = .ok (.dcmp .l, 1) := by decide +kernel
theorem dX1_hasFailed_35 : decode cX1_hasFailed 35 = .ok (.ifCond .gt 16, 3) := by decide +kernel
theorem dX1_hasFailed_38 : decode cX1_hasFailed 38 = .ok (.aload_n 0, 1) := by decide +kernel
theorem dX1_hasFailed_39 : decode cX1_hasFailed 39 = .ok (.getfield 15, 3) := by decide +kernel
theorem dX1_hasFailed_42 : decode cX1_hasFailed 42 = .ok (.iload_n 1, 1) := by decide +kernel
theorem dX1_hasFailed_43 : decode cX1_hasFailed 43 = .ok (.daload, 1) := by decide +kernel
theorem dX1_hasFailed_44 : decode cX1_hasFailed 44 = .ok (.ldc2_w 47, 3) := by decide +kernel
theorem dX1_hasFailed_47 : decode cX1_hasFailed 47 = .ok (.dcmp .g, 1) := by decide +kernel
theorem dX1_hasFailed_48 : decode cX1_hasFailed 48 = .ok (.ifCond .ge 5, 3) := by decide +kernel
theorem dX1_hasFailed_51 : decode cX1_hasFailed 51 = .ok (.iconst 1, 1) := by decide +kernel
theorem dX1_hasFailed_52 : decode cX1_hasFailed 52 = .ok (.ireturn, 1) := by decide +kernel
theorem dX1_hasFailed_53 : decode cX1_hasFailed 53 = .ok (.iinc 1 1, 3) := by decide +kernel
theorem dX1_hasFailed_56 : decode cX1_hasFailed 56 = .ok (.goto (-54), 3) := by decide +kernel
theorem dX1_hasFailed_59 : decode cX1_hasFailed 59 = .ok (.iconst 0, 1) := by decide +kernel
theorem dX1_hasFailed_60 : decode cX1_hasFailed 60 = .ok (.ireturn, 1) := by decide +kernel
theorem dX1_meet_0 : decode cX1_meet 0 = .ok (.iconst 2, 1) := by decide +kernel
theorem dX1_meet_1 : decode cX1_meet 1 = .ok (.istore_n 2, 1) := by decide +kernel
theorem dX1_meet_2 : decode cX1_meet 2 = .ok (.iload_n 2, 1) := by decide +kernel
theorem dX1_meet_3 : decode cX1_meet 3 = .ok (.iconst 2, 1) := by decide +kernel
theorem dX1_meet_4 : decode cX1_meet 4 = .ok (.aload_n 0, 1) := by decide +kernel
theorem dX1_meet_5 : decode cX1_meet 5 = .ok (.getfield 18, 3) := by decide +kernel
theorem dX1_meet_8 : decode cX1_meet 8 = .ok (.iadd, 1) := by decide +kernel
theorem dX1_meet_9 : decode cX1_meet 9 = .ok (.if_icmp .ge 55, 3) := by decide +kernel
theorem dX1_meet_12 : decode cX1_meet 12 = .ok (.aload_n 0, 1) := by decide +kernel
theorem dX1_meet_13 : decode cX1_meet 13 = .ok (.getfield 9, 3) := by decide +kernel
theorem dX1_meet_16 : decode cX1_meet 16 = .ok (.iload_n 2, 1) := by decide +kernel
theorem dX1_meet_17 : decode cX1_meet 17 = .ok (.ldc2_w 49, 3) := by decide +kernel
theorem dX1_meet_20 : decode cX1_meet 20 = .ok (.aload_n 1, 1) := by decide +kernel
theorem dX1_meet_21 : decode cX1_meet 21 = .ok (.getfield 9, 3) := by decide +kernel
theorem dX1_meet_24 : decode cX1_meet 24 = .ok (.iload_n 2, 1) := by decide +kernel
theorem dX1_meet_25 : decode cX1_meet 25 = .ok (.daload, 1) := by decide +kernel
theorem dX1_meet_26 : decode cX1_meet 26 = .ok (.aload_n 0, 1) := by decide +kernel
theorem dX1_meet_27 : decode cX1_meet 27 = .ok (.getfield 9, 3) := by decide +kernel
theorem dX1_meet_30 : decode cX1_meet 30 = .ok (.iload_n 2, 1) := by decide +kernel
theorem dX1_meet_31 : decode cX1_meet 31 = .ok (.daload, 1) := by decide +kernel
theorem dX1_meet_32 : decode cX1_meet 32 = .ok (.dadd, 1) := by decide +kernel
theorem dX1_meet_33 : decode cX1_meet 33 = .ok (.dmul, 1) := by decide +kernel
theorem dX1_meet_34 : decode cX1_meet 34 = .ok (.dastore, 1) := by decide +kernel
theorem dX1_meet_35 : decode cX1_meet 35 = .ok (.aload_n 0, 1) := by decide +kernel
theorem dX1_meet_36 : decode cX1_meet 36 = .ok (.getfield 15, 3) := by decide +kernel
theorem dX1_meet_39 : decode cX1_meet 39 = .ok (.iload_n 2, 1) := by decide +kernel
theorem dX1_meet_40 : decode cX1_meet 40 = .ok (.ldc2_w 49, 3) := by decide +kernel
theorem dX1_meet_43 : decode cX1_meet 43 = .ok (.aload_n 1, 1) := by decide +kernel
theorem dX1_meet_44 : decode cX1_meet 44 = .ok (.getfield 15, 3) := by decide +kernel
theorem dX1_meet_47 : decode cX1_meet 47 = .ok (.iload_n 2, 1) := by decide +kernel
theorem dX1_meet_48 : decode cX1_meet 48 = .ok (.daload, 1) := by decide +kernel
theorem dX1_meet_49 : decode cX1_meet 49 = .ok (.aload_n 0, 1) := by decide +kernel
theorem dX1_meet_50 : decode cX1_meet 50 = .ok (.getfield 15, 3) := by decide +kernel
theorem dX1_meet_53 : decode cX1_meet 53 = .ok (.iload_n 2, 1) := by decide +kernel
theorem dX1_meet_54 : decode cX1_meet 54 = .ok (.daload, 1) := by decide +kernel
theorem dX1_meet_55 : decode cX1_meet 55 = .ok (.dadd, 1) := by decide +kernel
theorem dX1_meet_56 : decode cX1_meet 56 = .ok (.dmul, 1) := by decide +kernel
theorem dX1_meet_57 : decode cX1_meet 57 = .ok (.dastore, 1) := by decide +kernel
theorem dX1_meet_58 : decode cX1_meet 58 = .ok (.iinc 2 1, 3) := by decide +kernel
theorem dX1_meet_61 : decode cX1_meet 61 = .ok (.goto (-59), 3) := by decide +kernel
theorem dX1_meet_64 : decode cX1_meet 64 = .ok (.return_, 1) := by decide +kernel
set_option maxRecDepth 20000 in
theorem ggX1_longestTime_X3_speedOf : GoodIn wsX1_longestTime wsX3_speedOf := goodIn_r _ [7] (by decide +kernel) (by decide +kernel)
set_option maxRecDepth 20000 in
theorem gX1_longestTime_X3_speedOf_n51 : GoodIn wsX1_longestTime (wsX3_speedOf) := ggX1_longestTime_X3_speedOf
set_option maxRecDepth 20000 in
theorem ggX1_longestTime_X3_absolute : GoodIn wsX1_longestTime wsX3_absolute := goodIn_r _ [9] (by decide +kernel) (by decide +kernel)
set_option maxRecDepth 20000 in
theorem gX1_longestTime_X3_absolute_n55 : GoodIn wsX1_longestTime (wsX3_absolute) := ggX1_longestTime_X3_absolute
set_option maxRecDepth 20000 in
theorem ggX1_longestTime_X3_root : GoodIn wsX1_longestTime wsX3_root := goodIn_r _ [11, 12] (by decide +kernel) (by decide +kernel)
set_option maxRecDepth 20000 in
theorem gX1_longestTime_X3_root_n59 : GoodIn wsX1_longestTime (wsX3_root) := ggX1_longestTime_X3_root
set_option maxRecDepth 20000 in
theorem ggX1_longestTime_X3_greater : GoodIn wsX1_longestTime wsX3_greater := goodIn_r _ [14] (by decide +kernel) (by decide +kernel)
set_option maxRecDepth 20000 in
theorem gX1_longestTime_X3_greater_n62 : GoodIn wsX1_longestTime (wsX3_greater) := ggX1_longestTime_X3_greater
set_option maxRecDepth 20000 in
theorem ggX1_longestTime_X3_lesser : GoodIn wsX1_longestTime wsX3_lesser := goodIn_r _ [16] (by decide +kernel) (by decide +kernel)
set_option maxRecDepth 20000 in
theorem gX1_longestTime_X3_lesser_n67 : GoodIn wsX1_longestTime (wsX3_lesser) := ggX1_longestTime_X3_lesser
theorem dX1_longestTime_0 : decode cX1_longestTime 0 = .ok (.dconst 0, 1) := by decide +kernel
theorem dX1_longestTime_1 : decode cX1_longestTime 1 = .ok (.dstore_n 3, 1) := by decide +kernel
theorem dX1_longestTime_2 : decode cX1_longestTime 2 = .ok (.iconst 2, 1) := by decide +kernel
theorem dX1_longestTime_3 : decode cX1_longestTime 3 = .ok (.istore 5, 2) := by decide +kernel
theorem dX1_longestTime_5 : decode cX1_longestTime 5 = .ok (.iload 5, 2) := by decide +kernel
theorem dX1_longestTime_7 : decode cX1_longestTime 7 = .ok (.iconst 2, 1) := by decide +kernel
theorem dX1_longestTime_8 : decode cX1_longestTime 8 = .ok (.aload_n 0, 1) := by decide +kernel
theorem dX1_longestTime_9 : decode cX1_longestTime 9 = .ok (.getfield 18, 3) := by decide +kernel
theorem dX1_longestTime_12 : decode cX1_longestTime 12 = .ok (.iadd, 1) := by decide +kernel
theorem dX1_longestTime_13 : decode cX1_longestTime 13 = .ok (.if_icmp .ge 44, 3) := by decide +kernel
theorem dX1_longestTime_16 : decode cX1_longestTime 16 = .ok (.aload_n 0, 1) := by decide +kernel
theorem dX1_longestTime_17 : decode cX1_longestTime 17 = .ok (.getfield 9, 3) := by decide +kernel
theorem dX1_longestTime_20 : decode cX1_longestTime 20 = .ok (.iload 5, 2) := by decide +kernel
theorem dX1_longestTime_22 : decode cX1_longestTime 22 = .ok (.daload, 1) := by decide +kernel
theorem dX1_longestTime_23 : decode cX1_longestTime 23 = .ok (.dstore 6, 2) := by decide +kernel
theorem dX1_longestTime_25 : decode cX1_longestTime 25 = .ok (.dload_n 3, 1) := by decide +kernel
theorem dX1_longestTime_26 : decode cX1_longestTime 26 = .ok (.dload 6, 2) := by decide +kernel
theorem dX1_longestTime_28 : decode cX1_longestTime 28 = .ok (.aload_n 0, 1) := by decide +kernel
theorem dX1_longestTime_29 : decode cX1_longestTime 29 = .ok (.getfield 15, 3) := by decide +kernel
theorem dX1_longestTime_32 : decode cX1_longestTime 32 = .ok (.iload 5, 2) := by decide +kernel
theorem dX1_longestTime_34 : decode cX1_longestTime 34 = .ok (.daload, 1) := by decide +kernel
theorem dX1_longestTime_35 : decode cX1_longestTime 35 = .ok (.invokestatic 51, 3) := by decide +kernel
theorem dX1_longestTime_38 : decode cX1_longestTime 38 = .ok (.invokestatic 55, 3) := by decide +kernel
theorem dX1_longestTime_41 : decode cX1_longestTime 41 = .ok (.dload 6, 2) := by decide +kernel
theorem dX1_longestTime_43 : decode cX1_longestTime 43 = .ok (.invokestatic 59, 3) := by decide +kernel
theorem dX1_longestTime_46 : decode cX1_longestTime 46 = .ok (.dadd, 1) := by decide +kernel
theorem dX1_longestTime_47 : decode cX1_longestTime 47 = .ok (.invokestatic 62, 3) := by decide +kernel
theorem dX1_longestTime_50 : decode cX1_longestTime 50 = .ok (.dstore_n 3, 1) := by decide +kernel
theorem dX1_longestTime_51 : decode cX1_longestTime 51 = .ok (.iinc 5 1, 3) := by decide +kernel
theorem dX1_longestTime_54 : decode cX1_longestTime 54 = .ok (.goto (-49), 3) := by decide +kernel
theorem dX1_longestTime_57 : decode cX1_longestTime 57 = .ok (.dload_n 3, 1) := by decide +kernel
theorem dX1_longestTime_58 : decode cX1_longestTime 58 = .ok (.dconst 0, 1) := by decide +kernel
theorem dX1_longestTime_59 : decode cX1_longestTime 59 = .ok (.dcmp .l, 1) := by decide +kernel
theorem dX1_longestTime_60 : decode cX1_longestTime 60 = .ok (.ifCond .le 15, 3) := by decide +kernel
theorem dX1_longestTime_63 : decode cX1_longestTime 63 = .ok (.dload_n 1, 1) := by decide +kernel
theorem dX1_longestTime_64 : decode cX1_longestTime 64 = .ok (.ldc2_w 65, 3) := by decide +kernel
theorem dX1_longestTime_67 : decode cX1_longestTime 67 = .ok (.dload_n 3, 1) := by decide +kernel
theorem dX1_longestTime_68 : decode cX1_longestTime 68 = .ok (.ddiv, 1) := by decide +kernel
theorem dX1_longestTime_69 : decode cX1_longestTime 69 = .ok (.invokestatic 67, 3) := by decide +kernel
theorem dX1_longestTime_72 : decode cX1_longestTime 72 = .ok (.goto 4, 3) := by decide +kernel
theorem dX1_longestTime_75 : decode cX1_longestTime 75 = .ok (.dload_n 1, 1) := by decide +kernel
theorem dX1_longestTime_76 : decode cX1_longestTime 76 = .ok (.dreturn, 1) := by decide +kernel
theorem dX1_total_0 : decode cX1_total 0 = .ok (.dconst 0, 1) := by decide +kernel
theorem dX1_total_1 : decode cX1_total 1 = .ok (.dstore_n 2, 1) := by decide +kernel
theorem dX1_total_2 : decode cX1_total 2 = .ok (.dconst 0, 1) := by decide +kernel
theorem dX1_total_3 : decode cX1_total 3 = .ok (.dstore 4, 2) := by decide +kernel
theorem dX1_total_5 : decode cX1_total 5 = .ok (.iconst 2, 1) := by decide +kernel
theorem dX1_total_6 : decode cX1_total 6 = .ok (.istore 6, 2) := by decide +kernel
theorem dX1_total_8 : decode cX1_total 8 = .ok (.iload 6, 2) := by decide +kernel
theorem dX1_total_10 : decode cX1_total 10 = .ok (.iconst 2, 1) := by decide +kernel
theorem dX1_total_11 : decode cX1_total 11 = .ok (.aload_n 0, 1) := by decide +kernel
theorem dX1_total_12 : decode cX1_total 12 = .ok (.getfield 18, 3) := by decide +kernel
theorem dX1_total_15 : decode cX1_total 15 = .ok (.iadd, 1) := by decide +kernel
theorem dX1_total_16 : decode cX1_total 16 = .ok (.if_icmp .ge 36, 3) := by decide +kernel
theorem dX1_total_19 : decode cX1_total 19 = .ok (.aload_n 1, 1) := by decide +kernel
theorem dX1_total_20 : decode cX1_total 20 = .ok (.iload 6, 2) := by decide +kernel
theorem dX1_total_22 : decode cX1_total 22 = .ok (.daload, 1) := by decide +kernel
theorem dX1_total_23 : decode cX1_total 23 = .ok (.dload 4, 2) := by decide +kernel
theorem dX1_total_25 : decode cX1_total 25 = .ok (.dsub, 1) := by decide +kernel
theorem dX1_total_26 : decode cX1_total 26 = .ok (.dstore 7, 2) := by decide +kernel
theorem dX1_total_28 : decode cX1_total 28 = .ok (.dload_n 2, 1) := by decide +kernel
theorem dX1_total_29 : decode cX1_total 29 = .ok (.dload 7, 2) := by decide +kernel
theorem dX1_total_31 : decode cX1_total 31 = .ok (.dadd, 1) := by decide +kernel
theorem dX1_total_32 : decode cX1_total 32 = .ok (.dstore 9, 2) := by decide +kernel
theorem dX1_total_34 : decode cX1_total 34 = .ok (.dload 9, 2) := by decide +kernel
theorem dX1_total_36 : decode cX1_total 36 = .ok (.dload_n 2, 1) := by decide +kernel
theorem dX1_total_37 : decode cX1_total 37 = .ok (.dsub, 1) := by decide +kernel
theorem dX1_total_38 : decode cX1_total 38 = .ok (.dload 7, 2) := by decide +kernel
theorem dX1_total_40 : decode cX1_total 40 = .ok (.dsub, 1) := by decide +kernel
theorem dX1_total_41 : decode cX1_total 41 = .ok (.dstore 4, 2) := by decide +kernel
theorem dX1_total_43 : decode cX1_total 43 = .ok (.dload 9, 2) := by decide +kernel
theorem dX1_total_45 : decode cX1_total 45 = .ok (.dstore_n 2, 1) := by decide +kernel
theorem dX1_total_46 : decode cX1_total 46 = .ok (.iinc 6 1, 3) := by decide +kernel
theorem dX1_total_49 : decode cX1_total 49 = .ok (.goto (-41), 3) := by decide +kernel
theorem dX1_total_52 : decode cX1_total 52 = .ok (.dload_n 2, 1) := by decide +kernel
theorem dX1_total_53 : decode cX1_total 53 = .ok (.dreturn, 1) := by decide +kernel
theorem dX2_init_0 : decode cX2_init 0 = .ok (.aload_n 0, 1) := by decide +kernel
theorem dX2_init_1 : decode cX2_init 1 = .ok (.invokespecial 1, 3) := by decide +kernel
theorem dX2_init_4 : decode cX2_init 4 = .ok (.aload_n 0, 1) := by decide +kernel
theorem dX2_init_5 : decode cX2_init 5 = .ok (.dconst 1, 1) := by decide +kernel
theorem dX2_init_6 : decode cX2_init 6 = .ok (.putfield 7, 3) := by decide +kernel
theorem dX2_init_9 : decode cX2_init 9 = .ok (.aload_n 0, 1) := by decide +kernel
theorem dX2_init_10 : decode cX2_init 10 = .ok (.dconst 0, 1) := by decide +kernel
theorem dX2_init_11 : decode cX2_init 11 = .ok (.putfield 13, 3) := by decide +kernel
theorem dX2_init_14 : decode cX2_init 14 = .ok (.aload_n 0, 1) := by decide +kernel
theorem dX2_init_15 : decode cX2_init 15 = .ok (.dconst 0, 1) := by decide +kernel
theorem dX2_init_16 : decode cX2_init 16 = .ok (.putfield 16, 3) := by decide +kernel
theorem dX2_init_19 : decode cX2_init 19 = .ok (.aload_n 0, 1) := by decide +kernel
theorem dX2_init_20 : decode cX2_init 20 = .ok (.dconst 1, 1) := by decide +kernel
theorem dX2_init_21 : decode cX2_init 21 = .ok (.putfield 19, 3) := by decide +kernel
theorem dX2_init_24 : decode cX2_init 24 = .ok (.return_, 1) := by decide +kernel
set_option maxRecDepth 20000 in
theorem ggX2_become_X3_speedOf : GoodIn wsX2_become wsX3_speedOf := goodIn_r _ [7] (by decide +kernel) (by decide +kernel)
set_option maxRecDepth 20000 in
theorem gX2_become_X3_speedOf_n22 : GoodIn wsX2_become (wsX3_speedOf) := ggX2_become_X3_speedOf
set_option maxRecDepth 20000 in
theorem ggX2_become_X3_root : GoodIn wsX2_become wsX3_root := goodIn_r _ [9, 10] (by decide +kernel) (by decide +kernel)
set_option maxRecDepth 20000 in
theorem gX2_become_X3_root_n28 : GoodIn wsX2_become (wsX3_root) := ggX2_become_X3_root
theorem dX2_become_0 : decode cX2_become 0 = .ok (.aload_n 0, 1) := by decide +kernel
theorem dX2_become_1 : decode cX2_become 1 = .ok (.dload_n 1, 1) := by decide +kernel
theorem dX2_become_2 : decode cX2_become 2 = .ok (.putfield 7, 3) := by decide +kernel
theorem dX2_become_5 : decode cX2_become 5 = .ok (.aload_n 0, 1) := by decide +kernel
theorem dX2_become_6 : decode cX2_become 6 = .ok (.dload_n 3, 1) := by decide +kernel
theorem dX2_become_7 : decode cX2_become 7 = .ok (.putfield 13, 3) := by decide +kernel
theorem dX2_become_10 : decode cX2_become 10 = .ok (.aload_n 0, 1) := by decide +kernel
theorem dX2_become_11 : decode cX2_become 11 = .ok (.dload_n 1, 1) := by decide +kernel
theorem dX2_become_12 : decode cX2_become 12 = .ok (.dload_n 3, 1) := by decide +kernel
theorem dX2_become_13 : decode cX2_become 13 = .ok (.invokestatic 22, 3) := by decide +kernel
theorem dX2_become_16 : decode cX2_become 16 = .ok (.putfield 16, 3) := by decide +kernel
theorem dX2_become_19 : decode cX2_become 19 = .ok (.aload_n 0, 1) := by decide +kernel
theorem dX2_become_20 : decode cX2_become 20 = .ok (.dload_n 1, 1) := by decide +kernel
theorem dX2_become_21 : decode cX2_become 21 = .ok (.invokestatic 28, 3) := by decide +kernel
theorem dX2_become_24 : decode cX2_become 24 = .ok (.putfield 19, 3) := by decide +kernel
theorem dX2_become_27 : decode cX2_become 27 = .ok (.return_, 1) := by decide +kernel
set_option maxRecDepth 20000 in
theorem ggX2_reach_X3_absolute : GoodIn wsX2_reach wsX3_absolute := goodIn_r _ [5] (by decide +kernel) (by decide +kernel)
set_option maxRecDepth 20000 in
theorem gX2_reach_X3_absolute_n32 : GoodIn wsX2_reach (wsX3_absolute) := ggX2_reach_X3_absolute
theorem dX2_reach_0 : decode cX2_reach 0 = .ok (.aload_n 0, 1) := by decide +kernel
theorem dX2_reach_1 : decode cX2_reach 1 = .ok (.getfield 16, 3) := by decide +kernel
theorem dX2_reach_4 : decode cX2_reach 4 = .ok (.invokestatic 32, 3) := by decide +kernel
theorem dX2_reach_7 : decode cX2_reach 7 = .ok (.aload_n 0, 1) := by decide +kernel
theorem dX2_reach_8 : decode cX2_reach 8 = .ok (.getfield 19, 3) := by decide +kernel
theorem dX2_reach_11 : decode cX2_reach 11 = .ok (.dadd, 1) := by decide +kernel
theorem dX2_reach_12 : decode cX2_reach 12 = .ok (.dreturn, 1) := by decide +kernel
theorem dX2_depthFlux_0 : decode cX2_depthFlux 0 = .ok (.aload_n 0, 1) := by decide +kernel
theorem dX2_depthFlux_1 : decode cX2_depthFlux 1 = .ok (.getfield 13, 3) := by decide +kernel
theorem dX2_depthFlux_4 : decode cX2_depthFlux 4 = .ok (.dreturn, 1) := by decide +kernel
theorem dX2_momentumFlux_0 : decode cX2_momentumFlux 0 = .ok (.aload_n 0, 1) := by decide +kernel
theorem dX2_momentumFlux_1 : decode cX2_momentumFlux 1 = .ok (.getfield 13, 3) := by decide +kernel
theorem dX2_momentumFlux_4 : decode cX2_momentumFlux 4 = .ok (.aload_n 0, 1) := by decide +kernel
theorem dX2_momentumFlux_5 : decode cX2_momentumFlux 5 = .ok (.getfield 16, 3) := by decide +kernel
theorem dX2_momentumFlux_8 : decode cX2_momentumFlux 8 = .ok (.dmul, 1) := by decide +kernel
theorem dX2_momentumFlux_9 : decode cX2_momentumFlux 9 = .ok (.ldc2_w 35, 3) := by decide +kernel
theorem dX2_momentumFlux_12 : decode cX2_momentumFlux 12 = .ok (.aload_n 0, 1) := by decide +kernel
theorem dX2_momentumFlux_13 : decode cX2_momentumFlux 13 = .ok (.getfield 7, 3) := by decide +kernel
theorem dX2_momentumFlux_16 : decode cX2_momentumFlux 16 = .ok (.dmul, 1) := by decide +kernel
theorem dX2_momentumFlux_17 : decode cX2_momentumFlux 17 = .ok (.aload_n 0, 1) := by decide +kernel
theorem dX2_momentumFlux_18 : decode cX2_momentumFlux 18 = .ok (.getfield 7, 3) := by decide +kernel
theorem dX2_momentumFlux_21 : decode cX2_momentumFlux 21 = .ok (.dmul, 1) := by decide +kernel
theorem dX2_momentumFlux_22 : decode cX2_momentumFlux 22 = .ok (.dadd, 1) := by decide +kernel
theorem dX2_momentumFlux_23 : decode cX2_momentumFlux 23 = .ok (.dreturn, 1) := by decide +kernel
set_option maxRecDepth 20000 in
theorem ggX3_init_X1_init : GoodIn wsX3_init wsX1_init := goodIn_r _ [22, 23, 2, 3, 24, 25, 26, 27, 51, 52, 53] (by decide +kernel) (by decide +kernel)
set_option maxRecDepth 20000 in
theorem gX3_init_X1_init_n11 : GoodIn wsX3_init (wsX1_init) := ggX3_init_X1_init
set_option maxRecDepth 20000 in
theorem ggX3_init_X0_init : GoodIn wsX3_init wsX0_init := goodIn_r _ [29, 30, 2, 3, 24, 31, 32, 33, 34, 35, 36, 37, 38, 39, 40, 41, 42, 43, 44, 45, 46, 65, 66, 67, 68, 69, 70, 71, 72, 73, 74] (by decide +kernel) (by decide +kernel)
set_option maxRecDepth 20000 in
theorem gX3_init_X0_init_n21 : GoodIn wsX3_init (wsX0_init) := ggX3_init_X0_init
set_option maxRecDepth 20000 in
theorem ggX3_init_X1_level : GoodIn wsX3_init wsX1_level := goodIn_r _ [50, 27, 25, 26, 51, 52, 53] (by decide +kernel) (by decide +kernel)
set_option maxRecDepth 20000 in
theorem gX3_init_X1_level : GoodIn wsX3_init (wsV RX3 52 RX1 yX1_level wsX1_level) := goodIn_app (goodIn_of _ (by decide +kernel)) ggX3_init_X1_level
theorem dX3_init_0 : decode cX3_init 0 = .ok (.aload_n 0, 1) := by decide +kernel
theorem dX3_init_1 : decode cX3_init 1 = .ok (.invokespecial 3, 3) := by decide +kernel
theorem dX3_init_4 : decode cX3_init 4 = .ok (.aload_n 0, 1) := by decide +kernel
theorem dX3_init_5 : decode cX3_init 5 = .ok (.new 9, 3) := by decide +kernel
theorem dX3_init_8 : decode cX3_init 8 = .ok (.dup, 1) := by decide +kernel
theorem dX3_init_9 : decode cX3_init 9 = .ok (.invokespecial 11, 3) := by decide +kernel
theorem dX3_init_12 : decode cX3_init 12 = .ok (.putfield 12, 3) := by decide +kernel
theorem dX3_init_15 : decode cX3_init 15 = .ok (.aload_n 0, 1) := by decide +kernel
theorem dX3_init_16 : decode cX3_init 16 = .ok (.new 9, 3) := by decide +kernel
theorem dX3_init_19 : decode cX3_init 19 = .ok (.dup, 1) := by decide +kernel
theorem dX3_init_20 : decode cX3_init 20 = .ok (.invokespecial 11, 3) := by decide +kernel
theorem dX3_init_23 : decode cX3_init 23 = .ok (.putfield 16, 3) := by decide +kernel
theorem dX3_init_26 : decode cX3_init 26 = .ok (.aload_n 0, 1) := by decide +kernel
theorem dX3_init_27 : decode cX3_init 27 = .ok (.new 19, 3) := by decide +kernel
theorem dX3_init_30 : decode cX3_init 30 = .ok (.dup, 1) := by decide +kernel
theorem dX3_init_31 : decode cX3_init 31 = .ok (.invokespecial 21, 3) := by decide +kernel
theorem dX3_init_34 : decode cX3_init 34 = .ok (.putfield 22, 3) := by decide +kernel
theorem dX3_init_37 : decode cX3_init 37 = .ok (.aload_n 0, 1) := by decide +kernel
theorem dX3_init_38 : decode cX3_init 38 = .ok (.iconst 0, 1) := by decide +kernel
theorem dX3_init_39 : decode cX3_init 39 = .ok (.putfield 26, 3) := by decide +kernel
theorem dX3_init_42 : decode cX3_init 42 = .ok (.aload_n 0, 1) := by decide +kernel
theorem dX3_init_43 : decode cX3_init 43 = .ok (.iconst 1, 1) := by decide +kernel
theorem dX3_init_44 : decode cX3_init 44 = .ok (.putfield 30, 3) := by decide +kernel
theorem dX3_init_47 : decode cX3_init 47 = .ok (.aload_n 0, 1) := by decide +kernel
theorem dX3_init_48 : decode cX3_init 48 = .ok (.iconst 0, 1) := by decide +kernel
theorem dX3_init_49 : decode cX3_init 49 = .ok (.putfield 33, 3) := by decide +kernel
theorem dX3_init_52 : decode cX3_init 52 = .ok (.aload_n 0, 1) := by decide +kernel
theorem dX3_init_53 : decode cX3_init 53 = .ok (.iconst 1, 1) := by decide +kernel
theorem dX3_init_54 : decode cX3_init 54 = .ok (.putfield 36, 3) := by decide +kernel
theorem dX3_init_57 : decode cX3_init 57 = .ok (.aload_n 0, 1) := by decide +kernel
theorem dX3_init_58 : decode cX3_init 58 = .ok (.dconst 0, 1) := by decide +kernel
theorem dX3_init_59 : decode cX3_init 59 = .ok (.putfield 39, 3) := by decide +kernel
theorem dX3_init_62 : decode cX3_init 62 = .ok (.aload_n 0, 1) := by decide +kernel
theorem dX3_init_63 : decode cX3_init 63 = .ok (.iconst 0, 1) := by decide +kernel
theorem dX3_init_64 : decode cX3_init 64 = .ok (.putfield 43, 3) := by decide +kernel
theorem dX3_init_67 : decode cX3_init 67 = .ok (.aload_n 0, 1) := by decide +kernel
theorem dX3_init_68 : decode cX3_init 68 = .ok (.iconst 0, 1) := by decide +kernel
theorem dX3_init_69 : decode cX3_init 69 = .ok (.putfield 46, 3) := by decide +kernel
theorem dX3_init_72 : decode cX3_init 72 = .ok (.aload_n 0, 1) := by decide +kernel
theorem dX3_init_73 : decode cX3_init 73 = .ok (.iconst 0, 1) := by decide +kernel
theorem dX3_init_74 : decode cX3_init 74 = .ok (.putfield 49, 3) := by decide +kernel
theorem dX3_init_77 : decode cX3_init 77 = .ok (.aload_n 0, 1) := by decide +kernel
theorem dX3_init_78 : decode cX3_init 78 = .ok (.getfield 12, 3) := by decide +kernel
theorem dX3_init_81 : decode cX3_init 81 = .ok (.bipush 8, 2) := by decide +kernel
theorem dX3_init_83 : decode cX3_init 83 = .ok (.invokevirtual 52, 3) := by decide +kernel
theorem dX3_init_86 : decode cX3_init 86 = .ok (.return_, 1) := by decide +kernel
set_option maxRecDepth 20000 in
theorem ggX3_cells_X3_isWithin : GoodIn wsX3_cells wsX3_isWithin := goodIn_r _ [8] (by decide +kernel) (by decide +kernel)
set_option maxRecDepth 20000 in
theorem gX3_cells_X3_isWithin : GoodIn wsX3_cells (va_wsS RX3 56 yX3_isWithin wsX3_isWithin) := goodIn_app (goodIn_of _ (by decide +kernel)) ggX3_cells_X3_isWithin
set_option maxRecDepth 20000 in
theorem ggX3_cells_X1_level : GoodIn wsX3_cells wsX1_level := goodIn_r _ [13, 14, 15, 16, 28, 29, 30] (by decide +kernel) (by decide +kernel)
set_option maxRecDepth 20000 in
theorem gX3_cells_X1_level : GoodIn wsX3_cells (wsV RX3 52 RX1 yX1_level wsX1_level) := goodIn_app (goodIn_of _ (by decide +kernel)) ggX3_cells_X1_level
theorem dX3_cells_0 : decode cX3_cells 0 = .ok (.iload_n 1, 1) := by decide +kernel
theorem dX3_cells_1 : decode cX3_cells 1 = .ok (.iconst 4, 1) := by decide +kernel
theorem dX3_cells_2 : decode cX3_cells 2 = .ok (.bipush 24, 2) := by decide +kernel
theorem dX3_cells_4 : decode cX3_cells 4 = .ok (.invokestatic 56, 3) := by decide +kernel
theorem dX3_cells_7 : decode cX3_cells 7 = .ok (.ifCond .ne 13, 3) := by decide +kernel
theorem dX3_cells_10 : decode cX3_cells 10 = .ok (.new 60, 3) := by decide +kernel
theorem dX3_cells_13 : decode cX3_cells 13 = .ok (.dup, 1) := by decide +kernel
theorem dX3_cells_14 : decode cX3_cells 14 = .ok (.ldc 62, 2) := by decide +kernel
theorem dX3_cells_16 : decode cX3_cells 16 = .ok (.invokespecial 64, 3) := by decide +kernel
theorem dX3_cells_19 : decode cX3_cells 19 = .ok (.athrow, 1) := by decide +kernel
theorem dX3_cells_20 : decode cX3_cells 20 = .ok (.aload_n 0, 1) := by decide +kernel
theorem dX3_cells_21 : decode cX3_cells 21 = .ok (.getfield 12, 3) := by decide +kernel
theorem dX3_cells_24 : decode cX3_cells 24 = .ok (.iload_n 1, 1) := by decide +kernel
theorem dX3_cells_25 : decode cX3_cells 25 = .ok (.invokevirtual 52, 3) := by decide +kernel
theorem dX3_cells_28 : decode cX3_cells 28 = .ok (.aload_n 0, 1) := by decide +kernel
theorem dX3_cells_29 : decode cX3_cells 29 = .ok (.dconst 0, 1) := by decide +kernel
theorem dX3_cells_30 : decode cX3_cells 30 = .ok (.putfield 39, 3) := by decide +kernel
theorem dX3_cells_33 : decode cX3_cells 33 = .ok (.return_, 1) := by decide +kernel
set_option maxRecDepth 20000 in
theorem ggX3_choose_X3_isWithin : GoodIn wsX3_choose wsX3_isWithin := goodIn_r _ [10] (by decide +kernel) (by decide +kernel)
set_option maxRecDepth 20000 in
theorem gX3_choose_X3_isWithin : GoodIn wsX3_choose (va_wsS RX3 56 yX3_isWithin wsX3_isWithin) := goodIn_app (goodIn_of _ (by decide +kernel)) ggX3_choose_X3_isWithin
theorem dX3_choose_0 : decode cX3_choose 0 = .ok (.iload_n 1, 1) := by decide +kernel
theorem dX3_choose_1 : decode cX3_choose 1 = .ok (.iconst 0, 1) := by decide +kernel
theorem dX3_choose_2 : decode cX3_choose 2 = .ok (.iconst 2, 1) := by decide +kernel
theorem dX3_choose_3 : decode cX3_choose 3 = .ok (.invokestatic 56, 3) := by decide +kernel
theorem dX3_choose_6 : decode cX3_choose 6 = .ok (.ifCond .eq 31, 3) := by decide +kernel
theorem dX3_choose_9 : decode cX3_choose 9 = .ok (.iload_n 2, 1) := by decide +kernel
theorem dX3_choose_10 : decode cX3_choose 10 = .ok (.iconst 0, 1) := by decide +kernel
theorem dX3_choose_11 : decode cX3_choose 11 = .ok (.iconst 3, 1) := by decide +kernel
theorem dX3_choose_12 : decode cX3_choose 12 = .ok (.invokestatic 56, 3) := by decide +kernel
theorem dX3_choose_15 : decode cX3_choose 15 = .ok (.ifCond .eq 22, 3) := by decide +kernel
theorem dX3_choose_18 : decode cX3_choose 18 = .ok (.iload_n 3, 1) := by decide +kernel
theorem dX3_choose_19 : decode cX3_choose 19 = .ok (.iconst 0, 1) := by decide +kernel
theorem dX3_choose_20 : decode cX3_choose 20 = .ok (.iconst 1, 1) := by decide +kernel
theorem dX3_choose_21 : decode cX3_choose 21 = .ok (.invokestatic 56, 3) := by decide +kernel
theorem dX3_choose_24 : decode cX3_choose 24 = .ok (.ifCond .eq 13, 3) := by decide +kernel
theorem dX3_choose_27 : decode cX3_choose 27 = .ok (.iload 4, 2) := by decide +kernel
theorem dX3_choose_29 : decode cX3_choose 29 = .ok (.iconst 1, 1) := by decide +kernel
theorem dX3_choose_30 : decode cX3_choose 30 = .ok (.iconst 2, 1) := by decide +kernel
theorem dX3_choose_31 : decode cX3_choose 31 = .ok (.invokestatic 56, 3) := by decide +kernel
theorem dX3_choose_34 : decode cX3_choose 34 = .ok (.ifCond .ne 13, 3) := by decide +kernel
theorem dX3_choose_37 : decode cX3_choose 37 = .ok (.new 60, 3) := by decide +kernel
theorem dX3_choose_40 : decode cX3_choose 40 = .ok (.dup, 1) := by decide +kernel
theorem dX3_choose_41 : decode cX3_choose 41 = .ok (.ldc 67, 2) := by decide +kernel
theorem dX3_choose_43 : decode cX3_choose 43 = .ok (.invokespecial 64, 3) := by decide +kernel
theorem dX3_choose_46 : decode cX3_choose 46 = .ok (.athrow, 1) := by decide +kernel
theorem dX3_choose_47 : decode cX3_choose 47 = .ok (.aload_n 0, 1) := by decide +kernel
theorem dX3_choose_48 : decode cX3_choose 48 = .ok (.iload_n 1, 1) := by decide +kernel
theorem dX3_choose_49 : decode cX3_choose 49 = .ok (.putfield 26, 3) := by decide +kernel
theorem dX3_choose_52 : decode cX3_choose 52 = .ok (.aload_n 0, 1) := by decide +kernel
theorem dX3_choose_53 : decode cX3_choose 53 = .ok (.iload_n 2, 1) := by decide +kernel
theorem dX3_choose_54 : decode cX3_choose 54 = .ok (.putfield 30, 3) := by decide +kernel
theorem dX3_choose_57 : decode cX3_choose 57 = .ok (.aload_n 0, 1) := by decide +kernel
theorem dX3_choose_58 : decode cX3_choose 58 = .ok (.iload_n 3, 1) := by decide +kernel
theorem dX3_choose_59 : decode cX3_choose 59 = .ok (.putfield 33, 3) := by decide +kernel
theorem dX3_choose_62 : decode cX3_choose 62 = .ok (.aload_n 0, 1) := by decide +kernel
theorem dX3_choose_63 : decode cX3_choose 63 = .ok (.iload 4, 2) := by decide +kernel
theorem dX3_choose_65 : decode cX3_choose 65 = .ok (.putfield 36, 3) := by decide +kernel
theorem dX3_choose_68 : decode cX3_choose 68 = .ok (.return_, 1) := by decide +kernel
set_option maxRecDepth 20000 in
theorem ggX3_put_X1_has : GoodIn wsX3_put wsX1_has := goodIn_r _ [14, 15, 27, 28, 29] (by decide +kernel) (by decide +kernel)
set_option maxRecDepth 20000 in
theorem gX3_put_X1_has : GoodIn wsX3_put (wsV RX3 69 RX1 yX1_has wsX1_has) := goodIn_app (goodIn_of _ (by decide +kernel)) ggX3_put_X1_has
theorem dX3_put_0 : decode cX3_put 0 = .ok (.aload_n 0, 1) := by decide +kernel
theorem dX3_put_1 : decode cX3_put 1 = .ok (.getfield 12, 3) := by decide +kernel
theorem dX3_put_4 : decode cX3_put 4 = .ok (.iload_n 1, 1) := by decide +kernel
theorem dX3_put_5 : decode cX3_put 5 = .ok (.invokevirtual 69, 3) := by decide +kernel
theorem dX3_put_8 : decode cX3_put 8 = .ok (.ifCond .ne 13, 3) := by decide +kernel
theorem dX3_put_11 : decode cX3_put 11 = .ok (.new 60, 3) := by decide +kernel
theorem dX3_put_14 : decode cX3_put 14 = .ok (.dup, 1) := by decide +kernel
theorem dX3_put_15 : decode cX3_put 15 = .ok (.ldc 73, 2) := by decide +kernel
theorem dX3_put_17 : decode cX3_put 17 = .ok (.invokespecial 64, 3) := by decide +kernel
theorem dX3_put_20 : decode cX3_put 20 = .ok (.athrow, 1) := by decide +kernel
theorem dX3_put_21 : decode cX3_put 21 = .ok (.dload_n 2, 1) := by decide +kernel
theorem dX3_put_22 : decode cX3_put 22 = .ok (.ldc2_w 75, 3) := by decide +kernel
theorem dX3_put_25 : decode cX3_put 25 = .ok (.dcmp .l, 1) := by decide +kernel
theorem dX3_put_26 : decode cX3_put 26 = .ok (.ifCond .lt 11, 3) := by decide +kernel
theorem dX3_put_29 : decode cX3_put 29 = .ok (.dload_n 2, 1) := by decide +kernel
theorem dX3_put_30 : decode cX3_put 30 = .ok (.ldc2_w 77, 3) := by decide +kernel
theorem dX3_put_33 : decode cX3_put 33 = .ok (.dcmp .g, 1) := by decide +kernel
theorem dX3_put_34 : decode cX3_put 34 = .ok (.ifCond .le 13, 3) := by decide +kernel
theorem dX3_put_37 : decode cX3_put 37 = .ok (.new 60, 3) := by decide +kernel
theorem dX3_put_40 : decode cX3_put 40 = .ok (.dup, 1) := by decide +kernel
theorem dX3_put_41 : decode cX3_put 41 = .ok (.ldc 79, 2) := by decide +kernel
theorem dX3_put_43 : decode cX3_put 43 = .ok (.invokespecial 64, 3) := by decide +kernel
theorem dX3_put_46 : decode cX3_put 46 = .ok (.athrow, 1) := by decide +kernel
theorem dX3_put_47 : decode cX3_put 47 = .ok (.dload 4, 2) := by decide +kernel
theorem dX3_put_49 : decode cX3_put 49 = .ok (.ldc2_w 81, 3) := by decide +kernel
theorem dX3_put_52 : decode cX3_put 52 = .ok (.dcmp .l, 1) := by decide +kernel
theorem dX3_put_53 : decode cX3_put 53 = .ok (.ifCond .lt 12, 3) := by decide +kernel
theorem dX3_put_56 : decode cX3_put 56 = .ok (.dload 4, 2) := by decide +kernel
theorem dX3_put_58 : decode cX3_put 58 = .ok (.ldc2_w 83, 3) := by decide +kernel
theorem dX3_put_61 : decode cX3_put 61 = .ok (.dcmp .g, 1) := by decide +kernel
theorem dX3_put_62 : decode cX3_put 62 = .ok (.ifCond .le 13, 3) := by decide +kernel
theorem dX3_put_65 : decode cX3_put 65 = .ok (.new 60, 3) := by decide +kernel
end
section
theorem dX3_put_68 : decode cX3_put 68 = .ok (.dup, 1) := by decide +kernel
theorem dX3_put_69 : decode cX3_put 69 = .ok (.ldc 85, 2) := by decide +kernel
theorem dX3_put_71 : decode cX3_put 71 = .ok (.invokespecial 64, 3) := by decide +kernel
theorem dX3_put_74 : decode cX3_put 74 = .ok (.athrow, 1) := by decide +kernel
theorem dX3_put_75 : decode cX3_put 75 = .ok (.aload_n 0, 1) := by decide +kernel
theorem dX3_put_76 : decode cX3_put 76 = .ok (.getfield 12, 3) := by decide +kernel
theorem dX3_put_79 : decode cX3_put 79 = .ok (.getfield 87, 3) := by decide +kernel
theorem dX3_put_82 : decode cX3_put 82 = .ok (.iconst 2, 1) := by decide +kernel
theorem dX3_put_83 : decode cX3_put 83 = .ok (.iload_n 1, 1) := by decide +kernel
theorem dX3_put_84 : decode cX3_put 84 = .ok (.iadd, 1) := by decide +kernel
theorem dX3_put_85 : decode cX3_put 85 = .ok (.dload_n 2, 1) := by decide +kernel
theorem dX3_put_86 : decode cX3_put 86 = .ok (.dastore, 1) := by decide +kernel
theorem dX3_put_87 : decode cX3_put 87 = .ok (.aload_n 0, 1) := by decide +kernel
theorem dX3_put_88 : decode cX3_put 88 = .ok (.getfield 12, 3) := by decide +kernel
theorem dX3_put_91 : decode cX3_put 91 = .ok (.getfield 91, 3) := by decide +kernel
theorem dX3_put_94 : decode cX3_put 94 = .ok (.iconst 2, 1) := by decide +kernel
theorem dX3_put_95 : decode cX3_put 95 = .ok (.iload_n 1, 1) := by decide +kernel
theorem dX3_put_96 : decode cX3_put 96 = .ok (.iadd, 1) := by decide +kernel
theorem dX3_put_97 : decode cX3_put 97 = .ok (.dload 4, 2) := by decide +kernel
theorem dX3_put_99 : decode cX3_put 99 = .ok (.dastore, 1) := by decide +kernel
theorem dX3_put_100 : decode cX3_put 100 = .ok (.return_, 1) := by decide +kernel
set_option maxRecDepth 20000 in
theorem ggX3_step_X3_isSpan : GoodIn wsX3_step wsX3_isSpan := goodIn_r _ [6, 7] (by decide +kernel) (by decide +kernel)
set_option maxRecDepth 20000 in
theorem gX3_step_X3_isSpan : GoodIn wsX3_step (va_wsS RX3 94 yX3_isSpan wsX3_isSpan) := goodIn_app (goodIn_of _ (by decide +kernel)) ggX3_step_X3_isSpan
set_option maxRecDepth 20000 in
theorem ggX3_step_X3_advance : GoodIn wsX3_step wsX3_advance := goodIn_ca (goodIn_r _ [11, 12, 13, 14, 15, 16, 17, 18, 19, 20, 21, 22, 23, 24, 25, 26, 27, 28, 29, 5, 30, 31, 32, 33, 34, 35, 36, 37, 38, 39, 40, 41, 42, 43, 44, 45, 46, 47, 48, 49, 50, 51, 52, 53, 54, 55, 56, 57, 58, 59, 60, 61, 62, 63, 64, 65, 66, 67, 68, 69, 70, 71, 72, 73, 74, 75, 76, 77, 78, 79, 80, 81, 82, 83, 84, 85, 86, 87, 88, 89, 90, 91, 92, 93, 94, 95, 96, 97, 98, 99, 100, 101, 102, 103, 104, 105, 106, 107, 108, 109, 110, 111, 112, 113, 114, 115, 116, 117, 118, 119, 120, 121, 122, 123, 124, 125, 126, 127, 128, 129, 130, 131, 132, 133, 134, 135, 136, 137, 138, 139, 140, 141, 142, 143, 144, 145, 146, 147, 148, 149, 150, 151, 152, 153, 154, 155, 156, 157, 158, 159, 160, 161, 162, 163, 164, 165, 166, 167, 168, 169, 170, 171, 172, 173, 174, 175, 176, 177, 178, 179, 180, 181, 182] (by decide +kernel) (by decide +kernel)) (goodIn_sub (fun _ h => List.mem_cons_of_mem _ (List.mem_append_right _ h)) (by decide +kernel))
set_option maxRecDepth 20000 in
theorem gX3_step_X3_advance : GoodIn wsX3_step (wsV RX3 100 RX3 yX3_advance wsX3_advance) := goodIn_app (goodIn_of _ (by decide +kernel)) ggX3_step_X3_advance
theorem dX3_step_0 : decode cX3_step 0 = .ok (.dload_n 1, 1) := by decide +kernel
theorem dX3_step_1 : decode cX3_step 1 = .ok (.invokestatic 94, 3) := by decide +kernel
theorem dX3_step_4 : decode cX3_step 4 = .ok (.ifCond .ne 13, 3) := by decide +kernel
theorem dX3_step_7 : decode cX3_step 7 = .ok (.new 60, 3) := by decide +kernel
theorem dX3_step_10 : decode cX3_step 10 = .ok (.dup, 1) := by decide +kernel
theorem dX3_step_11 : decode cX3_step 11 = .ok (.ldc 98, 2) := by decide +kernel
theorem dX3_step_13 : decode cX3_step 13 = .ok (.invokespecial 64, 3) := by decide +kernel
theorem dX3_step_16 : decode cX3_step 16 = .ok (.athrow, 1) := by decide +kernel
theorem dX3_step_17 : decode cX3_step 17 = .ok (.aload_n 0, 1) := by decide +kernel
theorem dX3_step_18 : decode cX3_step 18 = .ok (.dload_n 1, 1) := by decide +kernel
theorem dX3_step_19 : decode cX3_step 19 = .ok (.invokevirtual 100, 3) := by decide +kernel
theorem dX3_step_22 : decode cX3_step 22 = .ok (.dreturn, 1) := by decide +kernel
set_option maxRecDepth 20000 in
theorem ggX3_run_X3_isSpan : GoodIn wsX3_run wsX3_isSpan := goodIn_r _ [7, 8] (by decide +kernel) (by decide +kernel)
set_option maxRecDepth 20000 in
theorem gX3_run_X3_isSpan : GoodIn wsX3_run (va_wsS RX3 94 yX3_isSpan wsX3_isSpan) := goodIn_app (goodIn_of _ (by decide +kernel)) ggX3_run_X3_isSpan
set_option maxRecDepth 20000 in
theorem ggX3_run_X3_advance : GoodIn wsX3_run wsX3_advance := goodIn_ca (goodIn_r _ [12, 13, 14, 15, 16, 17, 18, 19, 20, 21, 22, 23, 24, 25, 26, 27, 28, 29, 30, 6, 31, 32, 33, 34, 35, 36, 37, 38, 39, 40, 41, 42, 43, 44, 45, 46, 47, 48, 49, 50, 51, 52, 53, 54, 55, 56, 57, 58, 59, 60, 61, 62, 63, 64, 65, 66, 67, 68, 69, 70, 71, 72, 73, 74, 75, 76, 77, 78, 79, 80, 81, 82, 83, 84, 85, 86, 87, 88, 89, 90, 91, 92, 93, 94, 95, 96, 97, 98, 99, 100, 101, 102, 103, 104, 105, 106, 107, 108, 109, 110, 111, 112, 113, 114, 115, 116, 117, 118, 119, 120, 121, 122, 123, 124, 125, 126, 127, 128, 129, 130, 131, 132, 133, 134, 135, 136, 137, 138, 139, 140, 141, 142, 143, 144, 145, 146, 147, 148, 149, 150, 151, 152, 153, 154, 155, 156, 157, 158, 159, 160, 161, 162, 163, 164, 165, 166, 167, 168, 169, 170, 171, 172, 173, 174, 175, 176, 177, 178, 179, 180, 181, 182, 183] (by decide +kernel) (by decide +kernel)) (goodIn_sub (fun _ h => List.mem_cons_of_mem _ (List.mem_append_right _ h)) (by decide +kernel))
set_option maxRecDepth 20000 in
theorem gX3_run_X3_advance : GoodIn wsX3_run (wsV RX3 100 RX3 yX3_advance wsX3_advance) := goodIn_app (goodIn_of _ (by decide +kernel)) ggX3_run_X3_advance
theorem dX3_run_0 : decode cX3_run 0 = .ok (.dload_n 1, 1) := by decide +kernel
theorem dX3_run_1 : decode cX3_run 1 = .ok (.invokestatic 94, 3) := by decide +kernel
theorem dX3_run_4 : decode cX3_run 4 = .ok (.ifCond .ne 13, 3) := by decide +kernel
theorem dX3_run_7 : decode cX3_run 7 = .ok (.new 60, 3) := by decide +kernel
theorem dX3_run_10 : decode cX3_run 10 = .ok (.dup, 1) := by decide +kernel
theorem dX3_run_11 : decode cX3_run 11 = .ok (.ldc 98, 2) := by decide +kernel
theorem dX3_run_13 : decode cX3_run 13 = .ok (.invokespecial 64, 3) := by decide +kernel
theorem dX3_run_16 : decode cX3_run 16 = .ok (.athrow, 1) := by decide +kernel
theorem dX3_run_17 : decode cX3_run 17 = .ok (.dload_n 1, 1) := by decide +kernel
theorem dX3_run_18 : decode cX3_run 18 = .ok (.dstore_n 3, 1) := by decide +kernel
theorem dX3_run_19 : decode cX3_run 19 = .ok (.iconst 0, 1) := by decide +kernel
theorem dX3_run_20 : decode cX3_run 20 = .ok (.istore 5, 2) := by decide +kernel
theorem dX3_run_22 : decode cX3_run 22 = .ok (.iload 5, 2) := by decide +kernel
theorem dX3_run_24 : decode cX3_run 24 = .ok (.bipush 40, 2) := by decide +kernel
theorem dX3_run_26 : decode cX3_run 26 = .ok (.if_icmp .ge 25, 3) := by decide +kernel
theorem dX3_run_29 : decode cX3_run 29 = .ok (.dload_n 3, 1) := by decide +kernel
theorem dX3_run_30 : decode cX3_run 30 = .ok (.ldc2_w 104, 3) := by decide +kernel
theorem dX3_run_33 : decode cX3_run 33 = .ok (.dcmp .l, 1) := by decide +kernel
theorem dX3_run_34 : decode cX3_run 34 = .ok (.ifCond .lt 17, 3) := by decide +kernel
theorem dX3_run_37 : decode cX3_run 37 = .ok (.dload_n 3, 1) := by decide +kernel
theorem dX3_run_38 : decode cX3_run 38 = .ok (.aload_n 0, 1) := by decide +kernel
theorem dX3_run_39 : decode cX3_run 39 = .ok (.dload_n 3, 1) := by decide +kernel
theorem dX3_run_40 : decode cX3_run 40 = .ok (.invokevirtual 100, 3) := by decide +kernel
theorem dX3_run_43 : decode cX3_run 43 = .ok (.dsub, 1) := by decide +kernel
theorem dX3_run_44 : decode cX3_run 44 = .ok (.dstore_n 3, 1) := by decide +kernel
theorem dX3_run_45 : decode cX3_run 45 = .ok (.iinc 5 1, 3) := by decide +kernel
theorem dX3_run_48 : decode cX3_run 48 = .ok (.goto (-26), 3) := by decide +kernel
theorem dX3_run_51 : decode cX3_run 51 = .ok (.iload 5, 2) := by decide +kernel
theorem dX3_run_53 : decode cX3_run 53 = .ok (.ireturn, 1) := by decide +kernel
set_option maxRecDepth 20000 in
theorem ggX3_cell_X1_has : GoodIn wsX3_cell wsX1_has := goodIn_r _ [10, 11, 31, 32, 33] (by decide +kernel) (by decide +kernel)
set_option maxRecDepth 20000 in
theorem gX3_cell_X1_has : GoodIn wsX3_cell (wsV RX3 69 RX1 yX1_has wsX1_has) := goodIn_app (goodIn_of _ (by decide +kernel)) ggX3_cell_X1_has
set_option maxRecDepth 20000 in
theorem ggX3_cell_X3_speedOf : GoodIn wsX3_cell wsX3_speedOf := goodIn_r _ [15] (by decide +kernel) (by decide +kernel)
set_option maxRecDepth 20000 in
theorem gX3_cell_X3_speedOf : GoodIn wsX3_cell (va_wsS RX3 109 yX3_speedOf wsX3_speedOf) := goodIn_app (goodIn_of _ (by decide +kernel)) ggX3_cell_X3_speedOf
set_option maxRecDepth 20000 in
theorem ggX3_cell_X3_root : GoodIn wsX3_cell wsX3_root := goodIn_r _ [18, 19] (by decide +kernel) (by decide +kernel)
set_option maxRecDepth 20000 in
theorem gX3_cell_X3_root : GoodIn wsX3_cell (va_wsS RX3 113 yX3_root wsX3_root) := goodIn_app (goodIn_of _ (by decide +kernel)) ggX3_cell_X3_root
theorem dX3_cell_0 : decode cX3_cell 0 = .ok (.aload_n 0, 1) := by decide +kernel
theorem dX3_cell_1 : decode cX3_cell 1 = .ok (.getfield 12, 3) := by decide +kernel
theorem dX3_cell_4 : decode cX3_cell 4 = .ok (.iload_n 1, 1) := by decide +kernel
theorem dX3_cell_5 : decode cX3_cell 5 = .ok (.invokevirtual 69, 3) := by decide +kernel
theorem dX3_cell_8 : decode cX3_cell 8 = .ok (.ifCond .ne 13, 3) := by decide +kernel
theorem dX3_cell_11 : decode cX3_cell 11 = .ok (.new 106, 3) := by decide +kernel
theorem dX3_cell_14 : decode cX3_cell 14 = .ok (.dup, 1) := by decide +kernel
theorem dX3_cell_15 : decode cX3_cell 15 = .ok (.ldc 73, 2) := by decide +kernel
theorem dX3_cell_17 : decode cX3_cell 17 = .ok (.invokespecial 108, 3) := by decide +kernel
theorem dX3_cell_20 : decode cX3_cell 20 = .ok (.athrow, 1) := by decide +kernel
theorem dX3_cell_21 : decode cX3_cell 21 = .ok (.aload_n 0, 1) := by decide +kernel
theorem dX3_cell_22 : decode cX3_cell 22 = .ok (.getfield 12, 3) := by decide +kernel
theorem dX3_cell_25 : decode cX3_cell 25 = .ok (.getfield 87, 3) := by decide +kernel
theorem dX3_cell_28 : decode cX3_cell 28 = .ok (.iconst 2, 1) := by decide +kernel
theorem dX3_cell_29 : decode cX3_cell 29 = .ok (.iload_n 1, 1) := by decide +kernel
theorem dX3_cell_30 : decode cX3_cell 30 = .ok (.iadd, 1) := by decide +kernel
theorem dX3_cell_31 : decode cX3_cell 31 = .ok (.daload, 1) := by decide +kernel
theorem dX3_cell_32 : decode cX3_cell 32 = .ok (.dstore_n 3, 1) := by decide +kernel
theorem dX3_cell_33 : decode cX3_cell 33 = .ok (.aload_n 0, 1) := by decide +kernel
theorem dX3_cell_34 : decode cX3_cell 34 = .ok (.getfield 12, 3) := by decide +kernel
theorem dX3_cell_37 : decode cX3_cell 37 = .ok (.getfield 91, 3) := by decide +kernel
theorem dX3_cell_40 : decode cX3_cell 40 = .ok (.iconst 2, 1) := by decide +kernel
theorem dX3_cell_41 : decode cX3_cell 41 = .ok (.iload_n 1, 1) := by decide +kernel
theorem dX3_cell_42 : decode cX3_cell 42 = .ok (.iadd, 1) := by decide +kernel
theorem dX3_cell_43 : decode cX3_cell 43 = .ok (.daload, 1) := by decide +kernel
theorem dX3_cell_44 : decode cX3_cell 44 = .ok (.dstore 5, 2) := by decide +kernel
theorem dX3_cell_46 : decode cX3_cell 46 = .ok (.iload_n 2, 1) := by decide +kernel
theorem dX3_cell_47 : decode cX3_cell 47 = .ok (.tableswitch 46 0 3 #[29, 31, 34, 41], 29) := by decide +kernel
theorem dX3_cell_76 : decode cX3_cell 76 = .ok (.dload_n 3, 1) := by decide +kernel
theorem dX3_cell_77 : decode cX3_cell 77 = .ok (.dreturn, 1) := by decide +kernel
theorem dX3_cell_78 : decode cX3_cell 78 = .ok (.dload 5, 2) := by decide +kernel
theorem dX3_cell_80 : decode cX3_cell 80 = .ok (.dreturn, 1) := by decide +kernel
theorem dX3_cell_81 : decode cX3_cell 81 = .ok (.dload_n 3, 1) := by decide +kernel
theorem dX3_cell_82 : decode cX3_cell 82 = .ok (.dload 5, 2) := by decide +kernel
theorem dX3_cell_84 : decode cX3_cell 84 = .ok (.invokestatic 109, 3) := by decide +kernel
theorem dX3_cell_87 : decode cX3_cell 87 = .ok (.dreturn, 1) := by decide +kernel
theorem dX3_cell_88 : decode cX3_cell 88 = .ok (.dload_n 3, 1) := by decide +kernel
theorem dX3_cell_89 : decode cX3_cell 89 = .ok (.invokestatic 113, 3) := by decide +kernel
theorem dX3_cell_92 : decode cX3_cell 92 = .ok (.dreturn, 1) := by decide +kernel
theorem dX3_cell_93 : decode cX3_cell 93 = .ok (.new 106, 3) := by decide +kernel
theorem dX3_cell_96 : decode cX3_cell 96 = .ok (.dup, 1) := by decide +kernel
theorem dX3_cell_97 : decode cX3_cell 97 = .ok (.ldc 116, 2) := by decide +kernel
theorem dX3_cell_99 : decode cX3_cell 99 = .ok (.invokespecial 108, 3) := by decide +kernel
theorem dX3_cell_102 : decode cX3_cell 102 = .ok (.athrow, 1) := by decide +kernel
set_option maxRecDepth 20000 in
theorem ggX3_flux_X3_isWithin : GoodIn wsX3_flux wsX3_isWithin := goodIn_r _ [14] (by decide +kernel) (by decide +kernel)
set_option maxRecDepth 20000 in
theorem gX3_flux_X3_isWithin : GoodIn wsX3_flux (va_wsS RX3 56 yX3_isWithin wsX3_isWithin) := goodIn_app (goodIn_of _ (by decide +kernel)) ggX3_flux_X3_isWithin
set_option maxRecDepth 20000 in
theorem ggX3_flux_X1_fillEnds : GoodIn wsX3_flux wsX1_fillEnds := goodIn_r _ [19, 20, 21, 22, 23, 18, 24, 25, 26, 27, 28, 29, 30, 125, 126, 127] (by decide +kernel) (by decide +kernel)
set_option maxRecDepth 20000 in
theorem gX3_flux_X1_fillEnds : GoodIn wsX3_flux (wsV RX3 123 RX1 yX1_fillEnds wsX1_fillEnds) := goodIn_app (goodIn_of _ (by decide +kernel)) ggX3_flux_X1_fillEnds
set_option maxRecDepth 20000 in
theorem ggX3_flux_X0_measure : GoodIn wsX3_flux wsX0_measure := goodIn_r _ [35, 36, 37, 38, 39, 34, 40, 41, 42, 43, 44, 45, 46, 47, 48, 49, 50, 51, 52, 53, 54, 55, 56, 57, 58, 59, 60, 61, 62, 63, 64, 65, 66, 67, 68, 69, 70, 71, 72, 73, 13, 74, 75, 76, 77, 78, 79, 80, 81, 82, 83, 84, 85, 86, 87, 88, 89, 90, 91, 92, 93, 94, 95, 96, 97, 98, 99, 100, 101, 102, 103, 104, 105, 106, 107, 108, 109, 110, 111, 112, 113, 125, 126, 127, 128, 129, 130, 131, 132, 133, 134, 135, 136, 137] (by decide +kernel) (by decide +kernel)
set_option maxRecDepth 20000 in
theorem gX3_flux_X0_measure : GoodIn wsX3_flux (wsV RX3 126 RX0 yX0_measure wsX0_measure) := goodIn_app (goodIn_of _ (by decide +kernel)) ggX3_flux_X0_measure
theorem dX3_flux_0 : decode cX3_flux 0 = .ok (.iload_n 1, 1) := by decide +kernel
theorem dX3_flux_1 : decode cX3_flux 1 = .ok (.iconst 0, 1) := by decide +kernel
theorem dX3_flux_2 : decode cX3_flux 2 = .ok (.aload_n 0, 1) := by decide +kernel
theorem dX3_flux_3 : decode cX3_flux 3 = .ok (.getfield 12, 3) := by decide +kernel
theorem dX3_flux_6 : decode cX3_flux 6 = .ok (.getfield 118, 3) := by decide +kernel
theorem dX3_flux_9 : decode cX3_flux 9 = .ok (.invokestatic 56, 3) := by decide +kernel
theorem dX3_flux_12 : decode cX3_flux 12 = .ok (.ifCond .ne 13, 3) := by decide +kernel
theorem dX3_flux_15 : decode cX3_flux 15 = .ok (.new 106, 3) := by decide +kernel
theorem dX3_flux_18 : decode cX3_flux 18 = .ok (.dup, 1) := by decide +kernel
theorem dX3_flux_19 : decode cX3_flux 19 = .ok (.ldc 121, 2) := by decide +kernel
theorem dX3_flux_21 : decode cX3_flux 21 = .ok (.invokespecial 108, 3) := by decide +kernel
theorem dX3_flux_24 : decode cX3_flux 24 = .ok (.athrow, 1) := by decide +kernel
theorem dX3_flux_25 : decode cX3_flux 25 = .ok (.aload_n 0, 1) := by decide +kernel
theorem dX3_flux_26 : decode cX3_flux 26 = .ok (.getfield 12, 3) := by decide +kernel
theorem dX3_flux_29 : decode cX3_flux 29 = .ok (.aload_n 0, 1) := by decide +kernel
theorem dX3_flux_30 : decode cX3_flux 30 = .ok (.getfield 26, 3) := by decide +kernel
theorem dX3_flux_33 : decode cX3_flux 33 = .ok (.invokevirtual 123, 3) := by decide +kernel
theorem dX3_flux_36 : decode cX3_flux 36 = .ok (.aload_n 0, 1) := by decide +kernel
theorem dX3_flux_37 : decode cX3_flux 37 = .ok (.getfield 22, 3) := by decide +kernel
theorem dX3_flux_40 : decode cX3_flux 40 = .ok (.aload_n 0, 1) := by decide +kernel
theorem dX3_flux_41 : decode cX3_flux 41 = .ok (.getfield 12, 3) := by decide +kernel
theorem dX3_flux_44 : decode cX3_flux 44 = .ok (.aload_n 0, 1) := by decide +kernel
theorem dX3_flux_45 : decode cX3_flux 45 = .ok (.getfield 30, 3) := by decide +kernel
theorem dX3_flux_48 : decode cX3_flux 48 = .ok (.aload_n 0, 1) := by decide +kernel
theorem dX3_flux_49 : decode cX3_flux 49 = .ok (.getfield 33, 3) := by decide +kernel
theorem dX3_flux_52 : decode cX3_flux 52 = .ok (.invokevirtual 126, 3) := by decide +kernel
theorem dX3_flux_55 : decode cX3_flux 55 = .ok (.iload_n 2, 1) := by decide +kernel
theorem dX3_flux_56 : decode cX3_flux 56 = .ok (.ifCond .eq 15, 3) := by decide +kernel
theorem dX3_flux_59 : decode cX3_flux 59 = .ok (.aload_n 0, 1) := by decide +kernel
theorem dX3_flux_60 : decode cX3_flux 60 = .ok (.getfield 22, 3) := by decide +kernel
theorem dX3_flux_63 : decode cX3_flux 63 = .ok (.getfield 130, 3) := by decide +kernel
theorem dX3_flux_66 : decode cX3_flux 66 = .ok (.iload_n 1, 1) := by decide +kernel
theorem dX3_flux_67 : decode cX3_flux 67 = .ok (.daload, 1) := by decide +kernel
theorem dX3_flux_68 : decode cX3_flux 68 = .ok (.goto 12, 3) := by decide +kernel
theorem dX3_flux_71 : decode cX3_flux 71 = .ok (.aload_n 0, 1) := by decide +kernel
theorem dX3_flux_72 : decode cX3_flux 72 = .ok (.getfield 22, 3) := by decide +kernel
theorem dX3_flux_75 : decode cX3_flux 75 = .ok (.getfield 133, 3) := by decide +kernel
theorem dX3_flux_78 : decode cX3_flux 78 = .ok (.iload_n 1, 1) := by decide +kernel
theorem dX3_flux_79 : decode cX3_flux 79 = .ok (.daload, 1) := by decide +kernel
theorem dX3_flux_80 : decode cX3_flux 80 = .ok (.dreturn, 1) := by decide +kernel
set_option maxRecDepth 20000 in
theorem ggX3_sum_X1_total : GoodIn wsX3_sum wsX1_total := goodIn_r _ [8, 9, 21, 22, 23] (by decide +kernel) (by decide +kernel)
set_option maxRecDepth 20000 in
theorem gX3_sum_X1_total : GoodIn wsX3_sum (wsV RX3 136 RX1 yX1_total wsX1_total) := goodIn_app (goodIn_of _ (by decide +kernel)) ggX3_sum_X1_total
theorem dX3_sum_0 : decode cX3_sum 0 = .ok (.aload_n 0, 1) := by decide +kernel
theorem dX3_sum_1 : decode cX3_sum 1 = .ok (.getfield 12, 3) := by decide +kernel
theorem dX3_sum_4 : decode cX3_sum 4 = .ok (.iload_n 1, 1) := by decide +kernel
theorem dX3_sum_5 : decode cX3_sum 5 = .ok (.ifCond .eq 13, 3) := by decide +kernel
theorem dX3_sum_8 : decode cX3_sum 8 = .ok (.aload_n 0, 1) := by decide +kernel
theorem dX3_sum_9 : decode cX3_sum 9 = .ok (.getfield 12, 3) := by decide +kernel
theorem dX3_sum_12 : decode cX3_sum 12 = .ok (.getfield 91, 3) := by decide +kernel
theorem dX3_sum_15 : decode cX3_sum 15 = .ok (.goto 10, 3) := by decide +kernel
theorem dX3_sum_18 : decode cX3_sum 18 = .ok (.aload_n 0, 1) := by decide +kernel
theorem dX3_sum_19 : decode cX3_sum 19 = .ok (.getfield 12, 3) := by decide +kernel
theorem dX3_sum_22 : decode cX3_sum 22 = .ok (.getfield 87, 3) := by decide +kernel
theorem dX3_sum_25 : decode cX3_sum 25 = .ok (.invokevirtual 136, 3) := by decide +kernel
theorem dX3_sum_28 : decode cX3_sum 28 = .ok (.dreturn, 1) := by decide +kernel
theorem dX3_time_0 : decode cX3_time 0 = .ok (.aload_n 0, 1) := by decide +kernel
theorem dX3_time_1 : decode cX3_time 1 = .ok (.getfield 39, 3) := by decide +kernel
theorem dX3_time_4 : decode cX3_time 4 = .ok (.dreturn, 1) := by decide +kernel
theorem dX3_count_0 : decode cX3_count 0 = .ok (.iload_n 1, 1) := by decide +kernel
theorem dX3_count_1 : decode cX3_count 1 = .ok (.tableswitch 54 0 3 #[31, 39, 44, 49], 31) := by decide +kernel
theorem dX3_count_32 : decode cX3_count 32 = .ok (.aload_n 0, 1) := by decide +kernel
theorem dX3_count_33 : decode cX3_count 33 = .ok (.getfield 12, 3) := by decide +kernel
theorem dX3_count_36 : decode cX3_count 36 = .ok (.getfield 118, 3) := by decide +kernel
theorem dX3_count_39 : decode cX3_count 39 = .ok (.ireturn, 1) := by decide +kernel
theorem dX3_count_40 : decode cX3_count 40 = .ok (.aload_n 0, 1) := by decide +kernel
theorem dX3_count_41 : decode cX3_count 41 = .ok (.getfield 43, 3) := by decide +kernel
theorem dX3_count_44 : decode cX3_count 44 = .ok (.ireturn, 1) := by decide +kernel
theorem dX3_count_45 : decode cX3_count 45 = .ok (.aload_n 0, 1) := by decide +kernel
theorem dX3_count_46 : decode cX3_count 46 = .ok (.getfield 46, 3) := by decide +kernel
theorem dX3_count_49 : decode cX3_count 49 = .ok (.ireturn, 1) := by decide +kernel
theorem dX3_count_50 : decode cX3_count 50 = .ok (.aload_n 0, 1) := by decide +kernel
theorem dX3_count_51 : decode cX3_count 51 = .ok (.getfield 49, 3) := by decide +kernel
theorem dX3_count_54 : decode cX3_count 54 = .ok (.ireturn, 1) := by decide +kernel
theorem dX3_count_55 : decode cX3_count 55 = .ok (.new 106, 3) := by decide +kernel
theorem dX3_count_58 : decode cX3_count 58 = .ok (.dup, 1) := by decide +kernel
theorem dX3_count_59 : decode cX3_count 59 = .ok (.ldc 140, 2) := by decide +kernel
theorem dX3_count_61 : decode cX3_count 61 = .ok (.invokespecial 108, 3) := by decide +kernel
theorem dX3_count_64 : decode cX3_count 64 = .ok (.athrow, 1) := by decide +kernel
set_option maxRecDepth 20000 in
theorem ggX3_advance_X1_longestTime : GoodIn wsX3_advance wsX1_longestTime := goodIn_r _ [13, 14, 15, 16, 17, 18, 19, 20, 21, 22, 23, 24, 7, 25, 26, 27, 28, 160, 161, 162] (by decide +kernel) (by decide +kernel)
set_option maxRecDepth 20000 in
theorem gX3_advance_X1_longestTime : GoodIn wsX3_advance (wsV RX3 142 RX1 yX1_longestTime wsX1_longestTime) := goodIn_app (goodIn_of _ (by decide +kernel)) ggX3_advance_X1_longestTime
set_option maxRecDepth 20000 in
theorem ggX3_advance_X3_succeeds : GoodIn wsX3_advance wsX3_succeeds := goodIn_r _ [32, 33, 3, 34, 35, 36, 37, 38, 39, 40, 41, 12, 42, 14, 15, 43, 44, 45, 46, 16, 47, 48, 49, 50, 51, 52, 53, 54, 55, 56, 57, 58, 59, 60, 61, 62, 63, 64, 65, 66, 67, 68, 69, 70, 71, 72, 73, 74, 75, 76, 77, 78, 79, 80, 81, 82, 83, 84, 85, 86, 87, 88, 89, 90, 91, 92, 93, 94, 95, 96, 97, 98, 99, 100, 18, 19, 20, 23, 24, 7, 101, 102, 103, 104, 105, 106, 107, 108, 109, 110, 27, 28, 25, 26, 111, 112, 113, 114, 115, 116, 117, 118, 119, 120, 121, 122, 123, 124, 125, 126, 127, 128, 129, 130, 21, 22, 131, 132, 133, 134, 135, 136, 137, 138, 139, 140, 141, 142, 143, 144, 145, 146, 147, 148, 149, 150, 151, 152, 153, 154, 155, 156, 157, 158, 159, 160, 161, 162, 163, 164, 165, 166, 167, 168, 169, 170, 171, 172] (by decide +kernel) (by decide +kernel)
set_option maxRecDepth 20000 in
theorem gX3_advance_X3_succeeds : GoodIn wsX3_advance (wsV RX3 145 RX3 yX3_succeeds wsX3_succeeds) := goodIn_app (goodIn_of _ (by decide +kernel)) ggX3_advance_X3_succeeds
theorem dX3_advance_0 : decode cX3_advance 0 = .ok (.aload_n 0, 1) := by decide +kernel
theorem dX3_advance_1 : decode cX3_advance 1 = .ok (.getfield 12, 3) := by decide +kernel
theorem dX3_advance_4 : decode cX3_advance 4 = .ok (.dload_n 1, 1) := by decide +kernel
theorem dX3_advance_5 : decode cX3_advance 5 = .ok (.invokevirtual 142, 3) := by decide +kernel
theorem dX3_advance_8 : decode cX3_advance 8 = .ok (.dstore_n 3, 1) := by decide +kernel
theorem dX3_advance_9 : decode cX3_advance 9 = .ok (.iconst 0, 1) := by decide +kernel
theorem dX3_advance_10 : decode cX3_advance 10 = .ok (.istore 5, 2) := by decide +kernel
theorem dX3_advance_12 : decode cX3_advance 12 = .ok (.iload 5, 2) := by decide +kernel
theorem dX3_advance_14 : decode cX3_advance 14 = .ok (.iconst 5, 1) := by decide +kernel
theorem dX3_advance_15 : decode cX3_advance 15 = .ok (.if_icmp .ge 55, 3) := by decide +kernel
theorem dX3_advance_18 : decode cX3_advance 18 = .ok (.aload_n 0, 1) := by decide +kernel
theorem dX3_advance_19 : decode cX3_advance 19 = .ok (.dload_n 3, 1) := by decide +kernel
theorem dX3_advance_20 : decode cX3_advance 20 = .ok (.invokevirtual 145, 3) := by decide +kernel
theorem dX3_advance_23 : decode cX3_advance 23 = .ok (.ifCond .eq 25, 3) := by decide +kernel
theorem dX3_advance_26 : decode cX3_advance 26 = .ok (.aload_n 0, 1) := by decide +kernel
theorem dX3_advance_27 : decode cX3_advance 27 = .ok (.aload_n 0, 1) := by decide +kernel
theorem dX3_advance_28 : decode cX3_advance 28 = .ok (.getfield 39, 3) := by decide +kernel
theorem dX3_advance_31 : decode cX3_advance 31 = .ok (.dload_n 3, 1) := by decide +kernel
theorem dX3_advance_32 : decode cX3_advance 32 = .ok (.dadd, 1) := by decide +kernel
theorem dX3_advance_33 : decode cX3_advance 33 = .ok (.putfield 39, 3) := by decide +kernel
theorem dX3_advance_36 : decode cX3_advance 36 = .ok (.aload_n 0, 1) := by decide +kernel
theorem dX3_advance_37 : decode cX3_advance 37 = .ok (.dup, 1) := by decide +kernel
theorem dX3_advance_38 : decode cX3_advance 38 = .ok (.getfield 43, 3) := by decide +kernel
theorem dX3_advance_41 : decode cX3_advance 41 = .ok (.iconst 1, 1) := by decide +kernel
theorem dX3_advance_42 : decode cX3_advance 42 = .ok (.iadd, 1) := by decide +kernel
theorem dX3_advance_43 : decode cX3_advance 43 = .ok (.putfield 43, 3) := by decide +kernel
theorem dX3_advance_46 : decode cX3_advance 46 = .ok (.dload_n 3, 1) := by decide +kernel
theorem dX3_advance_47 : decode cX3_advance 47 = .ok (.dreturn, 1) := by decide +kernel
theorem dX3_advance_48 : decode cX3_advance 48 = .ok (.aload_n 0, 1) := by decide +kernel
theorem dX3_advance_49 : decode cX3_advance 49 = .ok (.dup, 1) := by decide +kernel
theorem dX3_advance_50 : decode cX3_advance 50 = .ok (.getfield 46, 3) := by decide +kernel
theorem dX3_advance_53 : decode cX3_advance 53 = .ok (.iconst 1, 1) := by decide +kernel
theorem dX3_advance_54 : decode cX3_advance 54 = .ok (.iadd, 1) := by decide +kernel
theorem dX3_advance_55 : decode cX3_advance 55 = .ok (.putfield 46, 3) := by decide +kernel
theorem dX3_advance_58 : decode cX3_advance 58 = .ok (.ldc2_w 148, 3) := by decide +kernel
theorem dX3_advance_61 : decode cX3_advance 61 = .ok (.dload_n 3, 1) := by decide +kernel
theorem dX3_advance_62 : decode cX3_advance 62 = .ok (.dmul, 1) := by decide +kernel
theorem dX3_advance_63 : decode cX3_advance 63 = .ok (.dstore_n 3, 1) := by decide +kernel
theorem dX3_advance_64 : decode cX3_advance 64 = .ok (.iinc 5 1, 3) := by decide +kernel
theorem dX3_advance_67 : decode cX3_advance 67 = .ok (.goto (-55), 3) := by decide +kernel
theorem dX3_advance_70 : decode cX3_advance 70 = .ok (.aload_n 0, 1) := by decide +kernel
theorem dX3_advance_71 : decode cX3_advance 71 = .ok (.dup, 1) := by decide +kernel
theorem dX3_advance_72 : decode cX3_advance 72 = .ok (.getfield 49, 3) := by decide +kernel
theorem dX3_advance_75 : decode cX3_advance 75 = .ok (.iconst 1, 1) := by decide +kernel
theorem dX3_advance_76 : decode cX3_advance 76 = .ok (.iadd, 1) := by decide +kernel
theorem dX3_advance_77 : decode cX3_advance 77 = .ok (.putfield 49, 3) := by decide +kernel
theorem dX3_advance_80 : decode cX3_advance 80 = .ok (.new 150, 3) := by decide +kernel
theorem dX3_advance_83 : decode cX3_advance 83 = .ok (.dup, 1) := by decide +kernel
theorem dX3_advance_84 : decode cX3_advance 84 = .ok (.ldc 152, 2) := by decide +kernel
theorem dX3_advance_86 : decode cX3_advance 86 = .ok (.invokespecial 154, 3) := by decide +kernel
theorem dX3_advance_89 : decode cX3_advance 89 = .ok (.athrow, 1) := by decide +kernel
set_option maxRecDepth 20000 in
theorem ggX3_succeeds_X1_become : GoodIn wsX3_succeeds wsX1_become := goodIn_r _ [12, 13, 14, 15, 16, 17, 18, 19, 145, 146, 147] (by decide +kernel) (by decide +kernel)
set_option maxRecDepth 20000 in
theorem gX3_succeeds_X1_become : GoodIn wsX3_succeeds (wsV RX3 155 RX1 yX1_become wsX1_become) := goodIn_app (goodIn_of _ (by decide +kernel)) ggX3_succeeds_X1_become
set_option maxRecDepth 20000 in
theorem ggX3_succeeds_X1_fillEnds : GoodIn wsX3_succeeds wsX1_fillEnds := goodIn_r _ [23, 13, 24, 25, 26, 11, 27, 14, 19, 28, 29, 30, 31, 145, 146, 147] (by decide +kernel) (by decide +kernel)
set_option maxRecDepth 20000 in
theorem gX3_succeeds_X1_fillEnds : GoodIn wsX3_succeeds (wsV RX3 123 RX1 yX1_fillEnds wsX1_fillEnds) := goodIn_app (goodIn_of _ (by decide +kernel)) ggX3_succeeds_X1_fillEnds
set_option maxRecDepth 20000 in
theorem ggX3_succeeds_X0_measure : GoodIn wsX3_succeeds wsX0_measure := goodIn_r _ [36, 37, 38, 39, 40, 35, 41, 42, 43, 44, 45, 46, 47, 48, 49, 50, 51, 52, 53, 54, 55, 56, 57, 58, 59, 60, 61, 62, 63, 64, 65, 66, 67, 68, 69, 70, 71, 72, 73, 74, 75, 76, 77, 78, 79, 80, 81, 82, 83, 84, 85, 86, 87, 88, 89, 90, 91, 92, 93, 94, 95, 96, 97, 98, 99, 100, 101, 102, 103, 104, 105, 106, 107, 108, 109, 110, 111, 112, 113, 114, 115, 145, 146, 147, 148, 149, 150, 151, 152, 153, 154, 155, 156, 157] (by decide +kernel) (by decide +kernel)
set_option maxRecDepth 20000 in
theorem gX3_succeeds_X0_measure : GoodIn wsX3_succeeds (wsV RX3 126 RX0 yX0_measure wsX0_measure) := goodIn_app (goodIn_of _ (by decide +kernel)) ggX3_succeeds_X0_measure
set_option maxRecDepth 20000 in
theorem ggX3_succeeds_X1_move : GoodIn wsX3_succeeds wsX1_move := goodIn_r _ [119, 13, 14, 120, 19, 121, 145, 146, 147, 148, 149, 150, 151, 152, 153] (by decide +kernel) (by decide +kernel)
set_option maxRecDepth 20000 in
theorem gX3_succeeds_X1_move : GoodIn wsX3_succeeds (wsV RX3 159 RX1 yX1_move wsX1_move) := goodIn_app (goodIn_of _ (by decide +kernel)) ggX3_succeeds_X1_move
set_option maxRecDepth 20000 in
theorem ggX3_succeeds_X1_hasFailed : GoodIn wsX3_succeeds wsX1_hasFailed := goodIn_r _ [125, 13, 14, 126, 19, 127, 128, 145, 146, 147] (by decide +kernel) (by decide +kernel)
set_option maxRecDepth 20000 in
theorem gX3_succeeds_X1_hasFailed : GoodIn wsX3_succeeds (wsV RX3 163 RX1 yX1_hasFailed wsX1_hasFailed) := goodIn_app (goodIn_of _ (by decide +kernel)) ggX3_succeeds_X1_hasFailed
set_option maxRecDepth 20000 in
theorem ggX3_succeeds_X1_meet : GoodIn wsX3_succeeds wsX1_meet := goodIn_r _ [132, 13, 14, 133, 19, 145, 146, 147] (by decide +kernel) (by decide +kernel)
set_option maxRecDepth 20000 in
theorem gX3_succeeds_X1_meet : GoodIn wsX3_succeeds (wsV RX3 167 RX1 yX1_meet wsX1_meet) := goodIn_app (goodIn_of _ (by decide +kernel)) ggX3_succeeds_X1_meet
theorem dX3_succeeds_0 : decode cX3_succeeds 0 = .ok (.aload_n 0, 1) := by decide +kernel
theorem dX3_succeeds_1 : decode cX3_succeeds 1 = .ok (.getfield 16, 3) := by decide +kernel
theorem dX3_succeeds_4 : decode cX3_succeeds 4 = .ok (.aload_n 0, 1) := by decide +kernel
theorem dX3_succeeds_5 : decode cX3_succeeds 5 = .ok (.getfield 12, 3) := by decide +kernel
theorem dX3_succeeds_8 : decode cX3_succeeds 8 = .ok (.invokevirtual 155, 3) := by decide +kernel
theorem dX3_succeeds_11 : decode cX3_succeeds 11 = .ok (.iconst 0, 1) := by decide +kernel
theorem dX3_succeeds_12 : decode cX3_succeeds 12 = .ok (.istore_n 3, 1) := by decide +kernel
theorem dX3_succeeds_13 : decode cX3_succeeds 13 = .ok (.iload_n 3, 1) := by decide +kernel
theorem dX3_succeeds_14 : decode cX3_succeeds 14 = .ok (.aload_n 0, 1) := by decide +kernel
theorem dX3_succeeds_15 : decode cX3_succeeds 15 = .ok (.getfield 36, 3) := by decide +kernel
theorem dX3_succeeds_18 : decode cX3_succeeds 18 = .ok (.if_icmp .ge 63, 3) := by decide +kernel
theorem dX3_succeeds_21 : decode cX3_succeeds 21 = .ok (.aload_n 0, 1) := by decide +kernel
theorem dX3_succeeds_22 : decode cX3_succeeds 22 = .ok (.getfield 16, 3) := by decide +kernel
theorem dX3_succeeds_25 : decode cX3_succeeds 25 = .ok (.aload_n 0, 1) := by decide +kernel
theorem dX3_succeeds_26 : decode cX3_succeeds 26 = .ok (.getfield 26, 3) := by decide +kernel
theorem dX3_succeeds_29 : decode cX3_succeeds 29 = .ok (.invokevirtual 123, 3) := by decide +kernel
theorem dX3_succeeds_32 : decode cX3_succeeds 32 = .ok (.aload_n 0, 1) := by decide +kernel
theorem dX3_succeeds_33 : decode cX3_succeeds 33 = .ok (.getfield 22, 3) := by decide +kernel
theorem dX3_succeeds_36 : decode cX3_succeeds 36 = .ok (.aload_n 0, 1) := by decide +kernel
theorem dX3_succeeds_37 : decode cX3_succeeds 37 = .ok (.getfield 16, 3) := by decide +kernel
theorem dX3_succeeds_40 : decode cX3_succeeds 40 = .ok (.aload_n 0, 1) := by decide +kernel
theorem dX3_succeeds_41 : decode cX3_succeeds 41 = .ok (.getfield 30, 3) := by decide +kernel
theorem dX3_succeeds_44 : decode cX3_succeeds 44 = .ok (.aload_n 0, 1) := by decide +kernel
theorem dX3_succeeds_45 : decode cX3_succeeds 45 = .ok (.getfield 33, 3) := by decide +kernel
theorem dX3_succeeds_48 : decode cX3_succeeds 48 = .ok (.invokevirtual 126, 3) := by decide +kernel
theorem dX3_succeeds_51 : decode cX3_succeeds 51 = .ok (.aload_n 0, 1) := by decide +kernel
theorem dX3_succeeds_52 : decode cX3_succeeds 52 = .ok (.getfield 16, 3) := by decide +kernel
theorem dX3_succeeds_55 : decode cX3_succeeds 55 = .ok (.dload_n 1, 1) := by decide +kernel
theorem dX3_succeeds_56 : decode cX3_succeeds 56 = .ok (.aload_n 0, 1) := by decide +kernel
theorem dX3_succeeds_57 : decode cX3_succeeds 57 = .ok (.getfield 22, 3) := by decide +kernel
theorem dX3_succeeds_60 : decode cX3_succeeds 60 = .ok (.invokevirtual 159, 3) := by decide +kernel
theorem dX3_succeeds_63 : decode cX3_succeeds 63 = .ok (.aload_n 0, 1) := by decide +kernel
theorem dX3_succeeds_64 : decode cX3_succeeds 64 = .ok (.getfield 16, 3) := by decide +kernel
theorem dX3_succeeds_67 : decode cX3_succeeds 67 = .ok (.invokevirtual 163, 3) := by decide +kernel
theorem dX3_succeeds_70 : decode cX3_succeeds 70 = .ok (.ifCond .eq 5, 3) := by decide +kernel
theorem dX3_succeeds_73 : decode cX3_succeeds 73 = .ok (.iconst 0, 1) := by decide +kernel
theorem dX3_succeeds_74 : decode cX3_succeeds 74 = .ok (.ireturn, 1) := by decide +kernel
theorem dX3_succeeds_75 : decode cX3_succeeds 75 = .ok (.iinc 3 1, 3) := by decide +kernel
theorem dX3_succeeds_78 : decode cX3_succeeds 78 = .ok (.goto (-65), 3) := by decide +kernel
theorem dX3_succeeds_81 : decode cX3_succeeds 81 = .ok (.aload_n 0, 1) := by decide +kernel
theorem dX3_succeeds_82 : decode cX3_succeeds 82 = .ok (.getfield 36, 3) := by decide +kernel
theorem dX3_succeeds_85 : decode cX3_succeeds 85 = .ok (.iconst 2, 1) := by decide +kernel
theorem dX3_succeeds_86 : decode cX3_succeeds 86 = .ok (.if_icmp .ne 14, 3) := by decide +kernel
theorem dX3_succeeds_89 : decode cX3_succeeds 89 = .ok (.aload_n 0, 1) := by decide +kernel
theorem dX3_succeeds_90 : decode cX3_succeeds 90 = .ok (.getfield 16, 3) := by decide +kernel
theorem dX3_succeeds_93 : decode cX3_succeeds 93 = .ok (.aload_n 0, 1) := by decide +kernel
theorem dX3_succeeds_94 : decode cX3_succeeds 94 = .ok (.getfield 12, 3) := by decide +kernel
theorem dX3_succeeds_97 : decode cX3_succeeds 97 = .ok (.invokevirtual 167, 3) := by decide +kernel
theorem dX3_succeeds_100 : decode cX3_succeeds 100 = .ok (.aload_n 0, 1) := by decide +kernel
theorem dX3_succeeds_101 : decode cX3_succeeds 101 = .ok (.getfield 12, 3) := by decide +kernel
theorem dX3_succeeds_104 : decode cX3_succeeds 104 = .ok (.aload_n 0, 1) := by decide +kernel
theorem dX3_succeeds_105 : decode cX3_succeeds 105 = .ok (.getfield 16, 3) := by decide +kernel
theorem dX3_succeeds_108 : decode cX3_succeeds 108 = .ok (.invokevirtual 155, 3) := by decide +kernel
theorem dX3_succeeds_111 : decode cX3_succeeds 111 = .ok (.iconst 1, 1) := by decide +kernel
theorem dX3_succeeds_112 : decode cX3_succeeds 112 = .ok (.ireturn, 1) := by decide +kernel
theorem dX3_isWithin_0 : decode cX3_isWithin 0 = .ok (.iload_n 0, 1) := by decide +kernel
theorem dX3_isWithin_1 : decode cX3_isWithin 1 = .ok (.iload_n 1, 1) := by decide +kernel
theorem dX3_isWithin_2 : decode cX3_isWithin 2 = .ok (.if_icmp .lt 12, 3) := by decide +kernel
theorem dX3_isWithin_5 : decode cX3_isWithin 5 = .ok (.iload_n 0, 1) := by decide +kernel
theorem dX3_isWithin_6 : decode cX3_isWithin 6 = .ok (.iload_n 2, 1) := by decide +kernel
theorem dX3_isWithin_7 : decode cX3_isWithin 7 = .ok (.if_icmp .gt 7, 3) := by decide +kernel
theorem dX3_isWithin_10 : decode cX3_isWithin 10 = .ok (.iconst 1, 1) := by decide +kernel
theorem dX3_isWithin_11 : decode cX3_isWithin 11 = .ok (.goto 4, 3) := by decide +kernel
theorem dX3_isWithin_14 : decode cX3_isWithin 14 = .ok (.iconst 0, 1) := by decide +kernel
theorem dX3_isWithin_15 : decode cX3_isWithin 15 = .ok (.ireturn, 1) := by decide +kernel
theorem dX3_isSpan_0 : decode cX3_isSpan 0 = .ok (.dload_n 0, 1) := by decide +kernel
theorem dX3_isSpan_1 : decode cX3_isSpan 1 = .ok (.dconst 0, 1) := by decide +kernel
theorem dX3_isSpan_2 : decode cX3_isSpan 2 = .ok (.dcmp .l, 1) := by decide +kernel
theorem dX3_isSpan_3 : decode cX3_isSpan 3 = .ok (.ifCond .le 15, 3) := by decide +kernel
theorem dX3_isSpan_6 : decode cX3_isSpan 6 = .ok (.dload_n 0, 1) := by decide +kernel
theorem dX3_isSpan_7 : decode cX3_isSpan 7 = .ok (.ldc2_w 170, 3) := by decide +kernel
theorem dX3_isSpan_10 : decode cX3_isSpan 10 = .ok (.dcmp .g, 1) := by decide +kernel
theorem dX3_isSpan_11 : decode cX3_isSpan 11 = .ok (.ifCond .gt 7, 3) := by decide +kernel
theorem dX3_isSpan_14 : decode cX3_isSpan 14 = .ok (.iconst 1, 1) := by decide +kernel
theorem dX3_isSpan_15 : decode cX3_isSpan 15 = .ok (.goto 4, 3) := by decide +kernel
theorem dX3_isSpan_18 : decode cX3_isSpan 18 = .ok (.iconst 0, 1) := by decide +kernel
theorem dX3_isSpan_19 : decode cX3_isSpan 19 = .ok (.ireturn, 1) := by decide +kernel
theorem dX3_root_0 : decode cX3_root 0 = .ok (.dload_n 0, 1) := by decide +kernel
theorem dX3_root_1 : decode cX3_root 1 = .ok (.dconst 1, 1) := by decide +kernel
theorem dX3_root_2 : decode cX3_root 2 = .ok (.dcmp .g, 1) := by decide +kernel
theorem dX3_root_3 : decode cX3_root 3 = .ok (.ifCond .ge 7, 3) := by decide +kernel
theorem dX3_root_6 : decode cX3_root 6 = .ok (.dconst 1, 1) := by decide +kernel
theorem dX3_root_7 : decode cX3_root 7 = .ok (.goto 4, 3) := by decide +kernel
theorem dX3_root_10 : decode cX3_root 10 = .ok (.dload_n 0, 1) := by decide +kernel
theorem dX3_root_11 : decode cX3_root 11 = .ok (.dstore_n 2, 1) := by decide +kernel
theorem dX3_root_12 : decode cX3_root 12 = .ok (.iconst 0, 1) := by decide +kernel
theorem dX3_root_13 : decode cX3_root 13 = .ok (.istore 4, 2) := by decide +kernel
theorem dX3_root_15 : decode cX3_root 15 = .ok (.iload 4, 2) := by decide +kernel
theorem dX3_root_17 : decode cX3_root 17 = .ok (.bipush 14, 2) := by decide +kernel
theorem dX3_root_19 : decode cX3_root 19 = .ok (.if_icmp .ge 25, 3) := by decide +kernel
theorem dX3_root_22 : decode cX3_root 22 = .ok (.dload_n 2, 1) := by decide +kernel
theorem dX3_root_23 : decode cX3_root 23 = .ok (.dconst 0, 1) := by decide +kernel
theorem dX3_root_24 : decode cX3_root 24 = .ok (.dcmp .l, 1) := by decide +kernel
theorem dX3_root_25 : decode cX3_root 25 = .ok (.ifCond .le 13, 3) := by decide +kernel
theorem dX3_root_28 : decode cX3_root 28 = .ok (.ldc2_w 148, 3) := by decide +kernel
theorem dX3_root_31 : decode cX3_root 31 = .ok (.dload_n 2, 1) := by decide +kernel
theorem dX3_root_32 : decode cX3_root 32 = .ok (.dload_n 0, 1) := by decide +kernel
theorem dX3_root_33 : decode cX3_root 33 = .ok (.dload_n 2, 1) := by decide +kernel
theorem dX3_root_34 : decode cX3_root 34 = .ok (.ddiv, 1) := by decide +kernel
theorem dX3_root_35 : decode cX3_root 35 = .ok (.dadd, 1) := by decide +kernel
theorem dX3_root_36 : decode cX3_root 36 = .ok (.dmul, 1) := by decide +kernel
theorem dX3_root_37 : decode cX3_root 37 = .ok (.dstore_n 2, 1) := by decide +kernel
theorem dX3_root_38 : decode cX3_root 38 = .ok (.iinc 4 1, 3) := by decide +kernel
theorem dX3_root_41 : decode cX3_root 41 = .ok (.goto (-26), 3) := by decide +kernel
theorem dX3_root_44 : decode cX3_root 44 = .ok (.dload_n 2, 1) := by decide +kernel
theorem dX3_root_45 : decode cX3_root 45 = .ok (.dreturn, 1) := by decide +kernel
theorem dX3_speedOf_0 : decode cX3_speedOf 0 = .ok (.dload_n 0, 1) := by decide +kernel
theorem dX3_speedOf_1 : decode cX3_speedOf 1 = .ok (.dconst 0, 1) := by decide +kernel
theorem dX3_speedOf_2 : decode cX3_speedOf 2 = .ok (.dcmp .l, 1) := by decide +kernel
theorem dX3_speedOf_3 : decode cX3_speedOf 3 = .ok (.ifCond .le 9, 3) := by decide +kernel
theorem dX3_speedOf_6 : decode cX3_speedOf 6 = .ok (.dload_n 2, 1) := by decide +kernel
theorem dX3_speedOf_7 : decode cX3_speedOf 7 = .ok (.dload_n 0, 1) := by decide +kernel
theorem dX3_speedOf_8 : decode cX3_speedOf 8 = .ok (.ddiv, 1) := by decide +kernel
theorem dX3_speedOf_9 : decode cX3_speedOf 9 = .ok (.goto 4, 3) := by decide +kernel
theorem dX3_speedOf_12 : decode cX3_speedOf 12 = .ok (.dconst 0, 1) := by decide +kernel
theorem dX3_speedOf_13 : decode cX3_speedOf 13 = .ok (.dreturn, 1) := by decide +kernel
theorem dX3_absolute_0 : decode cX3_absolute 0 = .ok (.dload_n 0, 1) := by decide +kernel
theorem dX3_absolute_1 : decode cX3_absolute 1 = .ok (.dconst 0, 1) := by decide +kernel
theorem dX3_absolute_2 : decode cX3_absolute 2 = .ok (.dcmp .g, 1) := by decide +kernel
theorem dX3_absolute_3 : decode cX3_absolute 3 = .ok (.ifCond .ge 8, 3) := by decide +kernel
theorem dX3_absolute_6 : decode cX3_absolute 6 = .ok (.dload_n 0, 1) := by decide +kernel
theorem dX3_absolute_7 : decode cX3_absolute 7 = .ok (.dneg, 1) := by decide +kernel
theorem dX3_absolute_8 : decode cX3_absolute 8 = .ok (.goto 4, 3) := by decide +kernel
theorem dX3_absolute_11 : decode cX3_absolute 11 = .ok (.dload_n 0, 1) := by decide +kernel
theorem dX3_absolute_12 : decode cX3_absolute 12 = .ok (.dreturn, 1) := by decide +kernel
theorem dX3_greater_0 : decode cX3_greater 0 = .ok (.dload_n 0, 1) := by decide +kernel
theorem dX3_greater_1 : decode cX3_greater 1 = .ok (.dload_n 2, 1) := by decide +kernel
theorem dX3_greater_2 : decode cX3_greater 2 = .ok (.dcmp .l, 1) := by decide +kernel
theorem dX3_greater_3 : decode cX3_greater 3 = .ok (.ifCond .lt 7, 3) := by decide +kernel
theorem dX3_greater_6 : decode cX3_greater 6 = .ok (.dload_n 0, 1) := by decide +kernel
theorem dX3_greater_7 : decode cX3_greater 7 = .ok (.goto 4, 3) := by decide +kernel
theorem dX3_greater_10 : decode cX3_greater 10 = .ok (.dload_n 2, 1) := by decide +kernel
theorem dX3_greater_11 : decode cX3_greater 11 = .ok (.dreturn, 1) := by decide +kernel
theorem dX3_lesser_0 : decode cX3_lesser 0 = .ok (.dload_n 0, 1) := by decide +kernel
theorem dX3_lesser_1 : decode cX3_lesser 1 = .ok (.dload_n 2, 1) := by decide +kernel
theorem dX3_lesser_2 : decode cX3_lesser 2 = .ok (.dcmp .g, 1) := by decide +kernel
theorem dX3_lesser_3 : decode cX3_lesser 3 = .ok (.ifCond .gt 7, 3) := by decide +kernel
theorem dX3_lesser_6 : decode cX3_lesser 6 = .ok (.dload_n 0, 1) := by decide +kernel
theorem dX3_lesser_7 : decode cX3_lesser 7 = .ok (.goto 4, 3) := by decide +kernel
theorem dX3_lesser_10 : decode cX3_lesser 10 = .ok (.dload_n 2, 1) := by decide +kernel
theorem dX3_lesser_11 : decode cX3_lesser 11 = .ok (.dreturn, 1) := by decide +kernel
set_option maxRecDepth 20000 in
theorem ggX4_init_X4_empty : GoodIn wsX4_init wsX4_empty := goodIn_r _ [13, 14, 15, 5, 6, 16, 17, 18, 19, 20, 21, 22, 23, 24, 25, 26, 27, 28, 29, 30, 31, 32, 33, 34, 35] (by decide +kernel) (by decide +kernel)
set_option maxRecDepth 20000 in
theorem gX4_init_X4_empty : GoodIn wsX4_init (wsV RX4 16 RX4 yX4_empty wsX4_empty) := goodIn_app (goodIn_of _ (by decide +kernel)) ggX4_init_X4_empty
theorem dX4_init_0 : decode cX4_init 0 = .ok (.aload_n 0, 1) := by decide +kernel
theorem dX4_init_1 : decode cX4_init 1 = .ok (.invokespecial 1, 3) := by decide +kernel
theorem dX4_init_4 : decode cX4_init 4 = .ok (.aload_n 0, 1) := by decide +kernel
theorem dX4_init_5 : decode cX4_init 5 = .ok (.bipush 84, 2) := by decide +kernel
theorem dX4_init_7 : decode cX4_init 7 = .ok (.newarray .double, 2) := by decide +kernel
theorem dX4_init_9 : decode cX4_init 9 = .ok (.putfield 7, 3) := by decide +kernel
theorem dX4_init_12 : decode cX4_init 12 = .ok (.aload_n 0, 1) := by decide +kernel
theorem dX4_init_13 : decode cX4_init 13 = .ok (.bipush 84, 2) := by decide +kernel
theorem dX4_init_15 : decode cX4_init 15 = .ok (.newarray .double, 2) := by decide +kernel
theorem dX4_init_17 : decode cX4_init 17 = .ok (.putfield 13, 3) := by decide +kernel
theorem dX4_init_20 : decode cX4_init 20 = .ok (.aload_n 0, 1) := by decide +kernel
theorem dX4_init_21 : decode cX4_init 21 = .ok (.bipush 8, 2) := by decide +kernel
theorem dX4_init_23 : decode cX4_init 23 = .ok (.invokevirtual 16, 3) := by decide +kernel
theorem dX4_init_26 : decode cX4_init 26 = .ok (.aload_n 0, 1) := by decide +kernel
theorem dX4_init_27 : decode cX4_init 27 = .ok (.iconst 1, 1) := by decide +kernel
theorem dX4_init_28 : decode cX4_init 28 = .ok (.putfield 20, 3) := by decide +kernel
theorem dX4_init_31 : decode cX4_init 31 = .ok (.aload_n 0, 1) := by decide +kernel
theorem dX4_init_32 : decode cX4_init 32 = .ok (.iconst 1, 1) := by decide +kernel
theorem dX4_init_33 : decode cX4_init 33 = .ok (.putfield 24, 3) := by decide +kernel
theorem dX4_init_36 : decode cX4_init 36 = .ok (.return_, 1) := by decide +kernel
theorem dX4_thrown_0 : decode cX4_thrown 0 = .ok (.aload_n 0, 1) := by decide +kernel
theorem dX4_thrown_1 : decode cX4_thrown 1 = .ok (.getfield 27, 3) := by decide +kernel
theorem dX4_thrown_4 : decode cX4_thrown 4 = .ok (.ireturn, 1) := by decide +kernel
theorem dX4_fails_0 : decode cX4_fails 0 = .ok (.aload_n 0, 1) := by decide +kernel
theorem dX4_fails_1 : decode cX4_fails 1 = .ok (.iload_n 1, 1) := by decide +kernel
theorem dX4_fails_2 : decode cX4_fails 2 = .ok (.ifCond .eq 7, 3) := by decide +kernel
theorem dX4_fails_5 : decode cX4_fails 5 = .ok (.iload_n 2, 1) := by decide +kernel
theorem dX4_fails_6 : decode cX4_fails 6 = .ok (.goto 4, 3) := by decide +kernel
theorem dX4_fails_9 : decode cX4_fails 9 = .ok (.iconst 0, 1) := by decide +kernel
theorem dX4_fails_10 : decode cX4_fails 10 = .ok (.putfield 27, 3) := by decide +kernel
theorem dX4_fails_13 : decode cX4_fails 13 = .ok (.iload_n 1, 1) := by decide +kernel
theorem dX4_fails_14 : decode cX4_fails 14 = .ok (.ireturn, 1) := by decide +kernel
theorem dX4_out_0 : decode cX4_out 0 = .ok (.iload_n 0, 1) := by decide +kernel
theorem dX4_out_1 : decode cX4_out 1 = .ok (.iload_n 1, 1) := by decide +kernel
theorem dX4_out_2 : decode cX4_out 2 = .ok (.if_icmp .lt 8, 3) := by decide +kernel
theorem dX4_out_5 : decode cX4_out 5 = .ok (.iload_n 0, 1) := by decide +kernel
theorem dX4_out_6 : decode cX4_out 6 = .ok (.iload_n 2, 1) := by decide +kernel
theorem dX4_out_7 : decode cX4_out 7 = .ok (.if_icmp .le 7, 3) := by decide +kernel
theorem dX4_out_10 : decode cX4_out 10 = .ok (.iconst 1, 1) := by decide +kernel
theorem dX4_out_11 : decode cX4_out 11 = .ok (.goto 4, 3) := by decide +kernel
theorem dX4_out_14 : decode cX4_out 14 = .ok (.iconst 0, 1) := by decide +kernel
theorem dX4_out_15 : decode cX4_out 15 = .ok (.ireturn, 1) := by decide +kernel
theorem dX4_empty_0 : decode cX4_empty 0 = .ok (.aload_n 0, 1) := by decide +kernel
theorem dX4_empty_1 : decode cX4_empty 1 = .ok (.iload_n 1, 1) := by decide +kernel
theorem dX4_empty_2 : decode cX4_empty 2 = .ok (.putfield 30, 3) := by decide +kernel
theorem dX4_empty_5 : decode cX4_empty 5 = .ok (.aload_n 0, 1) := by decide +kernel
theorem dX4_empty_6 : decode cX4_empty 6 = .ok (.dconst 0, 1) := by decide +kernel
theorem dX4_empty_7 : decode cX4_empty 7 = .ok (.putfield 33, 3) := by decide +kernel
theorem dX4_empty_10 : decode cX4_empty 10 = .ok (.iconst 0, 1) := by decide +kernel
theorem dX4_empty_11 : decode cX4_empty 11 = .ok (.istore_n 2, 1) := by decide +kernel
theorem dX4_empty_12 : decode cX4_empty 12 = .ok (.iload_n 2, 1) := by decide +kernel
theorem dX4_empty_13 : decode cX4_empty 13 = .ok (.aload_n 0, 1) := by decide +kernel
theorem dX4_empty_14 : decode cX4_empty 14 = .ok (.getfield 30, 3) := by decide +kernel
theorem dX4_empty_17 : decode cX4_empty 17 = .ok (.if_icmp .ge 27, 3) := by decide +kernel
theorem dX4_empty_20 : decode cX4_empty 20 = .ok (.aload_n 0, 1) := by decide +kernel
theorem dX4_empty_21 : decode cX4_empty 21 = .ok (.getfield 7, 3) := by decide +kernel
theorem dX4_empty_24 : decode cX4_empty 24 = .ok (.iload_n 2, 1) := by decide +kernel
theorem dX4_empty_25 : decode cX4_empty 25 = .ok (.iconst 2, 1) := by decide +kernel
theorem dX4_empty_26 : decode cX4_empty 26 = .ok (.iadd, 1) := by decide +kernel
theorem dX4_empty_27 : decode cX4_empty 27 = .ok (.dconst 1, 1) := by decide +kernel
theorem dX4_empty_28 : decode cX4_empty 28 = .ok (.dastore, 1) := by decide +kernel
theorem dX4_empty_29 : decode cX4_empty 29 = .ok (.aload_n 0, 1) := by decide +kernel
theorem dX4_empty_30 : decode cX4_empty 30 = .ok (.getfield 13, 3) := by decide +kernel
theorem dX4_empty_33 : decode cX4_empty 33 = .ok (.iload_n 2, 1) := by decide +kernel
theorem dX4_empty_34 : decode cX4_empty 34 = .ok (.iconst 2, 1) := by decide +kernel
theorem dX4_empty_35 : decode cX4_empty 35 = .ok (.iadd, 1) := by decide +kernel
theorem dX4_empty_36 : decode cX4_empty 36 = .ok (.dconst 0, 1) := by decide +kernel
theorem dX4_empty_37 : decode cX4_empty 37 = .ok (.dastore, 1) := by decide +kernel
theorem dX4_empty_38 : decode cX4_empty 38 = .ok (.iinc 2 1, 3) := by decide +kernel
theorem dX4_empty_41 : decode cX4_empty 41 = .ok (.goto (-29), 3) := by decide +kernel
theorem dX4_empty_44 : decode cX4_empty 44 = .ok (.return_, 1) := by decide +kernel
set_option maxRecDepth 20000 in
theorem ggX4_cells_X4_out : GoodIn wsX4_cells wsX4_out := goodIn_r _ [4] (by decide +kernel) (by decide +kernel)
set_option maxRecDepth 20000 in
theorem gX4_cells_X4_out : GoodIn wsX4_cells (va_wsS RX4 37 yX4_out wsX4_out) := goodIn_app (goodIn_of _ (by decide +kernel)) ggX4_cells_X4_out
set_option maxRecDepth 20000 in
theorem ggX4_cells_X4_fails : GoodIn wsX4_cells wsX4_fails := goodIn_r _ [8, 9, 18, 19, 20, 21, 22, 23, 24, 25, 26, 27, 28, 29, 30, 31, 32, 33, 34, 35, 36, 37] (by decide +kernel) (by decide +kernel)
set_option maxRecDepth 20000 in
theorem gX4_cells_X4_fails : GoodIn wsX4_cells (wsV RX4 41 RX4 yX4_fails wsX4_fails) := goodIn_app (goodIn_of _ (by decide +kernel)) ggX4_cells_X4_fails
set_option maxRecDepth 20000 in
theorem ggX4_cells_X4_empty : GoodIn wsX4_cells wsX4_empty := goodIn_r _ [13, 14, 15, 16, 17, 18, 19, 20, 21, 22, 23, 24, 25, 26, 27, 28, 29, 30, 31, 32, 33, 34, 35, 36, 37] (by decide +kernel) (by decide +kernel)
set_option maxRecDepth 20000 in
theorem gX4_cells_X4_empty : GoodIn wsX4_cells (wsV RX4 16 RX4 yX4_empty wsX4_empty) := goodIn_app (goodIn_of _ (by decide +kernel)) ggX4_cells_X4_empty
theorem dX4_cells_0 : decode cX4_cells 0 = .ok (.aload_n 0, 1) := by decide +kernel
theorem dX4_cells_1 : decode cX4_cells 1 = .ok (.iload_n 1, 1) := by decide +kernel
theorem dX4_cells_2 : decode cX4_cells 2 = .ok (.iconst 4, 1) := by decide +kernel
theorem dX4_cells_3 : decode cX4_cells 3 = .ok (.bipush 24, 2) := by decide +kernel
theorem dX4_cells_5 : decode cX4_cells 5 = .ok (.invokestatic 37, 3) := by decide +kernel
theorem dX4_cells_8 : decode cX4_cells 8 = .ok (.iconst 1, 1) := by decide +kernel
theorem dX4_cells_9 : decode cX4_cells 9 = .ok (.invokevirtual 41, 3) := by decide +kernel
theorem dX4_cells_12 : decode cX4_cells 12 = .ok (.ifCond .eq 4, 3) := by decide +kernel
theorem dX4_cells_15 : decode cX4_cells 15 = .ok (.return_, 1) := by decide +kernel
theorem dX4_cells_16 : decode cX4_cells 16 = .ok (.aload_n 0, 1) := by decide +kernel
theorem dX4_cells_17 : decode cX4_cells 17 = .ok (.iload_n 1, 1) := by decide +kernel
theorem dX4_cells_18 : decode cX4_cells 18 = .ok (.invokevirtual 16, 3) := by decide +kernel
theorem dX4_cells_21 : decode cX4_cells 21 = .ok (.return_, 1) := by decide +kernel
set_option maxRecDepth 20000 in
theorem ggX4_choose_X4_out : GoodIn wsX4_choose wsX4_out := goodIn_r _ [8] (by decide +kernel) (by decide +kernel)
set_option maxRecDepth 20000 in
theorem gX4_choose_X4_out : GoodIn wsX4_choose (va_wsS RX4 37 yX4_out wsX4_out) := goodIn_app (goodIn_of _ (by decide +kernel)) ggX4_choose_X4_out
set_option maxRecDepth 20000 in
theorem ggX4_choose_X4_fails : GoodIn wsX4_choose wsX4_fails := goodIn_r _ [12, 13, 14, 15, 16, 17, 18, 19, 20, 21, 22, 23, 24, 25, 26, 27, 28, 29, 30, 31, 32, 33] (by decide +kernel) (by decide +kernel)
set_option maxRecDepth 20000 in
theorem gX4_choose_X4_fails : GoodIn wsX4_choose (wsV RX4 41 RX4 yX4_fails wsX4_fails) := goodIn_app (goodIn_of _ (by decide +kernel)) ggX4_choose_X4_fails
end
section
theorem dX4_choose_0 : decode cX4_choose 0 = .ok (.aload_n 0, 1) := by decide +kernel
theorem dX4_choose_1 : decode cX4_choose 1 = .ok (.iload_n 1, 1) := by decide +kernel
theorem dX4_choose_2 : decode cX4_choose 2 = .ok (.iconst 0, 1) := by decide +kernel
theorem dX4_choose_3 : decode cX4_choose 3 = .ok (.iconst 2, 1) := by decide +kernel
theorem dX4_choose_4 : decode cX4_choose 4 = .ok (.invokestatic 37, 3) := by decide +kernel
theorem dX4_choose_7 : decode cX4_choose 7 = .ok (.ifCond .ne 31, 3) := by decide +kernel
theorem dX4_choose_10 : decode cX4_choose 10 = .ok (.iload_n 2, 1) := by decide +kernel
theorem dX4_choose_11 : decode cX4_choose 11 = .ok (.iconst 0, 1) := by decide +kernel
theorem dX4_choose_12 : decode cX4_choose 12 = .ok (.iconst 3, 1) := by decide +kernel
theorem dX4_choose_13 : decode cX4_choose 13 = .ok (.invokestatic 37, 3) := by decide +kernel
theorem dX4_choose_16 : decode cX4_choose 16 = .ok (.ifCond .ne 22, 3) := by decide +kernel
theorem dX4_choose_19 : decode cX4_choose 19 = .ok (.iload_n 3, 1) := by decide +kernel
theorem dX4_choose_20 : decode cX4_choose 20 = .ok (.iconst 0, 1) := by decide +kernel
theorem dX4_choose_21 : decode cX4_choose 21 = .ok (.iconst 1, 1) := by decide +kernel
theorem dX4_choose_22 : decode cX4_choose 22 = .ok (.invokestatic 37, 3) := by decide +kernel
theorem dX4_choose_25 : decode cX4_choose 25 = .ok (.ifCond .ne 13, 3) := by decide +kernel
theorem dX4_choose_28 : decode cX4_choose 28 = .ok (.iload 4, 2) := by decide +kernel
theorem dX4_choose_30 : decode cX4_choose 30 = .ok (.iconst 1, 1) := by decide +kernel
theorem dX4_choose_31 : decode cX4_choose 31 = .ok (.iconst 2, 1) := by decide +kernel
theorem dX4_choose_32 : decode cX4_choose 32 = .ok (.invokestatic 37, 3) := by decide +kernel
theorem dX4_choose_35 : decode cX4_choose 35 = .ok (.ifCond .eq 7, 3) := by decide +kernel
theorem dX4_choose_38 : decode cX4_choose 38 = .ok (.iconst 1, 1) := by decide +kernel
theorem dX4_choose_39 : decode cX4_choose 39 = .ok (.goto 4, 3) := by decide +kernel
theorem dX4_choose_42 : decode cX4_choose 42 = .ok (.iconst 0, 1) := by decide +kernel
theorem dX4_choose_43 : decode cX4_choose 43 = .ok (.iconst 1, 1) := by decide +kernel
theorem dX4_choose_44 : decode cX4_choose 44 = .ok (.invokevirtual 41, 3) := by decide +kernel
theorem dX4_choose_47 : decode cX4_choose 47 = .ok (.ifCond .eq 4, 3) := by decide +kernel
theorem dX4_choose_50 : decode cX4_choose 50 = .ok (.return_, 1) := by decide +kernel
theorem dX4_choose_51 : decode cX4_choose 51 = .ok (.aload_n 0, 1) := by decide +kernel
theorem dX4_choose_52 : decode cX4_choose 52 = .ok (.iload_n 1, 1) := by decide +kernel
theorem dX4_choose_53 : decode cX4_choose 53 = .ok (.putfield 45, 3) := by decide +kernel
theorem dX4_choose_56 : decode cX4_choose 56 = .ok (.aload_n 0, 1) := by decide +kernel
theorem dX4_choose_57 : decode cX4_choose 57 = .ok (.iload_n 2, 1) := by decide +kernel
theorem dX4_choose_58 : decode cX4_choose 58 = .ok (.putfield 20, 3) := by decide +kernel
theorem dX4_choose_61 : decode cX4_choose 61 = .ok (.aload_n 0, 1) := by decide +kernel
theorem dX4_choose_62 : decode cX4_choose 62 = .ok (.iload_n 3, 1) := by decide +kernel
theorem dX4_choose_63 : decode cX4_choose 63 = .ok (.putfield 48, 3) := by decide +kernel
theorem dX4_choose_66 : decode cX4_choose 66 = .ok (.aload_n 0, 1) := by decide +kernel
theorem dX4_choose_67 : decode cX4_choose 67 = .ok (.iload 4, 2) := by decide +kernel
theorem dX4_choose_69 : decode cX4_choose 69 = .ok (.putfield 24, 3) := by decide +kernel
theorem dX4_choose_72 : decode cX4_choose 72 = .ok (.return_, 1) := by decide +kernel
theorem dX4_within_0 : decode cX4_within 0 = .ok (.dload_n 0, 1) := by decide +kernel
theorem dX4_within_1 : decode cX4_within 1 = .ok (.dload_n 2, 1) := by decide +kernel
theorem dX4_within_2 : decode cX4_within 2 = .ok (.dcmp .l, 1) := by decide +kernel
theorem dX4_within_3 : decode cX4_within 3 = .ok (.ifCond .lt 14, 3) := by decide +kernel
theorem dX4_within_6 : decode cX4_within 6 = .ok (.dload_n 0, 1) := by decide +kernel
theorem dX4_within_7 : decode cX4_within 7 = .ok (.dload 4, 2) := by decide +kernel
theorem dX4_within_9 : decode cX4_within 9 = .ok (.dcmp .g, 1) := by decide +kernel
theorem dX4_within_10 : decode cX4_within 10 = .ok (.ifCond .gt 7, 3) := by decide +kernel
theorem dX4_within_13 : decode cX4_within 13 = .ok (.iconst 1, 1) := by decide +kernel
theorem dX4_within_14 : decode cX4_within 14 = .ok (.goto 4, 3) := by decide +kernel
theorem dX4_within_17 : decode cX4_within 17 = .ok (.iconst 0, 1) := by decide +kernel
theorem dX4_within_18 : decode cX4_within 18 = .ok (.ireturn, 1) := by decide +kernel
set_option maxRecDepth 20000 in
theorem ggX4_put_X4_out : GoodIn wsX4_put wsX4_out := goodIn_r _ [11] (by decide +kernel) (by decide +kernel)
set_option maxRecDepth 20000 in
theorem gX4_put_X4_out : GoodIn wsX4_put (va_wsS RX4 37 yX4_out wsX4_out) := goodIn_app (goodIn_of _ (by decide +kernel)) ggX4_put_X4_out
set_option maxRecDepth 20000 in
theorem ggX4_put_X4_within : GoodIn wsX4_put wsX4_within := goodIn_r _ [14] (by decide +kernel) (by decide +kernel)
set_option maxRecDepth 20000 in
theorem gX4_put_X4_within : GoodIn wsX4_put (va_wsS RX4 55 yX4_within wsX4_within) := goodIn_app (goodIn_of _ (by decide +kernel)) ggX4_put_X4_within
set_option maxRecDepth 20000 in
theorem ggX4_put_X4_fails : GoodIn wsX4_put wsX4_fails := goodIn_r _ [18, 19, 20, 21, 22, 23, 24, 25, 26, 27, 28, 29, 30, 31, 32, 33, 34, 35, 36, 37, 38, 39] (by decide +kernel) (by decide +kernel)
set_option maxRecDepth 20000 in
theorem gX4_put_X4_fails : GoodIn wsX4_put (wsV RX4 41 RX4 yX4_fails wsX4_fails) := goodIn_app (goodIn_of _ (by decide +kernel)) ggX4_put_X4_fails
theorem dX4_put_0 : decode cX4_put 0 = .ok (.aload_n 0, 1) := by decide +kernel
theorem dX4_put_1 : decode cX4_put 1 = .ok (.iload_n 1, 1) := by decide +kernel
theorem dX4_put_2 : decode cX4_put 2 = .ok (.iconst 0, 1) := by decide +kernel
theorem dX4_put_3 : decode cX4_put 3 = .ok (.aload_n 0, 1) := by decide +kernel
theorem dX4_put_4 : decode cX4_put 4 = .ok (.getfield 30, 3) := by decide +kernel
theorem dX4_put_7 : decode cX4_put 7 = .ok (.iconst 1, 1) := by decide +kernel
theorem dX4_put_8 : decode cX4_put 8 = .ok (.isub, 1) := by decide +kernel
theorem dX4_put_9 : decode cX4_put 9 = .ok (.invokestatic 37, 3) := by decide +kernel
theorem dX4_put_12 : decode cX4_put 12 = .ok (.ifCond .ne 30, 3) := by decide +kernel
theorem dX4_put_15 : decode cX4_put 15 = .ok (.dload_n 2, 1) := by decide +kernel
theorem dX4_put_16 : decode cX4_put 16 = .ok (.ldc2_w 51, 3) := by decide +kernel
theorem dX4_put_19 : decode cX4_put 19 = .ok (.ldc2_w 53, 3) := by decide +kernel
theorem dX4_put_22 : decode cX4_put 22 = .ok (.invokestatic 55, 3) := by decide +kernel
theorem dX4_put_25 : decode cX4_put 25 = .ok (.ifCond .eq 17, 3) := by decide +kernel
theorem dX4_put_28 : decode cX4_put 28 = .ok (.dload 4, 2) := by decide +kernel
theorem dX4_put_30 : decode cX4_put 30 = .ok (.ldc2_w 59, 3) := by decide +kernel
theorem dX4_put_33 : decode cX4_put 33 = .ok (.ldc2_w 61, 3) := by decide +kernel
theorem dX4_put_36 : decode cX4_put 36 = .ok (.invokestatic 55, 3) := by decide +kernel
theorem dX4_put_39 : decode cX4_put 39 = .ok (.ifCond .ne 7, 3) := by decide +kernel
theorem dX4_put_42 : decode cX4_put 42 = .ok (.iconst 1, 1) := by decide +kernel
theorem dX4_put_43 : decode cX4_put 43 = .ok (.goto 4, 3) := by decide +kernel
theorem dX4_put_46 : decode cX4_put 46 = .ok (.iconst 0, 1) := by decide +kernel
theorem dX4_put_47 : decode cX4_put 47 = .ok (.iconst 1, 1) := by decide +kernel
theorem dX4_put_48 : decode cX4_put 48 = .ok (.invokevirtual 41, 3) := by decide +kernel
theorem dX4_put_51 : decode cX4_put 51 = .ok (.ifCond .eq 4, 3) := by decide +kernel
theorem dX4_put_54 : decode cX4_put 54 = .ok (.return_, 1) := by decide +kernel
theorem dX4_put_55 : decode cX4_put 55 = .ok (.aload_n 0, 1) := by decide +kernel
theorem dX4_put_56 : decode cX4_put 56 = .ok (.getfield 7, 3) := by decide +kernel
theorem dX4_put_59 : decode cX4_put 59 = .ok (.iload_n 1, 1) := by decide +kernel
theorem dX4_put_60 : decode cX4_put 60 = .ok (.iconst 2, 1) := by decide +kernel
theorem dX4_put_61 : decode cX4_put 61 = .ok (.iadd, 1) := by decide +kernel
theorem dX4_put_62 : decode cX4_put 62 = .ok (.dload_n 2, 1) := by decide +kernel
theorem dX4_put_63 : decode cX4_put 63 = .ok (.dastore, 1) := by decide +kernel
theorem dX4_put_64 : decode cX4_put 64 = .ok (.aload_n 0, 1) := by decide +kernel
theorem dX4_put_65 : decode cX4_put 65 = .ok (.getfield 13, 3) := by decide +kernel
theorem dX4_put_68 : decode cX4_put 68 = .ok (.iload_n 1, 1) := by decide +kernel
theorem dX4_put_69 : decode cX4_put 69 = .ok (.iconst 2, 1) := by decide +kernel
theorem dX4_put_70 : decode cX4_put 70 = .ok (.iadd, 1) := by decide +kernel
theorem dX4_put_71 : decode cX4_put 71 = .ok (.dload 4, 2) := by decide +kernel
theorem dX4_put_73 : decode cX4_put 73 = .ok (.dastore, 1) := by decide +kernel
theorem dX4_put_74 : decode cX4_put 74 = .ok (.return_, 1) := by decide +kernel
theorem dX4_root_0 : decode cX4_root 0 = .ok (.dload_n 0, 1) := by decide +kernel
theorem dX4_root_1 : decode cX4_root 1 = .ok (.dconst 1, 1) := by decide +kernel
theorem dX4_root_2 : decode cX4_root 2 = .ok (.dcmp .g, 1) := by decide +kernel
theorem dX4_root_3 : decode cX4_root 3 = .ok (.ifCond .ge 7, 3) := by decide +kernel
theorem dX4_root_6 : decode cX4_root 6 = .ok (.dconst 1, 1) := by decide +kernel
theorem dX4_root_7 : decode cX4_root 7 = .ok (.goto 4, 3) := by decide +kernel
theorem dX4_root_10 : decode cX4_root 10 = .ok (.dload_n 0, 1) := by decide +kernel
theorem dX4_root_11 : decode cX4_root 11 = .ok (.dstore_n 2, 1) := by decide +kernel
theorem dX4_root_12 : decode cX4_root 12 = .ok (.iconst 0, 1) := by decide +kernel
theorem dX4_root_13 : decode cX4_root 13 = .ok (.istore 4, 2) := by decide +kernel
theorem dX4_root_15 : decode cX4_root 15 = .ok (.iload 4, 2) := by decide +kernel
theorem dX4_root_17 : decode cX4_root 17 = .ok (.bipush 14, 2) := by decide +kernel
theorem dX4_root_19 : decode cX4_root 19 = .ok (.if_icmp .ge 19, 3) := by decide +kernel
theorem dX4_root_22 : decode cX4_root 22 = .ok (.ldc2_w 63, 3) := by decide +kernel
theorem dX4_root_25 : decode cX4_root 25 = .ok (.dload_n 2, 1) := by decide +kernel
theorem dX4_root_26 : decode cX4_root 26 = .ok (.dload_n 0, 1) := by decide +kernel
theorem dX4_root_27 : decode cX4_root 27 = .ok (.dload_n 2, 1) := by decide +kernel
theorem dX4_root_28 : decode cX4_root 28 = .ok (.ddiv, 1) := by decide +kernel
theorem dX4_root_29 : decode cX4_root 29 = .ok (.dadd, 1) := by decide +kernel
theorem dX4_root_30 : decode cX4_root 30 = .ok (.dmul, 1) := by decide +kernel
theorem dX4_root_31 : decode cX4_root 31 = .ok (.dstore_n 2, 1) := by decide +kernel
theorem dX4_root_32 : decode cX4_root 32 = .ok (.iinc 4 1, 3) := by decide +kernel
theorem dX4_root_35 : decode cX4_root 35 = .ok (.goto (-20), 3) := by decide +kernel
theorem dX4_root_38 : decode cX4_root 38 = .ok (.dload_n 2, 1) := by decide +kernel
theorem dX4_root_39 : decode cX4_root 39 = .ok (.dreturn, 1) := by decide +kernel
theorem dX4_size_0 : decode cX4_size 0 = .ok (.dload_n 0, 1) := by decide +kernel
theorem dX4_size_1 : decode cX4_size 1 = .ok (.dconst 0, 1) := by decide +kernel
theorem dX4_size_2 : decode cX4_size 2 = .ok (.dcmp .g, 1) := by decide +kernel
theorem dX4_size_3 : decode cX4_size 3 = .ok (.ifCond .ge 8, 3) := by decide +kernel
theorem dX4_size_6 : decode cX4_size 6 = .ok (.dload_n 0, 1) := by decide +kernel
theorem dX4_size_7 : decode cX4_size 7 = .ok (.dneg, 1) := by decide +kernel
theorem dX4_size_8 : decode cX4_size 8 = .ok (.goto 4, 3) := by decide +kernel
theorem dX4_size_11 : decode cX4_size 11 = .ok (.dload_n 0, 1) := by decide +kernel
theorem dX4_size_12 : decode cX4_size 12 = .ok (.dreturn, 1) := by decide +kernel
theorem dX4_greater_0 : decode cX4_greater 0 = .ok (.dload_n 0, 1) := by decide +kernel
theorem dX4_greater_1 : decode cX4_greater 1 = .ok (.dload_n 2, 1) := by decide +kernel
theorem dX4_greater_2 : decode cX4_greater 2 = .ok (.dcmp .l, 1) := by decide +kernel
theorem dX4_greater_3 : decode cX4_greater 3 = .ok (.ifCond .le 7, 3) := by decide +kernel
theorem dX4_greater_6 : decode cX4_greater 6 = .ok (.dload_n 0, 1) := by decide +kernel
theorem dX4_greater_7 : decode cX4_greater 7 = .ok (.goto 4, 3) := by decide +kernel
theorem dX4_greater_10 : decode cX4_greater 10 = .ok (.dload_n 2, 1) := by decide +kernel
theorem dX4_greater_11 : decode cX4_greater 11 = .ok (.dreturn, 1) := by decide +kernel
theorem dX4_lesser_0 : decode cX4_lesser 0 = .ok (.dload_n 0, 1) := by decide +kernel
theorem dX4_lesser_1 : decode cX4_lesser 1 = .ok (.dload_n 2, 1) := by decide +kernel
theorem dX4_lesser_2 : decode cX4_lesser 2 = .ok (.dcmp .g, 1) := by decide +kernel
theorem dX4_lesser_3 : decode cX4_lesser 3 = .ok (.ifCond .ge 7, 3) := by decide +kernel
theorem dX4_lesser_6 : decode cX4_lesser 6 = .ok (.dload_n 0, 1) := by decide +kernel
theorem dX4_lesser_7 : decode cX4_lesser 7 = .ok (.goto 4, 3) := by decide +kernel
theorem dX4_lesser_10 : decode cX4_lesser 10 = .ok (.dload_n 2, 1) := by decide +kernel
theorem dX4_lesser_11 : decode cX4_lesser 11 = .ok (.dreturn, 1) := by decide +kernel
set_option maxRecDepth 20000 in
theorem ggX4_least_X4_size : GoodIn wsX4_least wsX4_size := goodIn_r _ [4] (by decide +kernel) (by decide +kernel)
set_option maxRecDepth 20000 in
theorem gX4_least_X4_size : GoodIn wsX4_least (va_wsS RX4 65 yX4_size wsX4_size) := goodIn_app (goodIn_of _ (by decide +kernel)) ggX4_least_X4_size
theorem dX4_least_0 : decode cX4_least 0 = .ok (.dload_n 0, 1) := by decide +kernel
theorem dX4_least_1 : decode cX4_least 1 = .ok (.invokestatic 65, 3) := by decide +kernel
theorem dX4_least_4 : decode cX4_least 4 = .ok (.dload_n 2, 1) := by decide +kernel
theorem dX4_least_5 : decode cX4_least 5 = .ok (.invokestatic 65, 3) := by decide +kernel
theorem dX4_least_8 : decode cX4_least 8 = .ok (.dcmp .g, 1) := by decide +kernel
theorem dX4_least_9 : decode cX4_least 9 = .ok (.ifCond .gt 7, 3) := by decide +kernel
theorem dX4_least_12 : decode cX4_least 12 = .ok (.dload_n 0, 1) := by decide +kernel
theorem dX4_least_13 : decode cX4_least 13 = .ok (.goto 4, 3) := by decide +kernel
theorem dX4_least_16 : decode cX4_least 16 = .ok (.dload_n 2, 1) := by decide +kernel
theorem dX4_least_17 : decode cX4_least 17 = .ok (.dreturn, 1) := by decide +kernel
theorem dX4_force_0 : decode cX4_force 0 = .ok (.dload_n 2, 1) := by decide +kernel
theorem dX4_force_1 : decode cX4_force 1 = .ok (.dload_n 0, 1) := by decide +kernel
theorem dX4_force_2 : decode cX4_force 2 = .ok (.ddiv, 1) := by decide +kernel
theorem dX4_force_3 : decode cX4_force 3 = .ok (.dstore 4, 2) := by decide +kernel
theorem dX4_force_5 : decode cX4_force 5 = .ok (.dload_n 2, 1) := by decide +kernel
theorem dX4_force_6 : decode cX4_force 6 = .ok (.dload 4, 2) := by decide +kernel
theorem dX4_force_8 : decode cX4_force 8 = .ok (.dmul, 1) := by decide +kernel
theorem dX4_force_9 : decode cX4_force 9 = .ok (.ldc2_w 63, 3) := by decide +kernel
theorem dX4_force_12 : decode cX4_force 12 = .ok (.dload_n 0, 1) := by decide +kernel
theorem dX4_force_13 : decode cX4_force 13 = .ok (.dmul, 1) := by decide +kernel
theorem dX4_force_14 : decode cX4_force 14 = .ok (.dload_n 0, 1) := by decide +kernel
theorem dX4_force_15 : decode cX4_force 15 = .ok (.dmul, 1) := by decide +kernel
theorem dX4_force_16 : decode cX4_force 16 = .ok (.dadd, 1) := by decide +kernel
theorem dX4_force_17 : decode cX4_force 17 = .ok (.dreturn, 1) := by decide +kernel
set_option maxRecDepth 20000 in
theorem ggX4_speed_X4_size : GoodIn wsX4_speed wsX4_size := goodIn_r _ [4] (by decide +kernel) (by decide +kernel)
set_option maxRecDepth 20000 in
theorem gX4_speed_X4_size : GoodIn wsX4_speed (va_wsS RX4 65 yX4_size wsX4_size) := goodIn_app (goodIn_of _ (by decide +kernel)) ggX4_speed_X4_size
set_option maxRecDepth 20000 in
theorem ggX4_speed_X4_root : GoodIn wsX4_speed wsX4_root := goodIn_r _ [7, 8] (by decide +kernel) (by decide +kernel)
set_option maxRecDepth 20000 in
theorem gX4_speed_X4_root : GoodIn wsX4_speed (va_wsS RX4 69 yX4_root wsX4_root) := goodIn_app (goodIn_of _ (by decide +kernel)) ggX4_speed_X4_root
theorem dX4_speed_0 : decode cX4_speed 0 = .ok (.dload_n 2, 1) := by decide +kernel
theorem dX4_speed_1 : decode cX4_speed 1 = .ok (.dload_n 0, 1) := by decide +kernel
theorem dX4_speed_2 : decode cX4_speed 2 = .ok (.ddiv, 1) := by decide +kernel
theorem dX4_speed_3 : decode cX4_speed 3 = .ok (.invokestatic 65, 3) := by decide +kernel
theorem dX4_speed_6 : decode cX4_speed 6 = .ok (.dload_n 0, 1) := by decide +kernel
theorem dX4_speed_7 : decode cX4_speed 7 = .ok (.invokestatic 69, 3) := by decide +kernel
theorem dX4_speed_10 : decode cX4_speed 10 = .ok (.dadd, 1) := by decide +kernel
theorem dX4_speed_11 : decode cX4_speed 11 = .ok (.dreturn, 1) := by decide +kernel
theorem dX4_close_0 : decode cX4_close 0 = .ok (.bipush 28, 2) := by decide +kernel
theorem dX4_close_2 : decode cX4_close 2 = .ok (.iload_n 1, 1) := by decide +kernel
theorem dX4_close_3 : decode cX4_close 3 = .ok (.imul, 1) := by decide +kernel
theorem dX4_close_4 : decode cX4_close 4 = .ok (.iconst 2, 1) := by decide +kernel
theorem dX4_close_5 : decode cX4_close 5 = .ok (.iadd, 1) := by decide +kernel
theorem dX4_close_6 : decode cX4_close 6 = .ok (.istore_n 2, 1) := by decide +kernel
theorem dX4_close_7 : decode cX4_close 7 = .ok (.iload_n 2, 1) := by decide +kernel
theorem dX4_close_8 : decode cX4_close 8 = .ok (.aload_n 0, 1) := by decide +kernel
theorem dX4_close_9 : decode cX4_close 9 = .ok (.getfield 30, 3) := by decide +kernel
theorem dX4_close_12 : decode cX4_close 12 = .ok (.iadd, 1) := by decide +kernel
theorem dX4_close_13 : decode cX4_close 13 = .ok (.iconst 1, 1) := by decide +kernel
theorem dX4_close_14 : decode cX4_close 14 = .ok (.isub, 1) := by decide +kernel
theorem dX4_close_15 : decode cX4_close 15 = .ok (.istore_n 3, 1) := by decide +kernel
theorem dX4_close_16 : decode cX4_close 16 = .ok (.iconst 0, 1) := by decide +kernel
theorem dX4_close_17 : decode cX4_close 17 = .ok (.istore 4, 2) := by decide +kernel
theorem dX4_close_19 : decode cX4_close 19 = .ok (.iload 4, 2) := by decide +kernel
theorem dX4_close_21 : decode cX4_close 21 = .ok (.iconst 2, 1) := by decide +kernel
theorem dX4_close_22 : decode cX4_close 22 = .ok (.if_icmp .ge 183, 3) := by decide +kernel
theorem dX4_close_25 : decode cX4_close 25 = .ok (.aload_n 0, 1) := by decide +kernel
theorem dX4_close_26 : decode cX4_close 26 = .ok (.getfield 45, 3) := by decide +kernel
theorem dX4_close_29 : decode cX4_close 29 = .ok (.ifCond .ne 10, 3) := by decide +kernel
theorem dX4_close_32 : decode cX4_close 32 = .ok (.iload_n 3, 1) := by decide +kernel
theorem dX4_close_33 : decode cX4_close 33 = .ok (.iload 4, 2) := by decide +kernel
theorem dX4_close_35 : decode cX4_close 35 = .ok (.isub, 1) := by decide +kernel
theorem dX4_close_36 : decode cX4_close 36 = .ok (.goto 19, 3) := by decide +kernel
theorem dX4_close_39 : decode cX4_close 39 = .ok (.aload_n 0, 1) := by decide +kernel
theorem dX4_close_40 : decode cX4_close 40 = .ok (.getfield 45, 3) := by decide +kernel
theorem dX4_close_43 : decode cX4_close 43 = .ok (.iconst 1, 1) := by decide +kernel
theorem dX4_close_44 : decode cX4_close 44 = .ok (.if_icmp .ne 10, 3) := by decide +kernel
theorem dX4_close_47 : decode cX4_close 47 = .ok (.iload_n 2, 1) := by decide +kernel
theorem dX4_close_48 : decode cX4_close 48 = .ok (.iload 4, 2) := by decide +kernel
theorem dX4_close_50 : decode cX4_close 50 = .ok (.iadd, 1) := by decide +kernel
theorem dX4_close_51 : decode cX4_close 51 = .ok (.goto 4, 3) := by decide +kernel
theorem dX4_close_54 : decode cX4_close 54 = .ok (.iload_n 2, 1) := by decide +kernel
theorem dX4_close_55 : decode cX4_close 55 = .ok (.istore 5, 2) := by decide +kernel
theorem dX4_close_57 : decode cX4_close 57 = .ok (.aload_n 0, 1) := by decide +kernel
theorem dX4_close_58 : decode cX4_close 58 = .ok (.getfield 45, 3) := by decide +kernel
theorem dX4_close_61 : decode cX4_close 61 = .ok (.ifCond .ne 10, 3) := by decide +kernel
theorem dX4_close_64 : decode cX4_close 64 = .ok (.iload_n 2, 1) := by decide +kernel
theorem dX4_close_65 : decode cX4_close 65 = .ok (.iload 4, 2) := by decide +kernel
theorem dX4_close_67 : decode cX4_close 67 = .ok (.iadd, 1) := by decide +kernel
theorem dX4_close_68 : decode cX4_close 68 = .ok (.goto 19, 3) := by decide +kernel
theorem dX4_close_71 : decode cX4_close 71 = .ok (.aload_n 0, 1) := by decide +kernel
theorem dX4_close_72 : decode cX4_close 72 = .ok (.getfield 45, 3) := by decide +kernel
theorem dX4_close_75 : decode cX4_close 75 = .ok (.iconst 1, 1) := by decide +kernel
theorem dX4_close_76 : decode cX4_close 76 = .ok (.if_icmp .ne 10, 3) := by decide +kernel
theorem dX4_close_79 : decode cX4_close 79 = .ok (.iload_n 3, 1) := by decide +kernel
theorem dX4_close_80 : decode cX4_close 80 = .ok (.iload 4, 2) := by decide +kernel
theorem dX4_close_82 : decode cX4_close 82 = .ok (.isub, 1) := by decide +kernel
theorem dX4_close_83 : decode cX4_close 83 = .ok (.goto 4, 3) := by decide +kernel
theorem dX4_close_86 : decode cX4_close 86 = .ok (.iload_n 3, 1) := by decide +kernel
theorem dX4_close_87 : decode cX4_close 87 = .ok (.istore 6, 2) := by decide +kernel
theorem dX4_close_89 : decode cX4_close 89 = .ok (.aload_n 0, 1) := by decide +kernel
theorem dX4_close_90 : decode cX4_close 90 = .ok (.getfield 7, 3) := by decide +kernel
theorem dX4_close_93 : decode cX4_close 93 = .ok (.iload_n 2, 1) := by decide +kernel
theorem dX4_close_94 : decode cX4_close 94 = .ok (.iconst 1, 1) := by decide +kernel
theorem dX4_close_95 : decode cX4_close 95 = .ok (.isub, 1) := by decide +kernel
theorem dX4_close_96 : decode cX4_close 96 = .ok (.iload 4, 2) := by decide +kernel
theorem dX4_close_98 : decode cX4_close 98 = .ok (.isub, 1) := by decide +kernel
theorem dX4_close_99 : decode cX4_close 99 = .ok (.aload_n 0, 1) := by decide +kernel
theorem dX4_close_100 : decode cX4_close 100 = .ok (.getfield 7, 3) := by decide +kernel
theorem dX4_close_103 : decode cX4_close 103 = .ok (.iload 5, 2) := by decide +kernel
theorem dX4_close_105 : decode cX4_close 105 = .ok (.daload, 1) := by decide +kernel
theorem dX4_close_106 : decode cX4_close 106 = .ok (.dastore, 1) := by decide +kernel
theorem dX4_close_107 : decode cX4_close 107 = .ok (.aload_n 0, 1) := by decide +kernel
theorem dX4_close_108 : decode cX4_close 108 = .ok (.getfield 7, 3) := by decide +kernel
theorem dX4_close_111 : decode cX4_close 111 = .ok (.iload_n 3, 1) := by decide +kernel
theorem dX4_close_112 : decode cX4_close 112 = .ok (.iconst 1, 1) := by decide +kernel
theorem dX4_close_113 : decode cX4_close 113 = .ok (.iadd, 1) := by decide +kernel
theorem dX4_close_114 : decode cX4_close 114 = .ok (.iload 4, 2) := by decide +kernel
theorem dX4_close_116 : decode cX4_close 116 = .ok (.iadd, 1) := by decide +kernel
theorem dX4_close_117 : decode cX4_close 117 = .ok (.aload_n 0, 1) := by decide +kernel
theorem dX4_close_118 : decode cX4_close 118 = .ok (.getfield 7, 3) := by decide +kernel
theorem dX4_close_121 : decode cX4_close 121 = .ok (.iload 6, 2) := by decide +kernel
theorem dX4_close_123 : decode cX4_close 123 = .ok (.daload, 1) := by decide +kernel
theorem dX4_close_124 : decode cX4_close 124 = .ok (.dastore, 1) := by decide +kernel
theorem dX4_close_125 : decode cX4_close 125 = .ok (.aload_n 0, 1) := by decide +kernel
theorem dX4_close_126 : decode cX4_close 126 = .ok (.getfield 13, 3) := by decide +kernel
theorem dX4_close_129 : decode cX4_close 129 = .ok (.iload_n 2, 1) := by decide +kernel
theorem dX4_close_130 : decode cX4_close 130 = .ok (.iconst 1, 1) := by decide +kernel
theorem dX4_close_131 : decode cX4_close 131 = .ok (.isub, 1) := by decide +kernel
theorem dX4_close_132 : decode cX4_close 132 = .ok (.iload 4, 2) := by decide +kernel
theorem dX4_close_134 : decode cX4_close 134 = .ok (.isub, 1) := by decide +kernel
theorem dX4_close_135 : decode cX4_close 135 = .ok (.aload_n 0, 1) := by decide +kernel
theorem dX4_close_136 : decode cX4_close 136 = .ok (.getfield 45, 3) := by decide +kernel
theorem dX4_close_139 : decode cX4_close 139 = .ok (.iconst 1, 1) := by decide +kernel
theorem dX4_close_140 : decode cX4_close 140 = .ok (.if_icmp .ne 14, 3) := by decide +kernel
theorem dX4_close_143 : decode cX4_close 143 = .ok (.aload_n 0, 1) := by decide +kernel
theorem dX4_close_144 : decode cX4_close 144 = .ok (.getfield 13, 3) := by decide +kernel
theorem dX4_close_147 : decode cX4_close 147 = .ok (.iload 5, 2) := by decide +kernel
theorem dX4_close_149 : decode cX4_close 149 = .ok (.daload, 1) := by decide +kernel
theorem dX4_close_150 : decode cX4_close 150 = .ok (.dneg, 1) := by decide +kernel
theorem dX4_close_151 : decode cX4_close 151 = .ok (.goto 10, 3) := by decide +kernel
theorem dX4_close_154 : decode cX4_close 154 = .ok (.aload_n 0, 1) := by decide +kernel
theorem dX4_close_155 : decode cX4_close 155 = .ok (.getfield 13, 3) := by decide +kernel
theorem dX4_close_158 : decode cX4_close 158 = .ok (.iload 5, 2) := by decide +kernel
theorem dX4_close_160 : decode cX4_close 160 = .ok (.daload, 1) := by decide +kernel
theorem dX4_close_161 : decode cX4_close 161 = .ok (.dastore, 1) := by decide +kernel
theorem dX4_close_162 : decode cX4_close 162 = .ok (.aload_n 0, 1) := by decide +kernel
theorem dX4_close_163 : decode cX4_close 163 = .ok (.getfield 13, 3) := by decide +kernel
theorem dX4_close_166 : decode cX4_close 166 = .ok (.iload_n 3, 1) := by decide +kernel
theorem dX4_close_167 : decode cX4_close 167 = .ok (.iconst 1, 1) := by decide +kernel
theorem dX4_close_168 : decode cX4_close 168 = .ok (.iadd, 1) := by decide +kernel
theorem dX4_close_169 : decode cX4_close 169 = .ok (.iload 4, 2) := by decide +kernel
theorem dX4_close_171 : decode cX4_close 171 = .ok (.iadd, 1) := by decide +kernel
theorem dX4_close_172 : decode cX4_close 172 = .ok (.aload_n 0, 1) := by decide +kernel
theorem dX4_close_173 : decode cX4_close 173 = .ok (.getfield 45, 3) := by decide +kernel
theorem dX4_close_176 : decode cX4_close 176 = .ok (.iconst 1, 1) := by decide +kernel
theorem dX4_close_177 : decode cX4_close 177 = .ok (.if_icmp .ne 14, 3) := by decide +kernel
theorem dX4_close_180 : decode cX4_close 180 = .ok (.aload_n 0, 1) := by decide +kernel
theorem dX4_close_181 : decode cX4_close 181 = .ok (.getfield 13, 3) := by decide +kernel
theorem dX4_close_184 : decode cX4_close 184 = .ok (.iload 6, 2) := by decide +kernel
theorem dX4_close_186 : decode cX4_close 186 = .ok (.daload, 1) := by decide +kernel
theorem dX4_close_187 : decode cX4_close 187 = .ok (.dneg, 1) := by decide +kernel
theorem dX4_close_188 : decode cX4_close 188 = .ok (.goto 10, 3) := by decide +kernel
theorem dX4_close_191 : decode cX4_close 191 = .ok (.aload_n 0, 1) := by decide +kernel
theorem dX4_close_192 : decode cX4_close 192 = .ok (.getfield 13, 3) := by decide +kernel
theorem dX4_close_195 : decode cX4_close 195 = .ok (.iload 6, 2) := by decide +kernel
theorem dX4_close_197 : decode cX4_close 197 = .ok (.daload, 1) := by decide +kernel
theorem dX4_close_198 : decode cX4_close 198 = .ok (.dastore, 1) := by decide +kernel
theorem dX4_close_199 : decode cX4_close 199 = .ok (.iinc 4 1, 3) := by decide +kernel
theorem dX4_close_202 : decode cX4_close 202 = .ok (.goto (-183), 3) := by decide +kernel
theorem dX4_close_205 : decode cX4_close 205 = .ok (.return_, 1) := by decide +kernel
set_option maxRecDepth 20000 in
theorem ggX4_slope_X4_least : GoodIn wsX4_slope wsX4_least := goodIn_r _ [6, 7, 8, 5, 9] (by decide +kernel) (by decide +kernel)
set_option maxRecDepth 20000 in
theorem gX4_slope_X4_least : GoodIn wsX4_slope (va_wsS RX4 72 yX4_least wsX4_least) := goodIn_app (goodIn_of _ (by decide +kernel)) ggX4_slope_X4_least
set_option maxRecDepth 20000 in
theorem ggX4_slope_X4_size : GoodIn wsX4_slope wsX4_size := goodIn_r _ [9] (by decide +kernel) (by decide +kernel)
set_option maxRecDepth 20000 in
theorem gX4_slope_X4_size : GoodIn wsX4_slope (va_wsS RX4 65 yX4_size wsX4_size) := goodIn_app (goodIn_of _ (by decide +kernel)) ggX4_slope_X4_size
theorem dX4_slope_0 : decode cX4_slope 0 = .ok (.aload_n 0, 1) := by decide +kernel
theorem dX4_slope_1 : decode cX4_slope 1 = .ok (.getfield 20, 3) := by decide +kernel
theorem dX4_slope_4 : decode cX4_slope 4 = .ok (.ifCond .eq 11, 3) := by decide +kernel
theorem dX4_slope_7 : decode cX4_slope 7 = .ok (.dload_n 1, 1) := by decide +kernel
theorem dX4_slope_8 : decode cX4_slope 8 = .ok (.dload_n 3, 1) := by decide +kernel
theorem dX4_slope_9 : decode cX4_slope 9 = .ok (.dmul, 1) := by decide +kernel
theorem dX4_slope_10 : decode cX4_slope 10 = .ok (.dconst 0, 1) := by decide +kernel
theorem dX4_slope_11 : decode cX4_slope 11 = .ok (.dcmp .l, 1) := by decide +kernel
theorem dX4_slope_12 : decode cX4_slope 12 = .ok (.ifCond .gt 5, 3) := by decide +kernel
theorem dX4_slope_15 : decode cX4_slope 15 = .ok (.dconst 0, 1) := by decide +kernel
theorem dX4_slope_16 : decode cX4_slope 16 = .ok (.dreturn, 1) := by decide +kernel
theorem dX4_slope_17 : decode cX4_slope 17 = .ok (.aload_n 0, 1) := by decide +kernel
theorem dX4_slope_18 : decode cX4_slope 18 = .ok (.getfield 20, 3) := by decide +kernel
theorem dX4_slope_21 : decode cX4_slope 21 = .ok (.iconst 1, 1) := by decide +kernel
theorem dX4_slope_22 : decode cX4_slope 22 = .ok (.if_icmp .ne 9, 3) := by decide +kernel
theorem dX4_slope_25 : decode cX4_slope 25 = .ok (.dload_n 1, 1) := by decide +kernel
theorem dX4_slope_26 : decode cX4_slope 26 = .ok (.dload_n 3, 1) := by decide +kernel
theorem dX4_slope_27 : decode cX4_slope 27 = .ok (.invokestatic 72, 3) := by decide +kernel
theorem dX4_slope_30 : decode cX4_slope 30 = .ok (.dreturn, 1) := by decide +kernel
theorem dX4_slope_31 : decode cX4_slope 31 = .ok (.aload_n 0, 1) := by decide +kernel
theorem dX4_slope_32 : decode cX4_slope 32 = .ok (.getfield 20, 3) := by decide +kernel
theorem dX4_slope_35 : decode cX4_slope 35 = .ok (.iconst 3, 1) := by decide +kernel
theorem dX4_slope_36 : decode cX4_slope 36 = .ok (.if_icmp .ne 15, 3) := by decide +kernel
theorem dX4_slope_39 : decode cX4_slope 39 = .ok (.ldc2_w 76, 3) := by decide +kernel
theorem dX4_slope_42 : decode cX4_slope 42 = .ok (.dload_n 1, 1) := by decide +kernel
theorem dX4_slope_43 : decode cX4_slope 43 = .ok (.dmul, 1) := by decide +kernel
theorem dX4_slope_44 : decode cX4_slope 44 = .ok (.dload_n 3, 1) := by decide +kernel
theorem dX4_slope_45 : decode cX4_slope 45 = .ok (.dmul, 1) := by decide +kernel
theorem dX4_slope_46 : decode cX4_slope 46 = .ok (.dload_n 1, 1) := by decide +kernel
theorem dX4_slope_47 : decode cX4_slope 47 = .ok (.dload_n 3, 1) := by decide +kernel
theorem dX4_slope_48 : decode cX4_slope 48 = .ok (.dadd, 1) := by decide +kernel
theorem dX4_slope_49 : decode cX4_slope 49 = .ok (.ddiv, 1) := by decide +kernel
theorem dX4_slope_50 : decode cX4_slope 50 = .ok (.dreturn, 1) := by decide +kernel
theorem dX4_slope_51 : decode cX4_slope 51 = .ok (.ldc2_w 76, 3) := by decide +kernel
theorem dX4_slope_54 : decode cX4_slope 54 = .ok (.dload_n 1, 1) := by decide +kernel
theorem dX4_slope_55 : decode cX4_slope 55 = .ok (.dmul, 1) := by decide +kernel
theorem dX4_slope_56 : decode cX4_slope 56 = .ok (.dload_n 3, 1) := by decide +kernel
theorem dX4_slope_57 : decode cX4_slope 57 = .ok (.invokestatic 72, 3) := by decide +kernel
theorem dX4_slope_60 : decode cX4_slope 60 = .ok (.dstore 5, 2) := by decide +kernel
theorem dX4_slope_62 : decode cX4_slope 62 = .ok (.dload_n 1, 1) := by decide +kernel
theorem dX4_slope_63 : decode cX4_slope 63 = .ok (.ldc2_w 76, 3) := by decide +kernel
theorem dX4_slope_66 : decode cX4_slope 66 = .ok (.dload_n 3, 1) := by decide +kernel
theorem dX4_slope_67 : decode cX4_slope 67 = .ok (.dmul, 1) := by decide +kernel
theorem dX4_slope_68 : decode cX4_slope 68 = .ok (.invokestatic 72, 3) := by decide +kernel
theorem dX4_slope_71 : decode cX4_slope 71 = .ok (.dstore 7, 2) := by decide +kernel
theorem dX4_slope_73 : decode cX4_slope 73 = .ok (.dload 5, 2) := by decide +kernel
theorem dX4_slope_75 : decode cX4_slope 75 = .ok (.invokestatic 65, 3) := by decide +kernel
theorem dX4_slope_78 : decode cX4_slope 78 = .ok (.dload 7, 2) := by decide +kernel
theorem dX4_slope_80 : decode cX4_slope 80 = .ok (.invokestatic 65, 3) := by decide +kernel
theorem dX4_slope_83 : decode cX4_slope 83 = .ok (.dcmp .l, 1) := by decide +kernel
theorem dX4_slope_84 : decode cX4_slope 84 = .ok (.ifCond .lt 8, 3) := by decide +kernel
theorem dX4_slope_87 : decode cX4_slope 87 = .ok (.dload 5, 2) := by decide +kernel
theorem dX4_slope_89 : decode cX4_slope 89 = .ok (.goto 5, 3) := by decide +kernel
theorem dX4_slope_92 : decode cX4_slope 92 = .ok (.dload 7, 2) := by decide +kernel
theorem dX4_slope_94 : decode cX4_slope 94 = .ok (.dreturn, 1) := by decide +kernel
set_option maxRecDepth 20000 in
theorem ggX4_slopes_X4_slope : GoodIn wsX4_slopes wsX4_slope := goodIn_r _ [11, 12, 13, 14, 15, 10, 16, 17, 18, 19, 20, 21, 22, 23, 24, 25, 26, 27, 28, 29, 30, 31, 32, 33, 34, 35, 36, 37, 38, 39] (by decide +kernel) (by decide +kernel)
set_option maxRecDepth 20000 in
theorem gX4_slopes_X4_slope : GoodIn wsX4_slopes (wsV RX4 78 RX4 yX4_slope wsX4_slope) := goodIn_app (goodIn_of _ (by decide +kernel)) ggX4_slopes_X4_slope
theorem dX4_slopes_0 : decode cX4_slopes 0 = .ok (.aload_n 0, 1) := by decide +kernel
theorem dX4_slopes_1 : decode cX4_slopes 1 = .ok (.aload_n 0, 1) := by decide +kernel
theorem dX4_slopes_2 : decode cX4_slopes 2 = .ok (.aload_n 0, 1) := by decide +kernel
theorem dX4_slopes_3 : decode cX4_slopes 3 = .ok (.getfield 7, 3) := by decide +kernel
theorem dX4_slopes_6 : decode cX4_slopes 6 = .ok (.iload_n 1, 1) := by decide +kernel
theorem dX4_slopes_7 : decode cX4_slopes 7 = .ok (.daload, 1) := by decide +kernel
theorem dX4_slopes_8 : decode cX4_slopes 8 = .ok (.aload_n 0, 1) := by decide +kernel
theorem dX4_slopes_9 : decode cX4_slopes 9 = .ok (.getfield 7, 3) := by decide +kernel
theorem dX4_slopes_12 : decode cX4_slopes 12 = .ok (.iload_n 1, 1) := by decide +kernel
theorem dX4_slopes_13 : decode cX4_slopes 13 = .ok (.iconst 1, 1) := by decide +kernel
theorem dX4_slopes_14 : decode cX4_slopes 14 = .ok (.isub, 1) := by decide +kernel
theorem dX4_slopes_15 : decode cX4_slopes 15 = .ok (.daload, 1) := by decide +kernel
theorem dX4_slopes_16 : decode cX4_slopes 16 = .ok (.dsub, 1) := by decide +kernel
theorem dX4_slopes_17 : decode cX4_slopes 17 = .ok (.aload_n 0, 1) := by decide +kernel
theorem dX4_slopes_18 : decode cX4_slopes 18 = .ok (.getfield 7, 3) := by decide +kernel
theorem dX4_slopes_21 : decode cX4_slopes 21 = .ok (.iload_n 1, 1) := by decide +kernel
theorem dX4_slopes_22 : decode cX4_slopes 22 = .ok (.iconst 1, 1) := by decide +kernel
theorem dX4_slopes_23 : decode cX4_slopes 23 = .ok (.iadd, 1) := by decide +kernel
theorem dX4_slopes_24 : decode cX4_slopes 24 = .ok (.daload, 1) := by decide +kernel
theorem dX4_slopes_25 : decode cX4_slopes 25 = .ok (.aload_n 0, 1) := by decide +kernel
theorem dX4_slopes_26 : decode cX4_slopes 26 = .ok (.getfield 7, 3) := by decide +kernel
theorem dX4_slopes_29 : decode cX4_slopes 29 = .ok (.iload_n 1, 1) := by decide +kernel
theorem dX4_slopes_30 : decode cX4_slopes 30 = .ok (.daload, 1) := by decide +kernel
theorem dX4_slopes_31 : decode cX4_slopes 31 = .ok (.dsub, 1) := by decide +kernel
theorem dX4_slopes_32 : decode cX4_slopes 32 = .ok (.invokevirtual 78, 3) := by decide +kernel
theorem dX4_slopes_35 : decode cX4_slopes 35 = .ok (.putfield 81, 3) := by decide +kernel
theorem dX4_slopes_38 : decode cX4_slopes 38 = .ok (.aload_n 0, 1) := by decide +kernel
theorem dX4_slopes_39 : decode cX4_slopes 39 = .ok (.aload_n 0, 1) := by decide +kernel
theorem dX4_slopes_40 : decode cX4_slopes 40 = .ok (.aload_n 0, 1) := by decide +kernel
theorem dX4_slopes_41 : decode cX4_slopes 41 = .ok (.getfield 13, 3) := by decide +kernel
theorem dX4_slopes_44 : decode cX4_slopes 44 = .ok (.iload_n 1, 1) := by decide +kernel
theorem dX4_slopes_45 : decode cX4_slopes 45 = .ok (.daload, 1) := by decide +kernel
theorem dX4_slopes_46 : decode cX4_slopes 46 = .ok (.aload_n 0, 1) := by decide +kernel
theorem dX4_slopes_47 : decode cX4_slopes 47 = .ok (.getfield 13, 3) := by decide +kernel
theorem dX4_slopes_50 : decode cX4_slopes 50 = .ok (.iload_n 1, 1) := by decide +kernel
theorem dX4_slopes_51 : decode cX4_slopes 51 = .ok (.iconst 1, 1) := by decide +kernel
theorem dX4_slopes_52 : decode cX4_slopes 52 = .ok (.isub, 1) := by decide +kernel
theorem dX4_slopes_53 : decode cX4_slopes 53 = .ok (.daload, 1) := by decide +kernel
theorem dX4_slopes_54 : decode cX4_slopes 54 = .ok (.dsub, 1) := by decide +kernel
theorem dX4_slopes_55 : decode cX4_slopes 55 = .ok (.aload_n 0, 1) := by decide +kernel
theorem dX4_slopes_56 : decode cX4_slopes 56 = .ok (.getfield 13, 3) := by decide +kernel
theorem dX4_slopes_59 : decode cX4_slopes 59 = .ok (.iload_n 1, 1) := by decide +kernel
theorem dX4_slopes_60 : decode cX4_slopes 60 = .ok (.iconst 1, 1) := by decide +kernel
theorem dX4_slopes_61 : decode cX4_slopes 61 = .ok (.iadd, 1) := by decide +kernel
theorem dX4_slopes_62 : decode cX4_slopes 62 = .ok (.daload, 1) := by decide +kernel
theorem dX4_slopes_63 : decode cX4_slopes 63 = .ok (.aload_n 0, 1) := by decide +kernel
theorem dX4_slopes_64 : decode cX4_slopes 64 = .ok (.getfield 13, 3) := by decide +kernel
theorem dX4_slopes_67 : decode cX4_slopes 67 = .ok (.iload_n 1, 1) := by decide +kernel
theorem dX4_slopes_68 : decode cX4_slopes 68 = .ok (.daload, 1) := by decide +kernel
theorem dX4_slopes_69 : decode cX4_slopes 69 = .ok (.dsub, 1) := by decide +kernel
theorem dX4_slopes_70 : decode cX4_slopes 70 = .ok (.invokevirtual 78, 3) := by decide +kernel
theorem dX4_slopes_73 : decode cX4_slopes 73 = .ok (.putfield 84, 3) := by decide +kernel
theorem dX4_slopes_76 : decode cX4_slopes 76 = .ok (.aload_n 0, 1) := by decide +kernel
theorem dX4_slopes_77 : decode cX4_slopes 77 = .ok (.getfield 7, 3) := by decide +kernel
theorem dX4_slopes_80 : decode cX4_slopes 80 = .ok (.iload_n 1, 1) := by decide +kernel
theorem dX4_slopes_81 : decode cX4_slopes 81 = .ok (.daload, 1) := by decide +kernel
theorem dX4_slopes_82 : decode cX4_slopes 82 = .ok (.ldc2_w 63, 3) := by decide +kernel
theorem dX4_slopes_85 : decode cX4_slopes 85 = .ok (.aload_n 0, 1) := by decide +kernel
theorem dX4_slopes_86 : decode cX4_slopes 86 = .ok (.getfield 81, 3) := by decide +kernel
theorem dX4_slopes_89 : decode cX4_slopes 89 = .ok (.dmul, 1) := by decide +kernel
theorem dX4_slopes_90 : decode cX4_slopes 90 = .ok (.dadd, 1) := by decide +kernel
theorem dX4_slopes_91 : decode cX4_slopes 91 = .ok (.ldc2_w 87, 3) := by decide +kernel
theorem dX4_slopes_94 : decode cX4_slopes 94 = .ok (.dcmp .g, 1) := by decide +kernel
theorem dX4_slopes_95 : decode cX4_slopes 95 = .ok (.ifCond .lt 25, 3) := by decide +kernel
theorem dX4_slopes_98 : decode cX4_slopes 98 = .ok (.aload_n 0, 1) := by decide +kernel
theorem dX4_slopes_99 : decode cX4_slopes 99 = .ok (.getfield 7, 3) := by decide +kernel
theorem dX4_slopes_102 : decode cX4_slopes 102 = .ok (.iload_n 1, 1) := by decide +kernel
theorem dX4_slopes_103 : decode cX4_slopes 103 = .ok (.daload, 1) := by decide +kernel
theorem dX4_slopes_104 : decode cX4_slopes 104 = .ok (.ldc2_w 63, 3) := by decide +kernel
theorem dX4_slopes_107 : decode cX4_slopes 107 = .ok (.aload_n 0, 1) := by decide +kernel
theorem dX4_slopes_108 : decode cX4_slopes 108 = .ok (.getfield 81, 3) := by decide +kernel
theorem dX4_slopes_111 : decode cX4_slopes 111 = .ok (.dmul, 1) := by decide +kernel
theorem dX4_slopes_112 : decode cX4_slopes 112 = .ok (.dsub, 1) := by decide +kernel
theorem dX4_slopes_113 : decode cX4_slopes 113 = .ok (.ldc2_w 87, 3) := by decide +kernel
theorem dX4_slopes_116 : decode cX4_slopes 116 = .ok (.dcmp .g, 1) := by decide +kernel
theorem dX4_slopes_117 : decode cX4_slopes 117 = .ok (.ifCond .ge 13, 3) := by decide +kernel
theorem dX4_slopes_120 : decode cX4_slopes 120 = .ok (.aload_n 0, 1) := by decide +kernel
theorem dX4_slopes_121 : decode cX4_slopes 121 = .ok (.dconst 0, 1) := by decide +kernel
theorem dX4_slopes_122 : decode cX4_slopes 122 = .ok (.putfield 81, 3) := by decide +kernel
theorem dX4_slopes_125 : decode cX4_slopes 125 = .ok (.aload_n 0, 1) := by decide +kernel
theorem dX4_slopes_126 : decode cX4_slopes 126 = .ok (.dconst 0, 1) := by decide +kernel
theorem dX4_slopes_127 : decode cX4_slopes 127 = .ok (.putfield 84, 3) := by decide +kernel
theorem dX4_slopes_130 : decode cX4_slopes 130 = .ok (.return_, 1) := by decide +kernel
theorem dX4_broad_0 : decode cX4_broad 0 = .ok (.ldc2_w 63, 3) := by decide +kernel
theorem dX4_broad_3 : decode cX4_broad 3 = .ok (.dload_n 0, 1) := by decide +kernel
theorem dX4_broad_4 : decode cX4_broad 4 = .ok (.dload_n 2, 1) := by decide +kernel
theorem dX4_broad_5 : decode cX4_broad 5 = .ok (.dadd, 1) := by decide +kernel
theorem dX4_broad_6 : decode cX4_broad 6 = .ok (.dmul, 1) := by decide +kernel
theorem dX4_broad_7 : decode cX4_broad 7 = .ok (.ldc2_w 63, 3) := by decide +kernel
theorem dX4_broad_10 : decode cX4_broad 10 = .ok (.dload 4, 2) := by decide +kernel
theorem dX4_broad_12 : decode cX4_broad 12 = .ok (.dmul, 1) := by decide +kernel
theorem dX4_broad_13 : decode cX4_broad 13 = .ok (.dload 8, 2) := by decide +kernel
theorem dX4_broad_15 : decode cX4_broad 15 = .ok (.dload 6, 2) := by decide +kernel
theorem dX4_broad_17 : decode cX4_broad 17 = .ok (.dsub, 1) := by decide +kernel
theorem dX4_broad_18 : decode cX4_broad 18 = .ok (.dmul, 1) := by decide +kernel
theorem dX4_broad_19 : decode cX4_broad 19 = .ok (.dsub, 1) := by decide +kernel
theorem dX4_broad_20 : decode cX4_broad 20 = .ok (.dreturn, 1) := by decide +kernel
theorem dX4_narrow_0 : decode cX4_narrow 0 = .ok (.dload 4, 2) := by decide +kernel
theorem dX4_narrow_2 : decode cX4_narrow 2 = .ok (.dconst 0, 1) := by decide +kernel
theorem dX4_narrow_3 : decode cX4_narrow 3 = .ok (.dcmp .g, 1) := by decide +kernel
theorem dX4_narrow_4 : decode cX4_narrow 4 = .ok (.ifCond .lt 5, 3) := by decide +kernel
theorem dX4_narrow_7 : decode cX4_narrow 7 = .ok (.dload_n 0, 1) := by decide +kernel
theorem dX4_narrow_8 : decode cX4_narrow 8 = .ok (.dreturn, 1) := by decide +kernel
theorem dX4_narrow_9 : decode cX4_narrow 9 = .ok (.dload 6, 2) := by decide +kernel
theorem dX4_narrow_11 : decode cX4_narrow 11 = .ok (.dconst 0, 1) := by decide +kernel
theorem dX4_narrow_12 : decode cX4_narrow 12 = .ok (.dcmp .l, 1) := by decide +kernel
theorem dX4_narrow_13 : decode cX4_narrow 13 = .ok (.ifCond .gt 5, 3) := by decide +kernel
theorem dX4_narrow_16 : decode cX4_narrow 16 = .ok (.dload_n 2, 1) := by decide +kernel
theorem dX4_narrow_17 : decode cX4_narrow 17 = .ok (.dreturn, 1) := by decide +kernel
theorem dX4_narrow_18 : decode cX4_narrow 18 = .ok (.dload 6, 2) := by decide +kernel
theorem dX4_narrow_20 : decode cX4_narrow 20 = .ok (.dload_n 0, 1) := by decide +kernel
theorem dX4_narrow_21 : decode cX4_narrow 21 = .ok (.dmul, 1) := by decide +kernel
theorem dX4_narrow_22 : decode cX4_narrow 22 = .ok (.dload 4, 2) := by decide +kernel
theorem dX4_narrow_24 : decode cX4_narrow 24 = .ok (.dload_n 2, 1) := by decide +kernel
theorem dX4_narrow_25 : decode cX4_narrow 25 = .ok (.dmul, 1) := by decide +kernel
theorem dX4_narrow_26 : decode cX4_narrow 26 = .ok (.dsub, 1) := by decide +kernel
theorem dX4_narrow_27 : decode cX4_narrow 27 = .ok (.dload 4, 2) := by decide +kernel
theorem dX4_narrow_29 : decode cX4_narrow 29 = .ok (.dload 6, 2) := by decide +kernel
theorem dX4_narrow_31 : decode cX4_narrow 31 = .ok (.dmul, 1) := by decide +kernel
theorem dX4_narrow_32 : decode cX4_narrow 32 = .ok (.dload 10, 2) := by decide +kernel
theorem dX4_narrow_34 : decode cX4_narrow 34 = .ok (.dload 8, 2) := by decide +kernel
theorem dX4_narrow_36 : decode cX4_narrow 36 = .ok (.dsub, 1) := by decide +kernel
theorem dX4_narrow_37 : decode cX4_narrow 37 = .ok (.dmul, 1) := by decide +kernel
theorem dX4_narrow_38 : decode cX4_narrow 38 = .ok (.dadd, 1) := by decide +kernel
theorem dX4_narrow_39 : decode cX4_narrow 39 = .ok (.dload 6, 2) := by decide +kernel
theorem dX4_narrow_41 : decode cX4_narrow 41 = .ok (.dload 4, 2) := by decide +kernel
theorem dX4_narrow_43 : decode cX4_narrow 43 = .ok (.dsub, 1) := by decide +kernel
theorem dX4_narrow_44 : decode cX4_narrow 44 = .ok (.ddiv, 1) := by decide +kernel
theorem dX4_narrow_45 : decode cX4_narrow 45 = .ok (.dreturn, 1) := by decide +kernel
set_option maxRecDepth 20000 in
theorem ggX4_face_X4_slopes : GoodIn wsX4_face wsX4_slopes := goodIn_r _ [17, 1, 3, 5, 6, 2, 18, 19, 20, 21, 16, 22, 23, 24, 25, 26, 27, 28, 29, 30, 52, 53, 54, 55, 56, 57, 58, 59, 60, 61, 62, 63, 64, 65, 66, 67, 68, 69, 70, 71] (by decide +kernel) (by decide +kernel)
set_option maxRecDepth 20000 in
theorem gX4_face_X4_slopes : GoodIn wsX4_face (wsV RX4 89 RX4 yX4_slopes wsX4_slopes) := goodIn_app (goodIn_of _ (by decide +kernel)) ggX4_face_X4_slopes
set_option maxRecDepth 20000 in
theorem ggX4_face_X4_force : GoodIn wsX4_face wsX4_force := goodIn_r _ [33, 2] (by decide +kernel) (by decide +kernel)
set_option maxRecDepth 20000 in
theorem gX4_face_X4_force : GoodIn wsX4_face (va_wsS RX4 104 yX4_force wsX4_force) := goodIn_app (goodIn_of _ (by decide +kernel)) ggX4_face_X4_force
set_option maxRecDepth 20000 in
theorem ggX4_face_X4_speed : GoodIn wsX4_face wsX4_speed := goodIn_r _ [36, 28, 29, 16, 30, 37, 38, 39, 2] (by decide +kernel) (by decide +kernel)
set_option maxRecDepth 20000 in
theorem gX4_face_X4_speed : GoodIn wsX4_face (va_wsS RX4 107 yX4_speed wsX4_speed) := goodIn_app (goodIn_of _ (by decide +kernel)) ggX4_face_X4_speed
set_option maxRecDepth 20000 in
theorem ggX4_face_X4_greater : GoodIn wsX4_face wsX4_greater := goodIn_r _ [42] (by decide +kernel) (by decide +kernel)
set_option maxRecDepth 20000 in
theorem gX4_face_X4_greater : GoodIn wsX4_face (va_wsS RX4 110 yX4_greater wsX4_greater) := goodIn_app (goodIn_of _ (by decide +kernel)) ggX4_face_X4_greater
set_option maxRecDepth 20000 in
theorem ggX4_face_X4_broad : GoodIn wsX4_face wsX4_broad := goodIn_r _ [45, 2] (by decide +kernel) (by decide +kernel)
set_option maxRecDepth 20000 in
theorem gX4_face_X4_broad : GoodIn wsX4_face (va_wsS RX4 113 yX4_broad wsX4_broad) := goodIn_app (goodIn_of _ (by decide +kernel)) ggX4_face_X4_broad
set_option maxRecDepth 20000 in
theorem ggX4_face_X4_root : GoodIn wsX4_face wsX4_root := goodIn_r _ [39, 2] (by decide +kernel) (by decide +kernel)
set_option maxRecDepth 20000 in
theorem gX4_face_X4_root : GoodIn wsX4_face (va_wsS RX4 69 yX4_root wsX4_root) := goodIn_app (goodIn_of _ (by decide +kernel)) ggX4_face_X4_root
set_option maxRecDepth 20000 in
theorem ggX4_face_X4_lesser : GoodIn wsX4_face wsX4_lesser := goodIn_r _ [48] (by decide +kernel) (by decide +kernel)
set_option maxRecDepth 20000 in
theorem gX4_face_X4_lesser : GoodIn wsX4_face (va_wsS RX4 123 yX4_lesser wsX4_lesser) := goodIn_app (goodIn_of _ (by decide +kernel)) ggX4_face_X4_lesser
set_option maxRecDepth 20000 in
theorem ggX4_face_X4_narrow : GoodIn wsX4_face wsX4_narrow := goodIn_r _ [51] (by decide +kernel) (by decide +kernel)
set_option maxRecDepth 20000 in
theorem gX4_face_X4_narrow : GoodIn wsX4_face (va_wsS RX4 126 yX4_narrow wsX4_narrow) := goodIn_app (goodIn_of _ (by decide +kernel)) ggX4_face_X4_narrow
end
section
theorem dX4_face_0 : decode cX4_face 0 = .ok (.bipush 28, 2) := by decide +kernel
theorem dX4_face_2 : decode cX4_face 2 = .ok (.iload_n 1, 1) := by decide +kernel
theorem dX4_face_3 : decode cX4_face 3 = .ok (.imul, 1) := by decide +kernel
theorem dX4_face_4 : decode cX4_face 4 = .ok (.iload_n 2, 1) := by decide +kernel
theorem dX4_face_5 : decode cX4_face 5 = .ok (.iadd, 1) := by decide +kernel
theorem dX4_face_6 : decode cX4_face 6 = .ok (.iconst 2, 1) := by decide +kernel
theorem dX4_face_7 : decode cX4_face 7 = .ok (.iadd, 1) := by decide +kernel
theorem dX4_face_8 : decode cX4_face 8 = .ok (.istore_n 3, 1) := by decide +kernel
theorem dX4_face_9 : decode cX4_face 9 = .ok (.aload_n 0, 1) := by decide +kernel
theorem dX4_face_10 : decode cX4_face 10 = .ok (.iload_n 3, 1) := by decide +kernel
theorem dX4_face_11 : decode cX4_face 11 = .ok (.iconst 1, 1) := by decide +kernel
theorem dX4_face_12 : decode cX4_face 12 = .ok (.isub, 1) := by decide +kernel
theorem dX4_face_13 : decode cX4_face 13 = .ok (.invokevirtual 89, 3) := by decide +kernel
theorem dX4_face_16 : decode cX4_face 16 = .ok (.aload_n 0, 1) := by decide +kernel
theorem dX4_face_17 : decode cX4_face 17 = .ok (.aload_n 0, 1) := by decide +kernel
theorem dX4_face_18 : decode cX4_face 18 = .ok (.getfield 7, 3) := by decide +kernel
theorem dX4_face_21 : decode cX4_face 21 = .ok (.iload_n 3, 1) := by decide +kernel
theorem dX4_face_22 : decode cX4_face 22 = .ok (.iconst 1, 1) := by decide +kernel
theorem dX4_face_23 : decode cX4_face 23 = .ok (.isub, 1) := by decide +kernel
theorem dX4_face_24 : decode cX4_face 24 = .ok (.daload, 1) := by decide +kernel
theorem dX4_face_25 : decode cX4_face 25 = .ok (.ldc2_w 63, 3) := by decide +kernel
theorem dX4_face_28 : decode cX4_face 28 = .ok (.aload_n 0, 1) := by decide +kernel
theorem dX4_face_29 : decode cX4_face 29 = .ok (.getfield 81, 3) := by decide +kernel
theorem dX4_face_32 : decode cX4_face 32 = .ok (.dmul, 1) := by decide +kernel
theorem dX4_face_33 : decode cX4_face 33 = .ok (.dadd, 1) := by decide +kernel
theorem dX4_face_34 : decode cX4_face 34 = .ok (.putfield 92, 3) := by decide +kernel
theorem dX4_face_37 : decode cX4_face 37 = .ok (.aload_n 0, 1) := by decide +kernel
theorem dX4_face_38 : decode cX4_face 38 = .ok (.aload_n 0, 1) := by decide +kernel
theorem dX4_face_39 : decode cX4_face 39 = .ok (.getfield 13, 3) := by decide +kernel
theorem dX4_face_42 : decode cX4_face 42 = .ok (.iload_n 3, 1) := by decide +kernel
theorem dX4_face_43 : decode cX4_face 43 = .ok (.iconst 1, 1) := by decide +kernel
theorem dX4_face_44 : decode cX4_face 44 = .ok (.isub, 1) := by decide +kernel
theorem dX4_face_45 : decode cX4_face 45 = .ok (.daload, 1) := by decide +kernel
theorem dX4_face_46 : decode cX4_face 46 = .ok (.ldc2_w 63, 3) := by decide +kernel
theorem dX4_face_49 : decode cX4_face 49 = .ok (.aload_n 0, 1) := by decide +kernel
theorem dX4_face_50 : decode cX4_face 50 = .ok (.getfield 84, 3) := by decide +kernel
theorem dX4_face_53 : decode cX4_face 53 = .ok (.dmul, 1) := by decide +kernel
theorem dX4_face_54 : decode cX4_face 54 = .ok (.dadd, 1) := by decide +kernel
theorem dX4_face_55 : decode cX4_face 55 = .ok (.putfield 95, 3) := by decide +kernel
theorem dX4_face_58 : decode cX4_face 58 = .ok (.aload_n 0, 1) := by decide +kernel
theorem dX4_face_59 : decode cX4_face 59 = .ok (.iload_n 3, 1) := by decide +kernel
theorem dX4_face_60 : decode cX4_face 60 = .ok (.invokevirtual 89, 3) := by decide +kernel
theorem dX4_face_63 : decode cX4_face 63 = .ok (.aload_n 0, 1) := by decide +kernel
theorem dX4_face_64 : decode cX4_face 64 = .ok (.aload_n 0, 1) := by decide +kernel
theorem dX4_face_65 : decode cX4_face 65 = .ok (.getfield 7, 3) := by decide +kernel
theorem dX4_face_68 : decode cX4_face 68 = .ok (.iload_n 3, 1) := by decide +kernel
theorem dX4_face_69 : decode cX4_face 69 = .ok (.daload, 1) := by decide +kernel
theorem dX4_face_70 : decode cX4_face 70 = .ok (.ldc2_w 63, 3) := by decide +kernel
theorem dX4_face_73 : decode cX4_face 73 = .ok (.aload_n 0, 1) := by decide +kernel
theorem dX4_face_74 : decode cX4_face 74 = .ok (.getfield 81, 3) := by decide +kernel
theorem dX4_face_77 : decode cX4_face 77 = .ok (.dmul, 1) := by decide +kernel
theorem dX4_face_78 : decode cX4_face 78 = .ok (.dsub, 1) := by decide +kernel
theorem dX4_face_79 : decode cX4_face 79 = .ok (.putfield 98, 3) := by decide +kernel
theorem dX4_face_82 : decode cX4_face 82 = .ok (.aload_n 0, 1) := by decide +kernel
theorem dX4_face_83 : decode cX4_face 83 = .ok (.aload_n 0, 1) := by decide +kernel
theorem dX4_face_84 : decode cX4_face 84 = .ok (.getfield 13, 3) := by decide +kernel
theorem dX4_face_87 : decode cX4_face 87 = .ok (.iload_n 3, 1) := by decide +kernel
theorem dX4_face_88 : decode cX4_face 88 = .ok (.daload, 1) := by decide +kernel
theorem dX4_face_89 : decode cX4_face 89 = .ok (.ldc2_w 63, 3) := by decide +kernel
theorem dX4_face_92 : decode cX4_face 92 = .ok (.aload_n 0, 1) := by decide +kernel
theorem dX4_face_93 : decode cX4_face 93 = .ok (.getfield 84, 3) := by decide +kernel
theorem dX4_face_96 : decode cX4_face 96 = .ok (.dmul, 1) := by decide +kernel
theorem dX4_face_97 : decode cX4_face 97 = .ok (.dsub, 1) := by decide +kernel
theorem dX4_face_98 : decode cX4_face 98 = .ok (.putfield 101, 3) := by decide +kernel
theorem dX4_face_101 : decode cX4_face 101 = .ok (.aload_n 0, 1) := by decide +kernel
theorem dX4_face_102 : decode cX4_face 102 = .ok (.getfield 92, 3) := by decide +kernel
theorem dX4_face_105 : decode cX4_face 105 = .ok (.aload_n 0, 1) := by decide +kernel
theorem dX4_face_106 : decode cX4_face 106 = .ok (.getfield 95, 3) := by decide +kernel
theorem dX4_face_109 : decode cX4_face 109 = .ok (.invokestatic 104, 3) := by decide +kernel
theorem dX4_face_112 : decode cX4_face 112 = .ok (.dstore 4, 2) := by decide +kernel
theorem dX4_face_114 : decode cX4_face 114 = .ok (.aload_n 0, 1) := by decide +kernel
theorem dX4_face_115 : decode cX4_face 115 = .ok (.getfield 98, 3) := by decide +kernel
theorem dX4_face_118 : decode cX4_face 118 = .ok (.aload_n 0, 1) := by decide +kernel
theorem dX4_face_119 : decode cX4_face 119 = .ok (.getfield 101, 3) := by decide +kernel
theorem dX4_face_122 : decode cX4_face 122 = .ok (.invokestatic 104, 3) := by decide +kernel
theorem dX4_face_125 : decode cX4_face 125 = .ok (.dstore 6, 2) := by decide +kernel
theorem dX4_face_127 : decode cX4_face 127 = .ok (.aload_n 0, 1) := by decide +kernel
theorem dX4_face_128 : decode cX4_face 128 = .ok (.getfield 48, 3) := by decide +kernel
theorem dX4_face_131 : decode cX4_face 131 = .ok (.ifCond .ne 77, 3) := by decide +kernel
theorem dX4_face_134 : decode cX4_face 134 = .ok (.aload_n 0, 1) := by decide +kernel
theorem dX4_face_135 : decode cX4_face 135 = .ok (.getfield 92, 3) := by decide +kernel
theorem dX4_face_138 : decode cX4_face 138 = .ok (.aload_n 0, 1) := by decide +kernel
theorem dX4_face_139 : decode cX4_face 139 = .ok (.getfield 95, 3) := by decide +kernel
theorem dX4_face_142 : decode cX4_face 142 = .ok (.invokestatic 107, 3) := by decide +kernel
theorem dX4_face_145 : decode cX4_face 145 = .ok (.aload_n 0, 1) := by decide +kernel
theorem dX4_face_146 : decode cX4_face 146 = .ok (.getfield 98, 3) := by decide +kernel
theorem dX4_face_149 : decode cX4_face 149 = .ok (.aload_n 0, 1) := by decide +kernel
theorem dX4_face_150 : decode cX4_face 150 = .ok (.getfield 101, 3) := by decide +kernel
theorem dX4_face_153 : decode cX4_face 153 = .ok (.invokestatic 107, 3) := by decide +kernel
theorem dX4_face_156 : decode cX4_face 156 = .ok (.invokestatic 110, 3) := by decide +kernel
theorem dX4_face_159 : decode cX4_face 159 = .ok (.dstore 8, 2) := by decide +kernel
theorem dX4_face_161 : decode cX4_face 161 = .ok (.aload_n 0, 1) := by decide +kernel
theorem dX4_face_162 : decode cX4_face 162 = .ok (.aload_n 0, 1) := by decide +kernel
theorem dX4_face_163 : decode cX4_face 163 = .ok (.getfield 95, 3) := by decide +kernel
theorem dX4_face_166 : decode cX4_face 166 = .ok (.aload_n 0, 1) := by decide +kernel
theorem dX4_face_167 : decode cX4_face 167 = .ok (.getfield 101, 3) := by decide +kernel
theorem dX4_face_170 : decode cX4_face 170 = .ok (.dload 8, 2) := by decide +kernel
theorem dX4_face_172 : decode cX4_face 172 = .ok (.aload_n 0, 1) := by decide +kernel
theorem dX4_face_173 : decode cX4_face 173 = .ok (.getfield 92, 3) := by decide +kernel
theorem dX4_face_176 : decode cX4_face 176 = .ok (.aload_n 0, 1) := by decide +kernel
theorem dX4_face_177 : decode cX4_face 177 = .ok (.getfield 98, 3) := by decide +kernel
theorem dX4_face_180 : decode cX4_face 180 = .ok (.invokestatic 113, 3) := by decide +kernel
theorem dX4_face_183 : decode cX4_face 183 = .ok (.putfield 117, 3) := by decide +kernel
theorem dX4_face_186 : decode cX4_face 186 = .ok (.aload_n 0, 1) := by decide +kernel
theorem dX4_face_187 : decode cX4_face 187 = .ok (.dload 4, 2) := by decide +kernel
theorem dX4_face_189 : decode cX4_face 189 = .ok (.dload 6, 2) := by decide +kernel
theorem dX4_face_191 : decode cX4_face 191 = .ok (.dload 8, 2) := by decide +kernel
theorem dX4_face_193 : decode cX4_face 193 = .ok (.aload_n 0, 1) := by decide +kernel
theorem dX4_face_194 : decode cX4_face 194 = .ok (.getfield 95, 3) := by decide +kernel
theorem dX4_face_197 : decode cX4_face 197 = .ok (.aload_n 0, 1) := by decide +kernel
theorem dX4_face_198 : decode cX4_face 198 = .ok (.getfield 101, 3) := by decide +kernel
theorem dX4_face_201 : decode cX4_face 201 = .ok (.invokestatic 113, 3) := by decide +kernel
theorem dX4_face_204 : decode cX4_face 204 = .ok (.putfield 120, 3) := by decide +kernel
theorem dX4_face_207 : decode cX4_face 207 = .ok (.return_, 1) := by decide +kernel
theorem dX4_face_208 : decode cX4_face 208 = .ok (.aload_n 0, 1) := by decide +kernel
theorem dX4_face_209 : decode cX4_face 209 = .ok (.getfield 95, 3) := by decide +kernel
theorem dX4_face_212 : decode cX4_face 212 = .ok (.aload_n 0, 1) := by decide +kernel
theorem dX4_face_213 : decode cX4_face 213 = .ok (.getfield 92, 3) := by decide +kernel
theorem dX4_face_216 : decode cX4_face 216 = .ok (.ddiv, 1) := by decide +kernel
theorem dX4_face_217 : decode cX4_face 217 = .ok (.dstore 8, 2) := by decide +kernel
theorem dX4_face_219 : decode cX4_face 219 = .ok (.aload_n 0, 1) := by decide +kernel
theorem dX4_face_220 : decode cX4_face 220 = .ok (.getfield 101, 3) := by decide +kernel
theorem dX4_face_223 : decode cX4_face 223 = .ok (.aload_n 0, 1) := by decide +kernel
theorem dX4_face_224 : decode cX4_face 224 = .ok (.getfield 98, 3) := by decide +kernel
theorem dX4_face_227 : decode cX4_face 227 = .ok (.ddiv, 1) := by decide +kernel
theorem dX4_face_228 : decode cX4_face 228 = .ok (.dstore 10, 2) := by decide +kernel
theorem dX4_face_230 : decode cX4_face 230 = .ok (.aload_n 0, 1) := by decide +kernel
theorem dX4_face_231 : decode cX4_face 231 = .ok (.getfield 92, 3) := by decide +kernel
theorem dX4_face_234 : decode cX4_face 234 = .ok (.invokestatic 69, 3) := by decide +kernel
theorem dX4_face_237 : decode cX4_face 237 = .ok (.dstore 12, 2) := by decide +kernel
theorem dX4_face_239 : decode cX4_face 239 = .ok (.aload_n 0, 1) := by decide +kernel
theorem dX4_face_240 : decode cX4_face 240 = .ok (.getfield 98, 3) := by decide +kernel
theorem dX4_face_243 : decode cX4_face 243 = .ok (.invokestatic 69, 3) := by decide +kernel
theorem dX4_face_246 : decode cX4_face 246 = .ok (.dstore 14, 2) := by decide +kernel
theorem dX4_face_248 : decode cX4_face 248 = .ok (.dload 8, 2) := by decide +kernel
theorem dX4_face_250 : decode cX4_face 250 = .ok (.dload 12, 2) := by decide +kernel
theorem dX4_face_252 : decode cX4_face 252 = .ok (.dsub, 1) := by decide +kernel
theorem dX4_face_253 : decode cX4_face 253 = .ok (.dload 10, 2) := by decide +kernel
theorem dX4_face_255 : decode cX4_face 255 = .ok (.dload 14, 2) := by decide +kernel
theorem dX4_face_257 : decode cX4_face 257 = .ok (.dsub, 1) := by decide +kernel
theorem dX4_face_258 : decode cX4_face 258 = .ok (.invokestatic 123, 3) := by decide +kernel
theorem dX4_face_261 : decode cX4_face 261 = .ok (.dstore 16, 2) := by decide +kernel
theorem dX4_face_263 : decode cX4_face 263 = .ok (.dload 8, 2) := by decide +kernel
theorem dX4_face_265 : decode cX4_face 265 = .ok (.dload 12, 2) := by decide +kernel
theorem dX4_face_267 : decode cX4_face 267 = .ok (.dadd, 1) := by decide +kernel
theorem dX4_face_268 : decode cX4_face 268 = .ok (.dload 10, 2) := by decide +kernel
theorem dX4_face_270 : decode cX4_face 270 = .ok (.dload 14, 2) := by decide +kernel
theorem dX4_face_272 : decode cX4_face 272 = .ok (.dadd, 1) := by decide +kernel
theorem dX4_face_273 : decode cX4_face 273 = .ok (.invokestatic 110, 3) := by decide +kernel
theorem dX4_face_276 : decode cX4_face 276 = .ok (.dstore 18, 2) := by decide +kernel
theorem dX4_face_278 : decode cX4_face 278 = .ok (.aload_n 0, 1) := by decide +kernel
theorem dX4_face_279 : decode cX4_face 279 = .ok (.aload_n 0, 1) := by decide +kernel
theorem dX4_face_280 : decode cX4_face 280 = .ok (.getfield 95, 3) := by decide +kernel
theorem dX4_face_283 : decode cX4_face 283 = .ok (.aload_n 0, 1) := by decide +kernel
theorem dX4_face_284 : decode cX4_face 284 = .ok (.getfield 101, 3) := by decide +kernel
theorem dX4_face_287 : decode cX4_face 287 = .ok (.dload 16, 2) := by decide +kernel
theorem dX4_face_289 : decode cX4_face 289 = .ok (.dload 18, 2) := by decide +kernel
theorem dX4_face_291 : decode cX4_face 291 = .ok (.aload_n 0, 1) := by decide +kernel
theorem dX4_face_292 : decode cX4_face 292 = .ok (.getfield 92, 3) := by decide +kernel
theorem dX4_face_295 : decode cX4_face 295 = .ok (.aload_n 0, 1) := by decide +kernel
theorem dX4_face_296 : decode cX4_face 296 = .ok (.getfield 98, 3) := by decide +kernel
theorem dX4_face_299 : decode cX4_face 299 = .ok (.invokestatic 126, 3) := by decide +kernel
theorem dX4_face_302 : decode cX4_face 302 = .ok (.putfield 117, 3) := by decide +kernel
theorem dX4_face_305 : decode cX4_face 305 = .ok (.aload_n 0, 1) := by decide +kernel
theorem dX4_face_306 : decode cX4_face 306 = .ok (.dload 4, 2) := by decide +kernel
theorem dX4_face_308 : decode cX4_face 308 = .ok (.dload 6, 2) := by decide +kernel
theorem dX4_face_310 : decode cX4_face 310 = .ok (.dload 16, 2) := by decide +kernel
theorem dX4_face_312 : decode cX4_face 312 = .ok (.dload 18, 2) := by decide +kernel
theorem dX4_face_314 : decode cX4_face 314 = .ok (.aload_n 0, 1) := by decide +kernel
theorem dX4_face_315 : decode cX4_face 315 = .ok (.getfield 95, 3) := by decide +kernel
theorem dX4_face_318 : decode cX4_face 318 = .ok (.aload_n 0, 1) := by decide +kernel
theorem dX4_face_319 : decode cX4_face 319 = .ok (.getfield 101, 3) := by decide +kernel
theorem dX4_face_322 : decode cX4_face 322 = .ok (.invokestatic 126, 3) := by decide +kernel
theorem dX4_face_325 : decode cX4_face 325 = .ok (.putfield 120, 3) := by decide +kernel
theorem dX4_face_328 : decode cX4_face 328 = .ok (.return_, 1) := by decide +kernel
set_option maxRecDepth 20000 in
theorem ggX4_stage_X4_close : GoodIn wsX4_stage wsX4_close := goodIn_r _ [13, 1, 14, 4, 5, 64, 65, 66, 67, 68, 69, 70, 71, 72, 73, 74, 75, 76, 77, 78, 79, 80, 81, 82, 83] (by decide +kernel) (by decide +kernel)
set_option maxRecDepth 20000 in
theorem gX4_stage_X4_close : GoodIn wsX4_stage (wsV RX4 130 RX4 yX4_close wsX4_close) := goodIn_app (goodIn_of _ (by decide +kernel)) ggX4_stage_X4_close
set_option maxRecDepth 20000 in
theorem ggX4_stage_X4_face : GoodIn wsX4_stage wsX4_face := goodIn_r _ [18, 4, 19, 20, 21, 5, 22, 23, 24, 25, 26, 2, 3, 27, 28, 29, 12, 30, 6, 31, 32, 33, 34, 35, 36, 37, 38, 39, 40, 41, 42, 43, 44, 45, 46, 47, 48, 49, 50, 51, 52, 53, 54, 55, 56, 57, 58, 59, 60, 61, 62, 63, 64, 65, 66, 67, 68, 69, 70, 71, 72, 73, 74, 75, 76, 77, 78, 79, 80, 81, 82, 83] (by decide +kernel) (by decide +kernel)
set_option maxRecDepth 20000 in
theorem gX4_stage_X4_face : GoodIn wsX4_stage (wsV RX4 133 RX4 yX4_face wsX4_face) := goodIn_app (goodIn_of _ (by decide +kernel)) ggX4_stage_X4_face
theorem dX4_stage_0 : decode cX4_stage 0 = .ok (.aload_n 0, 1) := by decide +kernel
theorem dX4_stage_1 : decode cX4_stage 1 = .ok (.iload_n 1, 1) := by decide +kernel
theorem dX4_stage_2 : decode cX4_stage 2 = .ok (.invokevirtual 130, 3) := by decide +kernel
theorem dX4_stage_5 : decode cX4_stage 5 = .ok (.aload_n 0, 1) := by decide +kernel
theorem dX4_stage_6 : decode cX4_stage 6 = .ok (.iload_n 1, 1) := by decide +kernel
theorem dX4_stage_7 : decode cX4_stage 7 = .ok (.iconst 0, 1) := by decide +kernel
theorem dX4_stage_8 : decode cX4_stage 8 = .ok (.invokevirtual 133, 3) := by decide +kernel
theorem dX4_stage_11 : decode cX4_stage 11 = .ok (.iconst 1, 1) := by decide +kernel
theorem dX4_stage_12 : decode cX4_stage 12 = .ok (.istore 5, 2) := by decide +kernel
theorem dX4_stage_14 : decode cX4_stage 14 = .ok (.iconst 0, 1) := by decide +kernel
theorem dX4_stage_15 : decode cX4_stage 15 = .ok (.istore 6, 2) := by decide +kernel
theorem dX4_stage_17 : decode cX4_stage 17 = .ok (.iload 6, 2) := by decide +kernel
theorem dX4_stage_19 : decode cX4_stage 19 = .ok (.aload_n 0, 1) := by decide +kernel
theorem dX4_stage_20 : decode cX4_stage 20 = .ok (.getfield 30, 3) := by decide +kernel
theorem dX4_stage_23 : decode cX4_stage 23 = .ok (.if_icmp .ge 154, 3) := by decide +kernel
theorem dX4_stage_26 : decode cX4_stage 26 = .ok (.aload_n 0, 1) := by decide +kernel
theorem dX4_stage_27 : decode cX4_stage 27 = .ok (.getfield 117, 3) := by decide +kernel
theorem dX4_stage_30 : decode cX4_stage 30 = .ok (.dstore 7, 2) := by decide +kernel
theorem dX4_stage_32 : decode cX4_stage 32 = .ok (.aload_n 0, 1) := by decide +kernel
theorem dX4_stage_33 : decode cX4_stage 33 = .ok (.getfield 120, 3) := by decide +kernel
theorem dX4_stage_36 : decode cX4_stage 36 = .ok (.dstore 9, 2) := by decide +kernel
theorem dX4_stage_38 : decode cX4_stage 38 = .ok (.aload_n 0, 1) := by decide +kernel
theorem dX4_stage_39 : decode cX4_stage 39 = .ok (.iload_n 1, 1) := by decide +kernel
theorem dX4_stage_40 : decode cX4_stage 40 = .ok (.iload 6, 2) := by decide +kernel
theorem dX4_stage_42 : decode cX4_stage 42 = .ok (.iconst 1, 1) := by decide +kernel
theorem dX4_stage_43 : decode cX4_stage 43 = .ok (.iadd, 1) := by decide +kernel
theorem dX4_stage_44 : decode cX4_stage 44 = .ok (.invokevirtual 133, 3) := by decide +kernel
theorem dX4_stage_47 : decode cX4_stage 47 = .ok (.bipush 28, 2) := by decide +kernel
theorem dX4_stage_49 : decode cX4_stage 49 = .ok (.iload_n 1, 1) := by decide +kernel
theorem dX4_stage_50 : decode cX4_stage 50 = .ok (.imul, 1) := by decide +kernel
theorem dX4_stage_51 : decode cX4_stage 51 = .ok (.iload 6, 2) := by decide +kernel
theorem dX4_stage_53 : decode cX4_stage 53 = .ok (.iadd, 1) := by decide +kernel
theorem dX4_stage_54 : decode cX4_stage 54 = .ok (.iconst 2, 1) := by decide +kernel
theorem dX4_stage_55 : decode cX4_stage 55 = .ok (.iadd, 1) := by decide +kernel
theorem dX4_stage_56 : decode cX4_stage 56 = .ok (.istore 11, 2) := by decide +kernel
theorem dX4_stage_58 : decode cX4_stage 58 = .ok (.bipush 28, 2) := by decide +kernel
theorem dX4_stage_60 : decode cX4_stage 60 = .ok (.iload_n 2, 1) := by decide +kernel
theorem dX4_stage_61 : decode cX4_stage 61 = .ok (.imul, 1) := by decide +kernel
theorem dX4_stage_62 : decode cX4_stage 62 = .ok (.iload 6, 2) := by decide +kernel
theorem dX4_stage_64 : decode cX4_stage 64 = .ok (.iadd, 1) := by decide +kernel
theorem dX4_stage_65 : decode cX4_stage 65 = .ok (.iconst 2, 1) := by decide +kernel
theorem dX4_stage_66 : decode cX4_stage 66 = .ok (.iadd, 1) := by decide +kernel
theorem dX4_stage_67 : decode cX4_stage 67 = .ok (.istore 12, 2) := by decide +kernel
theorem dX4_stage_69 : decode cX4_stage 69 = .ok (.aload_n 0, 1) := by decide +kernel
theorem dX4_stage_70 : decode cX4_stage 70 = .ok (.getfield 7, 3) := by decide +kernel
theorem dX4_stage_73 : decode cX4_stage 73 = .ok (.iload 12, 2) := by decide +kernel
theorem dX4_stage_75 : decode cX4_stage 75 = .ok (.aload_n 0, 1) := by decide +kernel
theorem dX4_stage_76 : decode cX4_stage 76 = .ok (.getfield 7, 3) := by decide +kernel
theorem dX4_stage_79 : decode cX4_stage 79 = .ok (.iload 11, 2) := by decide +kernel
theorem dX4_stage_81 : decode cX4_stage 81 = .ok (.daload, 1) := by decide +kernel
theorem dX4_stage_82 : decode cX4_stage 82 = .ok (.dload_n 3, 1) := by decide +kernel
theorem dX4_stage_83 : decode cX4_stage 83 = .ok (.aload_n 0, 1) := by decide +kernel
theorem dX4_stage_84 : decode cX4_stage 84 = .ok (.getfield 117, 3) := by decide +kernel
theorem dX4_stage_87 : decode cX4_stage 87 = .ok (.dload 7, 2) := by decide +kernel
theorem dX4_stage_89 : decode cX4_stage 89 = .ok (.dsub, 1) := by decide +kernel
theorem dX4_stage_90 : decode cX4_stage 90 = .ok (.dmul, 1) := by decide +kernel
theorem dX4_stage_91 : decode cX4_stage 91 = .ok (.dsub, 1) := by decide +kernel
theorem dX4_stage_92 : decode cX4_stage 92 = .ok (.dastore, 1) := by decide +kernel
theorem dX4_stage_93 : decode cX4_stage 93 = .ok (.aload_n 0, 1) := by decide +kernel
theorem dX4_stage_94 : decode cX4_stage 94 = .ok (.getfield 13, 3) := by decide +kernel
theorem dX4_stage_97 : decode cX4_stage 97 = .ok (.iload 12, 2) := by decide +kernel
theorem dX4_stage_99 : decode cX4_stage 99 = .ok (.aload_n 0, 1) := by decide +kernel
theorem dX4_stage_100 : decode cX4_stage 100 = .ok (.getfield 13, 3) := by decide +kernel
theorem dX4_stage_103 : decode cX4_stage 103 = .ok (.iload 11, 2) := by decide +kernel
theorem dX4_stage_105 : decode cX4_stage 105 = .ok (.daload, 1) := by decide +kernel
theorem dX4_stage_106 : decode cX4_stage 106 = .ok (.dload_n 3, 1) := by decide +kernel
theorem dX4_stage_107 : decode cX4_stage 107 = .ok (.aload_n 0, 1) := by decide +kernel
theorem dX4_stage_108 : decode cX4_stage 108 = .ok (.getfield 120, 3) := by decide +kernel
theorem dX4_stage_111 : decode cX4_stage 111 = .ok (.dload 9, 2) := by decide +kernel
theorem dX4_stage_113 : decode cX4_stage 113 = .ok (.dsub, 1) := by decide +kernel
theorem dX4_stage_114 : decode cX4_stage 114 = .ok (.dmul, 1) := by decide +kernel
theorem dX4_stage_115 : decode cX4_stage 115 = .ok (.dsub, 1) := by decide +kernel
theorem dX4_stage_116 : decode cX4_stage 116 = .ok (.dastore, 1) := by decide +kernel
theorem dX4_stage_117 : decode cX4_stage 117 = .ok (.iload 5, 2) := by decide +kernel
theorem dX4_stage_119 : decode cX4_stage 119 = .ok (.ifCond .eq 49, 3) := by decide +kernel
theorem dX4_stage_122 : decode cX4_stage 122 = .ok (.aload_n 0, 1) := by decide +kernel
theorem dX4_stage_123 : decode cX4_stage 123 = .ok (.getfield 7, 3) := by decide +kernel
theorem dX4_stage_126 : decode cX4_stage 126 = .ok (.iload 12, 2) := by decide +kernel
theorem dX4_stage_128 : decode cX4_stage 128 = .ok (.daload, 1) := by decide +kernel
theorem dX4_stage_129 : decode cX4_stage 129 = .ok (.ldc2_w 87, 3) := by decide +kernel
theorem dX4_stage_132 : decode cX4_stage 132 = .ok (.dcmp .g, 1) := by decide +kernel
theorem dX4_stage_133 : decode cX4_stage 133 = .ok (.ifCond .lt 35, 3) := by decide +kernel
theorem dX4_stage_136 : decode cX4_stage 136 = .ok (.aload_n 0, 1) := by decide +kernel
theorem dX4_stage_137 : decode cX4_stage 137 = .ok (.getfield 13, 3) := by decide +kernel
theorem dX4_stage_140 : decode cX4_stage 140 = .ok (.iload 12, 2) := by decide +kernel
theorem dX4_stage_142 : decode cX4_stage 142 = .ok (.daload, 1) := by decide +kernel
theorem dX4_stage_143 : decode cX4_stage 143 = .ok (.ldc2_w 137, 3) := by decide +kernel
theorem dX4_stage_146 : decode cX4_stage 146 = .ok (.dcmp .l, 1) := by decide +kernel
theorem dX4_stage_147 : decode cX4_stage 147 = .ok (.ifCond .gt 21, 3) := by decide +kernel
theorem dX4_stage_150 : decode cX4_stage 150 = .ok (.aload_n 0, 1) := by decide +kernel
theorem dX4_stage_151 : decode cX4_stage 151 = .ok (.getfield 13, 3) := by decide +kernel
theorem dX4_stage_154 : decode cX4_stage 154 = .ok (.iload 12, 2) := by decide +kernel
theorem dX4_stage_156 : decode cX4_stage 156 = .ok (.daload, 1) := by decide +kernel
theorem dX4_stage_157 : decode cX4_stage 157 = .ok (.ldc2_w 139, 3) := by decide +kernel
theorem dX4_stage_160 : decode cX4_stage 160 = .ok (.dcmp .g, 1) := by decide +kernel
theorem dX4_stage_161 : decode cX4_stage 161 = .ok (.ifCond .lt 7, 3) := by decide +kernel
theorem dX4_stage_164 : decode cX4_stage 164 = .ok (.iconst 1, 1) := by decide +kernel
theorem dX4_stage_165 : decode cX4_stage 165 = .ok (.goto 4, 3) := by decide +kernel
theorem dX4_stage_168 : decode cX4_stage 168 = .ok (.iconst 0, 1) := by decide +kernel
theorem dX4_stage_169 : decode cX4_stage 169 = .ok (.istore 5, 2) := by decide +kernel
theorem dX4_stage_171 : decode cX4_stage 171 = .ok (.iinc 6 1, 3) := by decide +kernel
theorem dX4_stage_174 : decode cX4_stage 174 = .ok (.goto (-157), 3) := by decide +kernel
theorem dX4_stage_177 : decode cX4_stage 177 = .ok (.iload 5, 2) := by decide +kernel
theorem dX4_stage_179 : decode cX4_stage 179 = .ok (.ireturn, 1) := by decide +kernel
set_option maxRecDepth 20000 in
theorem ggX4_tried_X4_stage : GoodIn wsX4_tried wsX4_stage := goodIn_r _ [10, 2, 11, 12, 3, 5, 13, 14, 15, 16, 17, 18, 9, 19, 20, 21, 22, 23, 24, 4, 25, 26, 27, 28, 29, 30, 31, 32, 33, 34, 35, 36, 37, 38, 39, 40, 41, 42, 43, 44, 45, 46, 47, 48, 49, 50, 51, 52, 53, 54, 55, 56, 57, 58, 59, 60, 61, 62, 63, 64, 65, 66, 67, 68, 69, 70, 71, 72, 73, 74, 75, 76, 77, 78, 79, 80, 81, 82, 83, 84, 85, 86, 87, 88] (by decide +kernel) (by decide +kernel)
set_option maxRecDepth 20000 in
theorem gX4_tried_X4_stage : GoodIn wsX4_tried (wsV RX4 141 RX4 yX4_stage wsX4_stage) := goodIn_app (goodIn_of _ (by decide +kernel)) ggX4_tried_X4_stage
theorem dX4_tried_0 : decode cX4_tried 0 = .ok (.aload_n 0, 1) := by decide +kernel
theorem dX4_tried_1 : decode cX4_tried 1 = .ok (.iconst 0, 1) := by decide +kernel
theorem dX4_tried_2 : decode cX4_tried 2 = .ok (.iconst 1, 1) := by decide +kernel
theorem dX4_tried_3 : decode cX4_tried 3 = .ok (.dload_n 1, 1) := by decide +kernel
theorem dX4_tried_4 : decode cX4_tried 4 = .ok (.invokevirtual 141, 3) := by decide +kernel
theorem dX4_tried_7 : decode cX4_tried 7 = .ok (.ifCond .ne 5, 3) := by decide +kernel
theorem dX4_tried_10 : decode cX4_tried 10 = .ok (.iconst 0, 1) := by decide +kernel
theorem dX4_tried_11 : decode cX4_tried 11 = .ok (.ireturn, 1) := by decide +kernel
theorem dX4_tried_12 : decode cX4_tried 12 = .ok (.aload_n 0, 1) := by decide +kernel
theorem dX4_tried_13 : decode cX4_tried 13 = .ok (.getfield 24, 3) := by decide +kernel
theorem dX4_tried_16 : decode cX4_tried 16 = .ok (.iconst 2, 1) := by decide +kernel
theorem dX4_tried_17 : decode cX4_tried 17 = .ok (.if_icmp .ne 15, 3) := by decide +kernel
theorem dX4_tried_20 : decode cX4_tried 20 = .ok (.aload_n 0, 1) := by decide +kernel
theorem dX4_tried_21 : decode cX4_tried 21 = .ok (.iconst 1, 1) := by decide +kernel
theorem dX4_tried_22 : decode cX4_tried 22 = .ok (.iconst 2, 1) := by decide +kernel
theorem dX4_tried_23 : decode cX4_tried 23 = .ok (.dload_n 1, 1) := by decide +kernel
theorem dX4_tried_24 : decode cX4_tried 24 = .ok (.invokevirtual 141, 3) := by decide +kernel
theorem dX4_tried_27 : decode cX4_tried 27 = .ok (.ifCond .ne 5, 3) := by decide +kernel
theorem dX4_tried_30 : decode cX4_tried 30 = .ok (.iconst 0, 1) := by decide +kernel
theorem dX4_tried_31 : decode cX4_tried 31 = .ok (.ireturn, 1) := by decide +kernel
theorem dX4_tried_32 : decode cX4_tried 32 = .ok (.iconst 2, 1) := by decide +kernel
theorem dX4_tried_33 : decode cX4_tried 33 = .ok (.istore_n 3, 1) := by decide +kernel
theorem dX4_tried_34 : decode cX4_tried 34 = .ok (.iload_n 3, 1) := by decide +kernel
theorem dX4_tried_35 : decode cX4_tried 35 = .ok (.aload_n 0, 1) := by decide +kernel
theorem dX4_tried_36 : decode cX4_tried 36 = .ok (.getfield 30, 3) := by decide +kernel
theorem dX4_tried_39 : decode cX4_tried 39 = .ok (.iconst 2, 1) := by decide +kernel
theorem dX4_tried_40 : decode cX4_tried 40 = .ok (.iadd, 1) := by decide +kernel
theorem dX4_tried_41 : decode cX4_tried 41 = .ok (.if_icmp .ge 101, 3) := by decide +kernel
theorem dX4_tried_44 : decode cX4_tried 44 = .ok (.aload_n 0, 1) := by decide +kernel
theorem dX4_tried_45 : decode cX4_tried 45 = .ok (.getfield 7, 3) := by decide +kernel
theorem dX4_tried_48 : decode cX4_tried 48 = .ok (.iload_n 3, 1) := by decide +kernel
theorem dX4_tried_49 : decode cX4_tried 49 = .ok (.aload_n 0, 1) := by decide +kernel
theorem dX4_tried_50 : decode cX4_tried 50 = .ok (.getfield 24, 3) := by decide +kernel
theorem dX4_tried_53 : decode cX4_tried 53 = .ok (.iconst 1, 1) := by decide +kernel
theorem dX4_tried_54 : decode cX4_tried 54 = .ok (.if_icmp .ne 15, 3) := by decide +kernel
theorem dX4_tried_57 : decode cX4_tried 57 = .ok (.aload_n 0, 1) := by decide +kernel
theorem dX4_tried_58 : decode cX4_tried 58 = .ok (.getfield 7, 3) := by decide +kernel
theorem dX4_tried_61 : decode cX4_tried 61 = .ok (.bipush 28, 2) := by decide +kernel
theorem dX4_tried_63 : decode cX4_tried 63 = .ok (.iload_n 3, 1) := by decide +kernel
theorem dX4_tried_64 : decode cX4_tried 64 = .ok (.iadd, 1) := by decide +kernel
theorem dX4_tried_65 : decode cX4_tried 65 = .ok (.daload, 1) := by decide +kernel
theorem dX4_tried_66 : decode cX4_tried 66 = .ok (.goto 23, 3) := by decide +kernel
theorem dX4_tried_69 : decode cX4_tried 69 = .ok (.ldc2_w 63, 3) := by decide +kernel
theorem dX4_tried_72 : decode cX4_tried 72 = .ok (.aload_n 0, 1) := by decide +kernel
theorem dX4_tried_73 : decode cX4_tried 73 = .ok (.getfield 7, 3) := by decide +kernel
theorem dX4_tried_76 : decode cX4_tried 76 = .ok (.iload_n 3, 1) := by decide +kernel
theorem dX4_tried_77 : decode cX4_tried 77 = .ok (.daload, 1) := by decide +kernel
theorem dX4_tried_78 : decode cX4_tried 78 = .ok (.aload_n 0, 1) := by decide +kernel
theorem dX4_tried_79 : decode cX4_tried 79 = .ok (.getfield 7, 3) := by decide +kernel
theorem dX4_tried_82 : decode cX4_tried 82 = .ok (.bipush 56, 2) := by decide +kernel
theorem dX4_tried_84 : decode cX4_tried 84 = .ok (.iload_n 3, 1) := by decide +kernel
theorem dX4_tried_85 : decode cX4_tried 85 = .ok (.iadd, 1) := by decide +kernel
theorem dX4_tried_86 : decode cX4_tried 86 = .ok (.daload, 1) := by decide +kernel
theorem dX4_tried_87 : decode cX4_tried 87 = .ok (.dadd, 1) := by decide +kernel
theorem dX4_tried_88 : decode cX4_tried 88 = .ok (.dmul, 1) := by decide +kernel
theorem dX4_tried_89 : decode cX4_tried 89 = .ok (.dastore, 1) := by decide +kernel
theorem dX4_tried_90 : decode cX4_tried 90 = .ok (.aload_n 0, 1) := by decide +kernel
theorem dX4_tried_91 : decode cX4_tried 91 = .ok (.getfield 13, 3) := by decide +kernel
theorem dX4_tried_94 : decode cX4_tried 94 = .ok (.iload_n 3, 1) := by decide +kernel
theorem dX4_tried_95 : decode cX4_tried 95 = .ok (.aload_n 0, 1) := by decide +kernel
theorem dX4_tried_96 : decode cX4_tried 96 = .ok (.getfield 24, 3) := by decide +kernel
theorem dX4_tried_99 : decode cX4_tried 99 = .ok (.iconst 1, 1) := by decide +kernel
theorem dX4_tried_100 : decode cX4_tried 100 = .ok (.if_icmp .ne 15, 3) := by decide +kernel
theorem dX4_tried_103 : decode cX4_tried 103 = .ok (.aload_n 0, 1) := by decide +kernel
theorem dX4_tried_104 : decode cX4_tried 104 = .ok (.getfield 13, 3) := by decide +kernel
theorem dX4_tried_107 : decode cX4_tried 107 = .ok (.bipush 28, 2) := by decide +kernel
theorem dX4_tried_109 : decode cX4_tried 109 = .ok (.iload_n 3, 1) := by decide +kernel
theorem dX4_tried_110 : decode cX4_tried 110 = .ok (.iadd, 1) := by decide +kernel
theorem dX4_tried_111 : decode cX4_tried 111 = .ok (.daload, 1) := by decide +kernel
theorem dX4_tried_112 : decode cX4_tried 112 = .ok (.goto 23, 3) := by decide +kernel
theorem dX4_tried_115 : decode cX4_tried 115 = .ok (.ldc2_w 63, 3) := by decide +kernel
theorem dX4_tried_118 : decode cX4_tried 118 = .ok (.aload_n 0, 1) := by decide +kernel
theorem dX4_tried_119 : decode cX4_tried 119 = .ok (.getfield 13, 3) := by decide +kernel
theorem dX4_tried_122 : decode cX4_tried 122 = .ok (.iload_n 3, 1) := by decide +kernel
theorem dX4_tried_123 : decode cX4_tried 123 = .ok (.daload, 1) := by decide +kernel
theorem dX4_tried_124 : decode cX4_tried 124 = .ok (.aload_n 0, 1) := by decide +kernel
theorem dX4_tried_125 : decode cX4_tried 125 = .ok (.getfield 13, 3) := by decide +kernel
theorem dX4_tried_128 : decode cX4_tried 128 = .ok (.bipush 56, 2) := by decide +kernel
theorem dX4_tried_130 : decode cX4_tried 130 = .ok (.iload_n 3, 1) := by decide +kernel
theorem dX4_tried_131 : decode cX4_tried 131 = .ok (.iadd, 1) := by decide +kernel
theorem dX4_tried_132 : decode cX4_tried 132 = .ok (.daload, 1) := by decide +kernel
theorem dX4_tried_133 : decode cX4_tried 133 = .ok (.dadd, 1) := by decide +kernel
theorem dX4_tried_134 : decode cX4_tried 134 = .ok (.dmul, 1) := by decide +kernel
theorem dX4_tried_135 : decode cX4_tried 135 = .ok (.dastore, 1) := by decide +kernel
theorem dX4_tried_136 : decode cX4_tried 136 = .ok (.iinc 3 1, 3) := by decide +kernel
theorem dX4_tried_139 : decode cX4_tried 139 = .ok (.goto (-105), 3) := by decide +kernel
theorem dX4_tried_142 : decode cX4_tried 142 = .ok (.iconst 1, 1) := by decide +kernel
theorem dX4_tried_143 : decode cX4_tried 143 = .ok (.ireturn, 1) := by decide +kernel
set_option maxRecDepth 20000 in
theorem ggX4_bounded_X4_speed : GoodIn wsX4_bounded wsX4_speed := goodIn_r _ [8, 9, 10, 7, 11, 12, 13, 14, 15] (by decide +kernel) (by decide +kernel)
set_option maxRecDepth 20000 in
theorem gX4_bounded_X4_speed : GoodIn wsX4_bounded (va_wsS RX4 107 yX4_speed wsX4_speed) := goodIn_app (goodIn_of _ (by decide +kernel)) ggX4_bounded_X4_speed
set_option maxRecDepth 20000 in
theorem ggX4_bounded_X4_greater : GoodIn wsX4_bounded wsX4_greater := goodIn_r _ [18] (by decide +kernel) (by decide +kernel)
set_option maxRecDepth 20000 in
theorem gX4_bounded_X4_greater : GoodIn wsX4_bounded (va_wsS RX4 110 yX4_greater wsX4_greater) := goodIn_app (goodIn_of _ (by decide +kernel)) ggX4_bounded_X4_greater
theorem dX4_bounded_0 : decode cX4_bounded 0 = .ok (.dconst 0, 1) := by decide +kernel
theorem dX4_bounded_1 : decode cX4_bounded 1 = .ok (.dstore_n 3, 1) := by decide +kernel
theorem dX4_bounded_2 : decode cX4_bounded 2 = .ok (.iconst 2, 1) := by decide +kernel
theorem dX4_bounded_3 : decode cX4_bounded 3 = .ok (.istore 5, 2) := by decide +kernel
theorem dX4_bounded_5 : decode cX4_bounded 5 = .ok (.iload 5, 2) := by decide +kernel
theorem dX4_bounded_7 : decode cX4_bounded 7 = .ok (.aload_n 0, 1) := by decide +kernel
theorem dX4_bounded_8 : decode cX4_bounded 8 = .ok (.getfield 30, 3) := by decide +kernel
theorem dX4_bounded_11 : decode cX4_bounded 11 = .ok (.iconst 2, 1) := by decide +kernel
theorem dX4_bounded_12 : decode cX4_bounded 12 = .ok (.iadd, 1) := by decide +kernel
theorem dX4_bounded_13 : decode cX4_bounded 13 = .ok (.if_icmp .ge 31, 3) := by decide +kernel
theorem dX4_bounded_16 : decode cX4_bounded 16 = .ok (.dload_n 3, 1) := by decide +kernel
theorem dX4_bounded_17 : decode cX4_bounded 17 = .ok (.aload_n 0, 1) := by decide +kernel
theorem dX4_bounded_18 : decode cX4_bounded 18 = .ok (.getfield 7, 3) := by decide +kernel
theorem dX4_bounded_21 : decode cX4_bounded 21 = .ok (.iload 5, 2) := by decide +kernel
theorem dX4_bounded_23 : decode cX4_bounded 23 = .ok (.daload, 1) := by decide +kernel
theorem dX4_bounded_24 : decode cX4_bounded 24 = .ok (.aload_n 0, 1) := by decide +kernel
theorem dX4_bounded_25 : decode cX4_bounded 25 = .ok (.getfield 13, 3) := by decide +kernel
theorem dX4_bounded_28 : decode cX4_bounded 28 = .ok (.iload 5, 2) := by decide +kernel
theorem dX4_bounded_30 : decode cX4_bounded 30 = .ok (.daload, 1) := by decide +kernel
theorem dX4_bounded_31 : decode cX4_bounded 31 = .ok (.invokestatic 107, 3) := by decide +kernel
theorem dX4_bounded_34 : decode cX4_bounded 34 = .ok (.invokestatic 110, 3) := by decide +kernel
theorem dX4_bounded_37 : decode cX4_bounded 37 = .ok (.dstore_n 3, 1) := by decide +kernel
theorem dX4_bounded_38 : decode cX4_bounded 38 = .ok (.iinc 5 1, 3) := by decide +kernel
theorem dX4_bounded_41 : decode cX4_bounded 41 = .ok (.goto (-36), 3) := by decide +kernel
theorem dX4_bounded_44 : decode cX4_bounded 44 = .ok (.ldc2_w 145, 3) := by decide +kernel
theorem dX4_bounded_47 : decode cX4_bounded 47 = .ok (.dload_n 3, 1) := by decide +kernel
theorem dX4_bounded_48 : decode cX4_bounded 48 = .ok (.ddiv, 1) := by decide +kernel
theorem dX4_bounded_49 : decode cX4_bounded 49 = .ok (.dstore 5, 2) := by decide +kernel
theorem dX4_bounded_51 : decode cX4_bounded 51 = .ok (.dload 5, 2) := by decide +kernel
theorem dX4_bounded_53 : decode cX4_bounded 53 = .ok (.dload_n 1, 1) := by decide +kernel
theorem dX4_bounded_54 : decode cX4_bounded 54 = .ok (.dcmp .g, 1) := by decide +kernel
theorem dX4_bounded_55 : decode cX4_bounded 55 = .ok (.ifCond .ge 8, 3) := by decide +kernel
theorem dX4_bounded_58 : decode cX4_bounded 58 = .ok (.dload 5, 2) := by decide +kernel
theorem dX4_bounded_60 : decode cX4_bounded 60 = .ok (.goto 4, 3) := by decide +kernel
theorem dX4_bounded_63 : decode cX4_bounded 63 = .ok (.dload_n 1, 1) := by decide +kernel
theorem dX4_bounded_64 : decode cX4_bounded 64 = .ok (.dreturn, 1) := by decide +kernel
set_option maxRecDepth 20000 in
theorem ggX4_made_X4_bounded : GoodIn wsX4_made wsX4_bounded := goodIn_r _ [10, 11, 12, 13, 14, 15, 16, 9, 17, 18, 19, 20, 21, 22, 23, 4, 24, 25, 26, 82, 83, 84, 85, 86, 87, 88, 89, 90, 91, 92, 93, 94, 95, 96, 97, 98, 99, 100, 101] (by decide +kernel) (by decide +kernel)
set_option maxRecDepth 20000 in
theorem gX4_made_X4_bounded : GoodIn wsX4_made (wsV RX4 147 RX4 yX4_bounded wsX4_bounded) := goodIn_app (goodIn_of _ (by decide +kernel)) ggX4_made_X4_bounded
set_option maxRecDepth 20000 in
theorem ggX4_made_X4_tried : GoodIn wsX4_made wsX4_tried := goodIn_r _ [30, 31, 11, 12, 4, 13, 32, 33, 34, 9, 35, 36, 37, 38, 39, 40, 41, 42, 43, 44, 45, 46, 47, 48, 49, 50, 51, 52, 53, 54, 55, 56, 57, 58, 59, 60, 61, 62, 63, 64, 65, 66, 67, 68, 69, 18, 19, 20, 70, 71, 72, 15, 16, 17, 21, 22, 23, 24, 25, 26, 73, 74, 75, 76, 77, 78, 79, 80, 81, 82, 83, 84, 85, 86, 87, 88, 89, 90, 91, 92, 93, 94, 95, 96, 97, 98, 99, 100, 101] (by decide +kernel) (by decide +kernel)
set_option maxRecDepth 20000 in
theorem gX4_made_X4_tried : GoodIn wsX4_made (wsV RX4 150 RX4 yX4_tried wsX4_tried) := goodIn_app (goodIn_of _ (by decide +kernel)) ggX4_made_X4_tried
theorem dX4_made_0 : decode cX4_made 0 = .ok (.aload_n 0, 1) := by decide +kernel
theorem dX4_made_1 : decode cX4_made 1 = .ok (.dload_n 1, 1) := by decide +kernel
theorem dX4_made_2 : decode cX4_made 2 = .ok (.invokevirtual 147, 3) := by decide +kernel
theorem dX4_made_5 : decode cX4_made 5 = .ok (.dstore_n 3, 1) := by decide +kernel
theorem dX4_made_6 : decode cX4_made 6 = .ok (.iconst 0, 1) := by decide +kernel
theorem dX4_made_7 : decode cX4_made 7 = .ok (.istore 5, 2) := by decide +kernel
theorem dX4_made_9 : decode cX4_made 9 = .ok (.iload 5, 2) := by decide +kernel
theorem dX4_made_11 : decode cX4_made 11 = .ok (.iconst 5, 1) := by decide +kernel
theorem dX4_made_12 : decode cX4_made 12 = .ok (.if_icmp .ge 55, 3) := by decide +kernel
theorem dX4_made_15 : decode cX4_made 15 = .ok (.aload_n 0, 1) := by decide +kernel
theorem dX4_made_16 : decode cX4_made 16 = .ok (.dload_n 3, 1) := by decide +kernel
theorem dX4_made_17 : decode cX4_made 17 = .ok (.invokevirtual 150, 3) := by decide +kernel
theorem dX4_made_20 : decode cX4_made 20 = .ok (.ifCond .eq 25, 3) := by decide +kernel
theorem dX4_made_23 : decode cX4_made 23 = .ok (.aload_n 0, 1) := by decide +kernel
theorem dX4_made_24 : decode cX4_made 24 = .ok (.aload_n 0, 1) := by decide +kernel
theorem dX4_made_25 : decode cX4_made 25 = .ok (.getfield 33, 3) := by decide +kernel
theorem dX4_made_28 : decode cX4_made 28 = .ok (.dload_n 3, 1) := by decide +kernel
theorem dX4_made_29 : decode cX4_made 29 = .ok (.dadd, 1) := by decide +kernel
theorem dX4_made_30 : decode cX4_made 30 = .ok (.putfield 33, 3) := by decide +kernel
theorem dX4_made_33 : decode cX4_made 33 = .ok (.aload_n 0, 1) := by decide +kernel
theorem dX4_made_34 : decode cX4_made 34 = .ok (.dup, 1) := by decide +kernel
theorem dX4_made_35 : decode cX4_made 35 = .ok (.getfield 154, 3) := by decide +kernel
theorem dX4_made_38 : decode cX4_made 38 = .ok (.iconst 1, 1) := by decide +kernel
theorem dX4_made_39 : decode cX4_made 39 = .ok (.iadd, 1) := by decide +kernel
theorem dX4_made_40 : decode cX4_made 40 = .ok (.putfield 154, 3) := by decide +kernel
theorem dX4_made_43 : decode cX4_made 43 = .ok (.dload_n 3, 1) := by decide +kernel
theorem dX4_made_44 : decode cX4_made 44 = .ok (.dreturn, 1) := by decide +kernel
theorem dX4_made_45 : decode cX4_made 45 = .ok (.aload_n 0, 1) := by decide +kernel
theorem dX4_made_46 : decode cX4_made 46 = .ok (.dup, 1) := by decide +kernel
theorem dX4_made_47 : decode cX4_made 47 = .ok (.getfield 157, 3) := by decide +kernel
theorem dX4_made_50 : decode cX4_made 50 = .ok (.iconst 1, 1) := by decide +kernel
theorem dX4_made_51 : decode cX4_made 51 = .ok (.iadd, 1) := by decide +kernel
theorem dX4_made_52 : decode cX4_made 52 = .ok (.putfield 157, 3) := by decide +kernel
theorem dX4_made_55 : decode cX4_made 55 = .ok (.ldc2_w 63, 3) := by decide +kernel
theorem dX4_made_58 : decode cX4_made 58 = .ok (.dload_n 3, 1) := by decide +kernel
theorem dX4_made_59 : decode cX4_made 59 = .ok (.dmul, 1) := by decide +kernel
theorem dX4_made_60 : decode cX4_made 60 = .ok (.dstore_n 3, 1) := by decide +kernel
theorem dX4_made_61 : decode cX4_made 61 = .ok (.iinc 5 1, 3) := by decide +kernel
theorem dX4_made_64 : decode cX4_made 64 = .ok (.goto (-55), 3) := by decide +kernel
theorem dX4_made_67 : decode cX4_made 67 = .ok (.aload_n 0, 1) := by decide +kernel
theorem dX4_made_68 : decode cX4_made 68 = .ok (.dup, 1) := by decide +kernel
theorem dX4_made_69 : decode cX4_made 69 = .ok (.getfield 160, 3) := by decide +kernel
theorem dX4_made_72 : decode cX4_made 72 = .ok (.iconst 1, 1) := by decide +kernel
theorem dX4_made_73 : decode cX4_made 73 = .ok (.iadd, 1) := by decide +kernel
theorem dX4_made_74 : decode cX4_made 74 = .ok (.putfield 160, 3) := by decide +kernel
theorem dX4_made_77 : decode cX4_made 77 = .ok (.dconst 0, 1) := by decide +kernel
theorem dX4_made_78 : decode cX4_made 78 = .ok (.dreturn, 1) := by decide +kernel
theorem dX4_isTime_0 : decode cX4_isTime 0 = .ok (.dload_n 0, 1) := by decide +kernel
theorem dX4_isTime_1 : decode cX4_isTime 1 = .ok (.dconst 0, 1) := by decide +kernel
theorem dX4_isTime_2 : decode cX4_isTime 2 = .ok (.dcmp .l, 1) := by decide +kernel
theorem dX4_isTime_3 : decode cX4_isTime 3 = .ok (.ifCond .le 15, 3) := by decide +kernel
theorem dX4_isTime_6 : decode cX4_isTime 6 = .ok (.dload_n 0, 1) := by decide +kernel
theorem dX4_isTime_7 : decode cX4_isTime 7 = .ok (.ldc2_w 163, 3) := by decide +kernel
theorem dX4_isTime_10 : decode cX4_isTime 10 = .ok (.dcmp .g, 1) := by decide +kernel
theorem dX4_isTime_11 : decode cX4_isTime 11 = .ok (.ifCond .gt 7, 3) := by decide +kernel
theorem dX4_isTime_14 : decode cX4_isTime 14 = .ok (.iconst 1, 1) := by decide +kernel
theorem dX4_isTime_15 : decode cX4_isTime 15 = .ok (.goto 4, 3) := by decide +kernel
theorem dX4_isTime_18 : decode cX4_isTime 18 = .ok (.iconst 0, 1) := by decide +kernel
theorem dX4_isTime_19 : decode cX4_isTime 19 = .ok (.ireturn, 1) := by decide +kernel
set_option maxRecDepth 20000 in
theorem ggX4_step_X4_isTime : GoodIn wsX4_step wsX4_isTime := goodIn_r _ [4, 5] (by decide +kernel) (by decide +kernel)
set_option maxRecDepth 20000 in
theorem gX4_step_X4_isTime : GoodIn wsX4_step (va_wsS RX4 165 yX4_isTime wsX4_isTime) := goodIn_app (goodIn_of _ (by decide +kernel)) ggX4_step_X4_isTime
set_option maxRecDepth 20000 in
theorem ggX4_step_X4_fails : GoodIn wsX4_step wsX4_fails := goodIn_r _ [9, 10, 95, 96, 97, 98, 99, 100, 101, 102, 103, 104, 105, 106, 107, 108, 109, 110, 111, 112, 113, 114] (by decide +kernel) (by decide +kernel)
set_option maxRecDepth 20000 in
theorem gX4_step_X4_fails : GoodIn wsX4_step (wsV RX4 41 RX4 yX4_fails wsX4_fails) := goodIn_app (goodIn_of _ (by decide +kernel)) ggX4_step_X4_fails
set_option maxRecDepth 20000 in
theorem ggX4_step_X4_made : GoodIn wsX4_step wsX4_made := goodIn_r _ [14, 15, 16, 17, 18, 19, 20, 21, 22, 3, 23, 24, 25, 26, 27, 28, 29, 30, 31, 32, 33, 34, 35, 36, 37, 38, 39, 40, 41, 42, 43, 44, 45, 46, 47, 48, 49, 50, 51, 52, 53, 54, 55, 56, 57, 58, 59, 60, 61, 62, 63, 64, 65, 66, 67, 68, 69, 70, 71, 72, 73, 74, 75, 76, 77, 78, 79, 80, 81, 82, 83, 84, 85, 86, 87, 88, 89, 90, 91, 92, 93, 94, 95, 96, 97, 98, 99, 100, 101, 102, 103, 104, 105, 106, 107, 108, 109, 110, 111, 112, 113, 114] (by decide +kernel) (by decide +kernel)
set_option maxRecDepth 20000 in
theorem gX4_step_X4_made : GoodIn wsX4_step (wsV RX4 168 RX4 yX4_made wsX4_made) := goodIn_app (goodIn_of _ (by decide +kernel)) ggX4_step_X4_made
theorem dX4_step_0 : decode cX4_step 0 = .ok (.aload_n 0, 1) := by decide +kernel
theorem dX4_step_1 : decode cX4_step 1 = .ok (.dload_n 1, 1) := by decide +kernel
theorem dX4_step_2 : decode cX4_step 2 = .ok (.invokestatic 165, 3) := by decide +kernel
theorem dX4_step_5 : decode cX4_step 5 = .ok (.ifCond .ne 7, 3) := by decide +kernel
theorem dX4_step_8 : decode cX4_step 8 = .ok (.iconst 1, 1) := by decide +kernel
theorem dX4_step_9 : decode cX4_step 9 = .ok (.goto 4, 3) := by decide +kernel
theorem dX4_step_12 : decode cX4_step 12 = .ok (.iconst 0, 1) := by decide +kernel
theorem dX4_step_13 : decode cX4_step 13 = .ok (.iconst 1, 1) := by decide +kernel
theorem dX4_step_14 : decode cX4_step 14 = .ok (.invokevirtual 41, 3) := by decide +kernel
theorem dX4_step_17 : decode cX4_step 17 = .ok (.ifCond .eq 5, 3) := by decide +kernel
theorem dX4_step_20 : decode cX4_step 20 = .ok (.dconst 0, 1) := by decide +kernel
theorem dX4_step_21 : decode cX4_step 21 = .ok (.dreturn, 1) := by decide +kernel
theorem dX4_step_22 : decode cX4_step 22 = .ok (.aload_n 0, 1) := by decide +kernel
theorem dX4_step_23 : decode cX4_step 23 = .ok (.dload_n 1, 1) := by decide +kernel
theorem dX4_step_24 : decode cX4_step 24 = .ok (.invokevirtual 168, 3) := by decide +kernel
theorem dX4_step_27 : decode cX4_step 27 = .ok (.dstore_n 3, 1) := by decide +kernel
theorem dX4_step_28 : decode cX4_step 28 = .ok (.aload_n 0, 1) := by decide +kernel
theorem dX4_step_29 : decode cX4_step 29 = .ok (.dload_n 3, 1) := by decide +kernel
theorem dX4_step_30 : decode cX4_step 30 = .ok (.dconst 0, 1) := by decide +kernel
theorem dX4_step_31 : decode cX4_step 31 = .ok (.dcmp .l, 1) := by decide +kernel
theorem dX4_step_32 : decode cX4_step 32 = .ok (.ifCond .ne 7, 3) := by decide +kernel
theorem dX4_step_35 : decode cX4_step 35 = .ok (.iconst 1, 1) := by decide +kernel
theorem dX4_step_36 : decode cX4_step 36 = .ok (.goto 4, 3) := by decide +kernel
theorem dX4_step_39 : decode cX4_step 39 = .ok (.iconst 0, 1) := by decide +kernel
theorem dX4_step_40 : decode cX4_step 40 = .ok (.iconst 2, 1) := by decide +kernel
theorem dX4_step_41 : decode cX4_step 41 = .ok (.invokevirtual 41, 3) := by decide +kernel
theorem dX4_step_44 : decode cX4_step 44 = .ok (.ifCond .eq 7, 3) := by decide +kernel
theorem dX4_step_47 : decode cX4_step 47 = .ok (.dconst 0, 1) := by decide +kernel
theorem dX4_step_48 : decode cX4_step 48 = .ok (.goto 4, 3) := by decide +kernel
theorem dX4_step_51 : decode cX4_step 51 = .ok (.dload_n 3, 1) := by decide +kernel
theorem dX4_step_52 : decode cX4_step 52 = .ok (.dreturn, 1) := by decide +kernel
set_option maxRecDepth 20000 in
theorem ggX4_run_X4_isTime : GoodIn wsX4_run wsX4_isTime := goodIn_r _ [5, 6] (by decide +kernel) (by decide +kernel)
set_option maxRecDepth 20000 in
theorem gX4_run_X4_isTime : GoodIn wsX4_run (va_wsS RX4 165 yX4_isTime wsX4_isTime) := goodIn_app (goodIn_of _ (by decide +kernel)) ggX4_run_X4_isTime
set_option maxRecDepth 20000 in
theorem ggX4_run_X4_fails : GoodIn wsX4_run wsX4_fails := goodIn_r _ [10, 11, 96, 97, 98, 99, 100, 101, 102, 103, 104, 105, 106, 107, 108, 109, 110, 111, 112, 113, 114, 115] (by decide +kernel) (by decide +kernel)
set_option maxRecDepth 20000 in
theorem gX4_run_X4_fails : GoodIn wsX4_run (wsV RX4 41 RX4 yX4_fails wsX4_fails) := goodIn_app (goodIn_of _ (by decide +kernel)) ggX4_run_X4_fails
set_option maxRecDepth 20000 in
theorem ggX4_run_X4_made : GoodIn wsX4_run wsX4_made := goodIn_r _ [15, 16, 17, 18, 19, 20, 21, 22, 23, 4, 24, 25, 26, 27, 28, 29, 30, 31, 32, 33, 34, 35, 36, 37, 38, 39, 40, 41, 42, 43, 44, 45, 46, 47, 48, 49, 50, 51, 52, 53, 54, 55, 56, 57, 58, 59, 60, 61, 62, 63, 64, 65, 66, 67, 68, 69, 70, 71, 72, 73, 74, 75, 76, 77, 78, 79, 80, 81, 82, 83, 84, 85, 86, 87, 88, 89, 90, 91, 92, 93, 94, 95, 96, 97, 98, 99, 100, 101, 102, 103, 104, 105, 106, 107, 108, 109, 110, 111, 112, 113, 114, 115] (by decide +kernel) (by decide +kernel)
set_option maxRecDepth 20000 in
theorem gX4_run_X4_made : GoodIn wsX4_run (wsV RX4 168 RX4 yX4_made wsX4_made) := goodIn_app (goodIn_of _ (by decide +kernel)) ggX4_run_X4_made
theorem dX4_run_0 : decode cX4_run 0 = .ok (.aload_n 0, 1) := by decide +kernel
theorem dX4_run_1 : decode cX4_run 1 = .ok (.dload_n 1, 1) := by decide +kernel
theorem dX4_run_2 : decode cX4_run 2 = .ok (.invokestatic 165, 3) := by decide +kernel
theorem dX4_run_5 : decode cX4_run 5 = .ok (.ifCond .ne 7, 3) := by decide +kernel
theorem dX4_run_8 : decode cX4_run 8 = .ok (.iconst 1, 1) := by decide +kernel
end
section
theorem dX4_run_9 : decode cX4_run 9 = .ok (.goto 4, 3) := by decide +kernel
theorem dX4_run_12 : decode cX4_run 12 = .ok (.iconst 0, 1) := by decide +kernel
theorem dX4_run_13 : decode cX4_run 13 = .ok (.iconst 1, 1) := by decide +kernel
theorem dX4_run_14 : decode cX4_run 14 = .ok (.invokevirtual 41, 3) := by decide +kernel
theorem dX4_run_17 : decode cX4_run 17 = .ok (.ifCond .eq 5, 3) := by decide +kernel
theorem dX4_run_20 : decode cX4_run 20 = .ok (.iconst 0, 1) := by decide +kernel
theorem dX4_run_21 : decode cX4_run 21 = .ok (.ireturn, 1) := by decide +kernel
theorem dX4_run_22 : decode cX4_run 22 = .ok (.dload_n 1, 1) := by decide +kernel
theorem dX4_run_23 : decode cX4_run 23 = .ok (.dstore_n 3, 1) := by decide +kernel
theorem dX4_run_24 : decode cX4_run 24 = .ok (.iconst 0, 1) := by decide +kernel
theorem dX4_run_25 : decode cX4_run 25 = .ok (.istore 5, 2) := by decide +kernel
theorem dX4_run_27 : decode cX4_run 27 = .ok (.iload 5, 2) := by decide +kernel
theorem dX4_run_29 : decode cX4_run 29 = .ok (.bipush 40, 2) := by decide +kernel
theorem dX4_run_31 : decode cX4_run 31 = .ok (.if_icmp .ge 51, 3) := by decide +kernel
theorem dX4_run_34 : decode cX4_run 34 = .ok (.dload_n 3, 1) := by decide +kernel
theorem dX4_run_35 : decode cX4_run 35 = .ok (.ldc2_w 171, 3) := by decide +kernel
theorem dX4_run_38 : decode cX4_run 38 = .ok (.dcmp .g, 1) := by decide +kernel
theorem dX4_run_39 : decode cX4_run 39 = .ok (.ifCond .lt 43, 3) := by decide +kernel
theorem dX4_run_42 : decode cX4_run 42 = .ok (.aload_n 0, 1) := by decide +kernel
theorem dX4_run_43 : decode cX4_run 43 = .ok (.dload_n 3, 1) := by decide +kernel
theorem dX4_run_44 : decode cX4_run 44 = .ok (.invokevirtual 168, 3) := by decide +kernel
theorem dX4_run_47 : decode cX4_run 47 = .ok (.dstore 6, 2) := by decide +kernel
theorem dX4_run_49 : decode cX4_run 49 = .ok (.aload_n 0, 1) := by decide +kernel
theorem dX4_run_50 : decode cX4_run 50 = .ok (.dload 6, 2) := by decide +kernel
theorem dX4_run_52 : decode cX4_run 52 = .ok (.dconst 0, 1) := by decide +kernel
theorem dX4_run_53 : decode cX4_run 53 = .ok (.dcmp .l, 1) := by decide +kernel
theorem dX4_run_54 : decode cX4_run 54 = .ok (.ifCond .ne 7, 3) := by decide +kernel
theorem dX4_run_57 : decode cX4_run 57 = .ok (.iconst 1, 1) := by decide +kernel
theorem dX4_run_58 : decode cX4_run 58 = .ok (.goto 4, 3) := by decide +kernel
theorem dX4_run_61 : decode cX4_run 61 = .ok (.iconst 0, 1) := by decide +kernel
theorem dX4_run_62 : decode cX4_run 62 = .ok (.iconst 2, 1) := by decide +kernel
theorem dX4_run_63 : decode cX4_run 63 = .ok (.invokevirtual 41, 3) := by decide +kernel
theorem dX4_run_66 : decode cX4_run 66 = .ok (.ifCond .eq 5, 3) := by decide +kernel
theorem dX4_run_69 : decode cX4_run 69 = .ok (.iconst 0, 1) := by decide +kernel
theorem dX4_run_70 : decode cX4_run 70 = .ok (.ireturn, 1) := by decide +kernel
theorem dX4_run_71 : decode cX4_run 71 = .ok (.dload_n 3, 1) := by decide +kernel
theorem dX4_run_72 : decode cX4_run 72 = .ok (.dload 6, 2) := by decide +kernel
theorem dX4_run_74 : decode cX4_run 74 = .ok (.dsub, 1) := by decide +kernel
theorem dX4_run_75 : decode cX4_run 75 = .ok (.dstore_n 3, 1) := by decide +kernel
theorem dX4_run_76 : decode cX4_run 76 = .ok (.iinc 5 1, 3) := by decide +kernel
theorem dX4_run_79 : decode cX4_run 79 = .ok (.goto (-52), 3) := by decide +kernel
theorem dX4_run_82 : decode cX4_run 82 = .ok (.iload 5, 2) := by decide +kernel
theorem dX4_run_84 : decode cX4_run 84 = .ok (.ireturn, 1) := by decide +kernel
set_option maxRecDepth 20000 in
theorem ggX4_cell_X4_out : GoodIn wsX4_cell wsX4_out := goodIn_r _ [7] (by decide +kernel) (by decide +kernel)
set_option maxRecDepth 20000 in
theorem gX4_cell_X4_out : GoodIn wsX4_cell (va_wsS RX4 37 yX4_out wsX4_out) := goodIn_app (goodIn_of _ (by decide +kernel)) ggX4_cell_X4_out
set_option maxRecDepth 20000 in
theorem ggX4_cell_X4_fails : GoodIn wsX4_cell wsX4_fails := goodIn_r _ [11, 12, 17, 18, 19, 20, 21, 22, 23, 24, 25, 26, 27, 28, 29, 30, 31, 32, 33, 34, 35, 36] (by decide +kernel) (by decide +kernel)
set_option maxRecDepth 20000 in
theorem gX4_cell_X4_fails : GoodIn wsX4_cell (wsV RX4 41 RX4 yX4_fails wsX4_fails) := goodIn_app (goodIn_of _ (by decide +kernel)) ggX4_cell_X4_fails
set_option maxRecDepth 20000 in
theorem ggX4_cell_X4_root : GoodIn wsX4_cell wsX4_root := goodIn_r _ [15, 16] (by decide +kernel) (by decide +kernel)
set_option maxRecDepth 20000 in
theorem gX4_cell_X4_root : GoodIn wsX4_cell (va_wsS RX4 69 yX4_root wsX4_root) := goodIn_app (goodIn_of _ (by decide +kernel)) ggX4_cell_X4_root
theorem dX4_cell_0 : decode cX4_cell 0 = .ok (.aload_n 0, 1) := by decide +kernel
theorem dX4_cell_1 : decode cX4_cell 1 = .ok (.iload_n 1, 1) := by decide +kernel
theorem dX4_cell_2 : decode cX4_cell 2 = .ok (.iconst 0, 1) := by decide +kernel
theorem dX4_cell_3 : decode cX4_cell 3 = .ok (.aload_n 0, 1) := by decide +kernel
theorem dX4_cell_4 : decode cX4_cell 4 = .ok (.getfield 30, 3) := by decide +kernel
theorem dX4_cell_7 : decode cX4_cell 7 = .ok (.iconst 1, 1) := by decide +kernel
theorem dX4_cell_8 : decode cX4_cell 8 = .ok (.isub, 1) := by decide +kernel
theorem dX4_cell_9 : decode cX4_cell 9 = .ok (.invokestatic 37, 3) := by decide +kernel
theorem dX4_cell_12 : decode cX4_cell 12 = .ok (.ifCond .ne 12, 3) := by decide +kernel
theorem dX4_cell_15 : decode cX4_cell 15 = .ok (.iload_n 2, 1) := by decide +kernel
theorem dX4_cell_16 : decode cX4_cell 16 = .ok (.iconst 0, 1) := by decide +kernel
theorem dX4_cell_17 : decode cX4_cell 17 = .ok (.iconst 3, 1) := by decide +kernel
theorem dX4_cell_18 : decode cX4_cell 18 = .ok (.invokestatic 37, 3) := by decide +kernel
theorem dX4_cell_21 : decode cX4_cell 21 = .ok (.ifCond .eq 7, 3) := by decide +kernel
theorem dX4_cell_24 : decode cX4_cell 24 = .ok (.iconst 1, 1) := by decide +kernel
theorem dX4_cell_25 : decode cX4_cell 25 = .ok (.goto 4, 3) := by decide +kernel
theorem dX4_cell_28 : decode cX4_cell 28 = .ok (.iconst 0, 1) := by decide +kernel
theorem dX4_cell_29 : decode cX4_cell 29 = .ok (.iconst 1, 1) := by decide +kernel
theorem dX4_cell_30 : decode cX4_cell 30 = .ok (.invokevirtual 41, 3) := by decide +kernel
theorem dX4_cell_33 : decode cX4_cell 33 = .ok (.ifCond .eq 5, 3) := by decide +kernel
theorem dX4_cell_36 : decode cX4_cell 36 = .ok (.dconst 0, 1) := by decide +kernel
theorem dX4_cell_37 : decode cX4_cell 37 = .ok (.dreturn, 1) := by decide +kernel
theorem dX4_cell_38 : decode cX4_cell 38 = .ok (.aload_n 0, 1) := by decide +kernel
theorem dX4_cell_39 : decode cX4_cell 39 = .ok (.getfield 7, 3) := by decide +kernel
theorem dX4_cell_42 : decode cX4_cell 42 = .ok (.iload_n 1, 1) := by decide +kernel
theorem dX4_cell_43 : decode cX4_cell 43 = .ok (.iconst 2, 1) := by decide +kernel
theorem dX4_cell_44 : decode cX4_cell 44 = .ok (.iadd, 1) := by decide +kernel
theorem dX4_cell_45 : decode cX4_cell 45 = .ok (.daload, 1) := by decide +kernel
theorem dX4_cell_46 : decode cX4_cell 46 = .ok (.dstore_n 3, 1) := by decide +kernel
theorem dX4_cell_47 : decode cX4_cell 47 = .ok (.aload_n 0, 1) := by decide +kernel
theorem dX4_cell_48 : decode cX4_cell 48 = .ok (.getfield 13, 3) := by decide +kernel
theorem dX4_cell_51 : decode cX4_cell 51 = .ok (.iload_n 1, 1) := by decide +kernel
theorem dX4_cell_52 : decode cX4_cell 52 = .ok (.iconst 2, 1) := by decide +kernel
theorem dX4_cell_53 : decode cX4_cell 53 = .ok (.iadd, 1) := by decide +kernel
theorem dX4_cell_54 : decode cX4_cell 54 = .ok (.daload, 1) := by decide +kernel
theorem dX4_cell_55 : decode cX4_cell 55 = .ok (.dstore 5, 2) := by decide +kernel
theorem dX4_cell_57 : decode cX4_cell 57 = .ok (.iload_n 2, 1) := by decide +kernel
theorem dX4_cell_58 : decode cX4_cell 58 = .ok (.ifCond .ne 7, 3) := by decide +kernel
theorem dX4_cell_61 : decode cX4_cell 61 = .ok (.dload_n 3, 1) := by decide +kernel
theorem dX4_cell_62 : decode cX4_cell 62 = .ok (.goto 29, 3) := by decide +kernel
theorem dX4_cell_65 : decode cX4_cell 65 = .ok (.iload_n 2, 1) := by decide +kernel
theorem dX4_cell_66 : decode cX4_cell 66 = .ok (.iconst 1, 1) := by decide +kernel
theorem dX4_cell_67 : decode cX4_cell 67 = .ok (.if_icmp .ne 8, 3) := by decide +kernel
theorem dX4_cell_70 : decode cX4_cell 70 = .ok (.dload 5, 2) := by decide +kernel
theorem dX4_cell_72 : decode cX4_cell 72 = .ok (.goto 19, 3) := by decide +kernel
theorem dX4_cell_75 : decode cX4_cell 75 = .ok (.iload_n 2, 1) := by decide +kernel
theorem dX4_cell_76 : decode cX4_cell 76 = .ok (.iconst 2, 1) := by decide +kernel
theorem dX4_cell_77 : decode cX4_cell 77 = .ok (.if_icmp .ne 10, 3) := by decide +kernel
theorem dX4_cell_80 : decode cX4_cell 80 = .ok (.dload 5, 2) := by decide +kernel
theorem dX4_cell_82 : decode cX4_cell 82 = .ok (.dload_n 3, 1) := by decide +kernel
theorem dX4_cell_83 : decode cX4_cell 83 = .ok (.ddiv, 1) := by decide +kernel
theorem dX4_cell_84 : decode cX4_cell 84 = .ok (.goto 7, 3) := by decide +kernel
theorem dX4_cell_87 : decode cX4_cell 87 = .ok (.dload_n 3, 1) := by decide +kernel
theorem dX4_cell_88 : decode cX4_cell 88 = .ok (.invokestatic 69, 3) := by decide +kernel
theorem dX4_cell_91 : decode cX4_cell 91 = .ok (.dreturn, 1) := by decide +kernel
set_option maxRecDepth 20000 in
theorem ggX4_flux_X4_out : GoodIn wsX4_flux wsX4_out := goodIn_r _ [7] (by decide +kernel) (by decide +kernel)
set_option maxRecDepth 20000 in
theorem gX4_flux_X4_out : GoodIn wsX4_flux (va_wsS RX4 37 yX4_out wsX4_out) := goodIn_app (goodIn_of _ (by decide +kernel)) ggX4_flux_X4_out
set_option maxRecDepth 20000 in
theorem ggX4_flux_X4_fails : GoodIn wsX4_flux wsX4_fails := goodIn_r _ [11, 12, 70, 71, 72, 73, 74, 75, 76, 77, 78, 79, 80, 81, 82, 83, 84, 85, 86, 87, 88, 89] (by decide +kernel) (by decide +kernel)
set_option maxRecDepth 20000 in
theorem gX4_flux_X4_fails : GoodIn wsX4_flux (wsV RX4 41 RX4 yX4_fails wsX4_fails) := goodIn_app (goodIn_of _ (by decide +kernel)) ggX4_flux_X4_fails
set_option maxRecDepth 20000 in
theorem ggX4_flux_X4_close : GoodIn wsX4_flux wsX4_close := goodIn_r _ [16, 1, 17, 18, 19, 70, 71, 72, 73, 74, 75, 76, 77, 78, 79, 80, 81, 82, 83, 84, 85, 86, 87, 88, 89] (by decide +kernel) (by decide +kernel)
set_option maxRecDepth 20000 in
theorem gX4_flux_X4_close : GoodIn wsX4_flux (wsV RX4 130 RX4 yX4_close wsX4_close) := goodIn_app (goodIn_of _ (by decide +kernel)) ggX4_flux_X4_close
set_option maxRecDepth 20000 in
theorem ggX4_flux_X4_face : GoodIn wsX4_flux wsX4_face := goodIn_r _ [23, 18, 24, 25, 26, 19, 27, 28, 29, 30, 31, 3, 2, 32, 33, 34, 6, 35, 36, 37, 38, 39, 40, 41, 42, 43, 44, 45, 46, 47, 48, 49, 50, 51, 52, 53, 54, 55, 56, 57, 58, 59, 60, 61, 62, 63, 64, 65, 66, 67, 68, 69, 70, 71, 72, 73, 74, 75, 76, 77, 78, 79, 80, 81, 82, 83, 84, 85, 86, 87, 88, 89] (by decide +kernel) (by decide +kernel)
set_option maxRecDepth 20000 in
theorem gX4_flux_X4_face : GoodIn wsX4_flux (wsV RX4 133 RX4 yX4_face wsX4_face) := goodIn_app (goodIn_of _ (by decide +kernel)) ggX4_flux_X4_face
theorem dX4_flux_0 : decode cX4_flux 0 = .ok (.aload_n 0, 1) := by decide +kernel
theorem dX4_flux_1 : decode cX4_flux 1 = .ok (.iload_n 1, 1) := by decide +kernel
theorem dX4_flux_2 : decode cX4_flux 2 = .ok (.iconst 0, 1) := by decide +kernel
theorem dX4_flux_3 : decode cX4_flux 3 = .ok (.aload_n 0, 1) := by decide +kernel
theorem dX4_flux_4 : decode cX4_flux 4 = .ok (.getfield 30, 3) := by decide +kernel
theorem dX4_flux_7 : decode cX4_flux 7 = .ok (.invokestatic 37, 3) := by decide +kernel
theorem dX4_flux_10 : decode cX4_flux 10 = .ok (.iconst 1, 1) := by decide +kernel
theorem dX4_flux_11 : decode cX4_flux 11 = .ok (.invokevirtual 41, 3) := by decide +kernel
theorem dX4_flux_14 : decode cX4_flux 14 = .ok (.ifCond .eq 5, 3) := by decide +kernel
theorem dX4_flux_17 : decode cX4_flux 17 = .ok (.dconst 0, 1) := by decide +kernel
theorem dX4_flux_18 : decode cX4_flux 18 = .ok (.dreturn, 1) := by decide +kernel
theorem dX4_flux_19 : decode cX4_flux 19 = .ok (.aload_n 0, 1) := by decide +kernel
theorem dX4_flux_20 : decode cX4_flux 20 = .ok (.iconst 0, 1) := by decide +kernel
theorem dX4_flux_21 : decode cX4_flux 21 = .ok (.invokevirtual 130, 3) := by decide +kernel
theorem dX4_flux_24 : decode cX4_flux 24 = .ok (.aload_n 0, 1) := by decide +kernel
theorem dX4_flux_25 : decode cX4_flux 25 = .ok (.iconst 0, 1) := by decide +kernel
theorem dX4_flux_26 : decode cX4_flux 26 = .ok (.iload_n 1, 1) := by decide +kernel
theorem dX4_flux_27 : decode cX4_flux 27 = .ok (.invokevirtual 133, 3) := by decide +kernel
theorem dX4_flux_30 : decode cX4_flux 30 = .ok (.iload_n 2, 1) := by decide +kernel
theorem dX4_flux_31 : decode cX4_flux 31 = .ok (.ifCond .eq 10, 3) := by decide +kernel
theorem dX4_flux_34 : decode cX4_flux 34 = .ok (.aload_n 0, 1) := by decide +kernel
theorem dX4_flux_35 : decode cX4_flux 35 = .ok (.getfield 120, 3) := by decide +kernel
theorem dX4_flux_38 : decode cX4_flux 38 = .ok (.goto 7, 3) := by decide +kernel
theorem dX4_flux_41 : decode cX4_flux 41 = .ok (.aload_n 0, 1) := by decide +kernel
theorem dX4_flux_42 : decode cX4_flux 42 = .ok (.getfield 117, 3) := by decide +kernel
theorem dX4_flux_45 : decode cX4_flux 45 = .ok (.dreturn, 1) := by decide +kernel
theorem dX4_sum_0 : decode cX4_sum 0 = .ok (.aload_n 0, 1) := by decide +kernel
theorem dX4_sum_1 : decode cX4_sum 1 = .ok (.iconst 0, 1) := by decide +kernel
theorem dX4_sum_2 : decode cX4_sum 2 = .ok (.putfield 27, 3) := by decide +kernel
theorem dX4_sum_5 : decode cX4_sum 5 = .ok (.dconst 0, 1) := by decide +kernel
theorem dX4_sum_6 : decode cX4_sum 6 = .ok (.dstore_n 2, 1) := by decide +kernel
theorem dX4_sum_7 : decode cX4_sum 7 = .ok (.dconst 0, 1) := by decide +kernel
theorem dX4_sum_8 : decode cX4_sum 8 = .ok (.dstore 4, 2) := by decide +kernel
theorem dX4_sum_10 : decode cX4_sum 10 = .ok (.iconst 2, 1) := by decide +kernel
theorem dX4_sum_11 : decode cX4_sum 11 = .ok (.istore 6, 2) := by decide +kernel
theorem dX4_sum_13 : decode cX4_sum 13 = .ok (.iload 6, 2) := by decide +kernel
theorem dX4_sum_15 : decode cX4_sum 15 = .ok (.aload_n 0, 1) := by decide +kernel
theorem dX4_sum_16 : decode cX4_sum 16 = .ok (.getfield 30, 3) := by decide +kernel
theorem dX4_sum_19 : decode cX4_sum 19 = .ok (.iconst 2, 1) := by decide +kernel
theorem dX4_sum_20 : decode cX4_sum 20 = .ok (.iadd, 1) := by decide +kernel
theorem dX4_sum_21 : decode cX4_sum 21 = .ok (.if_icmp .ge 53, 3) := by decide +kernel
theorem dX4_sum_24 : decode cX4_sum 24 = .ok (.iload_n 1, 1) := by decide +kernel
theorem dX4_sum_25 : decode cX4_sum 25 = .ok (.ifCond .eq 13, 3) := by decide +kernel
theorem dX4_sum_28 : decode cX4_sum 28 = .ok (.aload_n 0, 1) := by decide +kernel
theorem dX4_sum_29 : decode cX4_sum 29 = .ok (.getfield 13, 3) := by decide +kernel
theorem dX4_sum_32 : decode cX4_sum 32 = .ok (.iload 6, 2) := by decide +kernel
theorem dX4_sum_34 : decode cX4_sum 34 = .ok (.daload, 1) := by decide +kernel
theorem dX4_sum_35 : decode cX4_sum 35 = .ok (.goto 10, 3) := by decide +kernel
theorem dX4_sum_38 : decode cX4_sum 38 = .ok (.aload_n 0, 1) := by decide +kernel
theorem dX4_sum_39 : decode cX4_sum 39 = .ok (.getfield 7, 3) := by decide +kernel
theorem dX4_sum_42 : decode cX4_sum 42 = .ok (.iload 6, 2) := by decide +kernel
theorem dX4_sum_44 : decode cX4_sum 44 = .ok (.daload, 1) := by decide +kernel
theorem dX4_sum_45 : decode cX4_sum 45 = .ok (.dload 4, 2) := by decide +kernel
theorem dX4_sum_47 : decode cX4_sum 47 = .ok (.dsub, 1) := by decide +kernel
theorem dX4_sum_48 : decode cX4_sum 48 = .ok (.dstore 7, 2) := by decide +kernel
theorem dX4_sum_50 : decode cX4_sum 50 = .ok (.dload_n 2, 1) := by decide +kernel
theorem dX4_sum_51 : decode cX4_sum 51 = .ok (.dload 7, 2) := by decide +kernel
theorem dX4_sum_53 : decode cX4_sum 53 = .ok (.dadd, 1) := by decide +kernel
theorem dX4_sum_54 : decode cX4_sum 54 = .ok (.dstore 9, 2) := by decide +kernel
theorem dX4_sum_56 : decode cX4_sum 56 = .ok (.dload 9, 2) := by decide +kernel
theorem dX4_sum_58 : decode cX4_sum 58 = .ok (.dload_n 2, 1) := by decide +kernel
theorem dX4_sum_59 : decode cX4_sum 59 = .ok (.dsub, 1) := by decide +kernel
theorem dX4_sum_60 : decode cX4_sum 60 = .ok (.dload 7, 2) := by decide +kernel
theorem dX4_sum_62 : decode cX4_sum 62 = .ok (.dsub, 1) := by decide +kernel
theorem dX4_sum_63 : decode cX4_sum 63 = .ok (.dstore 4, 2) := by decide +kernel
theorem dX4_sum_65 : decode cX4_sum 65 = .ok (.dload 9, 2) := by decide +kernel
theorem dX4_sum_67 : decode cX4_sum 67 = .ok (.dstore_n 2, 1) := by decide +kernel
theorem dX4_sum_68 : decode cX4_sum 68 = .ok (.iinc 6 1, 3) := by decide +kernel
theorem dX4_sum_71 : decode cX4_sum 71 = .ok (.goto (-58), 3) := by decide +kernel
theorem dX4_sum_74 : decode cX4_sum 74 = .ok (.dload_n 2, 1) := by decide +kernel
theorem dX4_sum_75 : decode cX4_sum 75 = .ok (.dreturn, 1) := by decide +kernel
theorem dX4_time_0 : decode cX4_time 0 = .ok (.aload_n 0, 1) := by decide +kernel
theorem dX4_time_1 : decode cX4_time 1 = .ok (.iconst 0, 1) := by decide +kernel
theorem dX4_time_2 : decode cX4_time 2 = .ok (.putfield 27, 3) := by decide +kernel
theorem dX4_time_5 : decode cX4_time 5 = .ok (.aload_n 0, 1) := by decide +kernel
theorem dX4_time_6 : decode cX4_time 6 = .ok (.getfield 33, 3) := by decide +kernel
theorem dX4_time_9 : decode cX4_time 9 = .ok (.dreturn, 1) := by decide +kernel
set_option maxRecDepth 20000 in
theorem ggX4_count_X4_out : GoodIn wsX4_count wsX4_out := goodIn_r _ [8] (by decide +kernel) (by decide +kernel)
set_option maxRecDepth 20000 in
theorem gX4_count_X4_out : GoodIn wsX4_count (va_wsS RX4 37 yX4_out wsX4_out) := goodIn_app (goodIn_of _ (by decide +kernel)) ggX4_count_X4_out
set_option maxRecDepth 20000 in
theorem ggX4_count_X4_fails : GoodIn wsX4_count wsX4_fails := goodIn_r _ [12, 13, 14, 15, 16, 17, 18, 19, 20, 21, 22, 23, 24, 25, 26, 27, 28, 29, 30, 31, 32, 33] (by decide +kernel) (by decide +kernel)
set_option maxRecDepth 20000 in
theorem gX4_count_X4_fails : GoodIn wsX4_count (wsV RX4 41 RX4 yX4_fails wsX4_fails) := goodIn_app (goodIn_of _ (by decide +kernel)) ggX4_count_X4_fails
theorem dX4_count_0 : decode cX4_count 0 = .ok (.aload_n 0, 1) := by decide +kernel
theorem dX4_count_1 : decode cX4_count 1 = .ok (.iload_n 1, 1) := by decide +kernel
theorem dX4_count_2 : decode cX4_count 2 = .ok (.iconst 0, 1) := by decide +kernel
theorem dX4_count_3 : decode cX4_count 3 = .ok (.iconst 3, 1) := by decide +kernel
theorem dX4_count_4 : decode cX4_count 4 = .ok (.invokestatic 37, 3) := by decide +kernel
theorem dX4_count_7 : decode cX4_count 7 = .ok (.iconst 1, 1) := by decide +kernel
theorem dX4_count_8 : decode cX4_count 8 = .ok (.invokevirtual 41, 3) := by decide +kernel
theorem dX4_count_11 : decode cX4_count 11 = .ok (.ifCond .eq 5, 3) := by decide +kernel
theorem dX4_count_14 : decode cX4_count 14 = .ok (.iconst 0, 1) := by decide +kernel
theorem dX4_count_15 : decode cX4_count 15 = .ok (.ireturn, 1) := by decide +kernel
theorem dX4_count_16 : decode cX4_count 16 = .ok (.iload_n 1, 1) := by decide +kernel
theorem dX4_count_17 : decode cX4_count 17 = .ok (.ifCond .ne 10, 3) := by decide +kernel
theorem dX4_count_20 : decode cX4_count 20 = .ok (.aload_n 0, 1) := by decide +kernel
theorem dX4_count_21 : decode cX4_count 21 = .ok (.getfield 30, 3) := by decide +kernel
theorem dX4_count_24 : decode cX4_count 24 = .ok (.goto 31, 3) := by decide +kernel
theorem dX4_count_27 : decode cX4_count 27 = .ok (.iload_n 1, 1) := by decide +kernel
theorem dX4_count_28 : decode cX4_count 28 = .ok (.iconst 1, 1) := by decide +kernel
theorem dX4_count_29 : decode cX4_count 29 = .ok (.if_icmp .ne 10, 3) := by decide +kernel
theorem dX4_count_32 : decode cX4_count 32 = .ok (.aload_n 0, 1) := by decide +kernel
theorem dX4_count_33 : decode cX4_count 33 = .ok (.getfield 154, 3) := by decide +kernel
theorem dX4_count_36 : decode cX4_count 36 = .ok (.goto 19, 3) := by decide +kernel
theorem dX4_count_39 : decode cX4_count 39 = .ok (.iload_n 1, 1) := by decide +kernel
theorem dX4_count_40 : decode cX4_count 40 = .ok (.iconst 2, 1) := by decide +kernel
theorem dX4_count_41 : decode cX4_count 41 = .ok (.if_icmp .ne 10, 3) := by decide +kernel
theorem dX4_count_44 : decode cX4_count 44 = .ok (.aload_n 0, 1) := by decide +kernel
theorem dX4_count_45 : decode cX4_count 45 = .ok (.getfield 157, 3) := by decide +kernel
theorem dX4_count_48 : decode cX4_count 48 = .ok (.goto 7, 3) := by decide +kernel
theorem dX4_count_51 : decode cX4_count 51 = .ok (.aload_n 0, 1) := by decide +kernel
theorem dX4_count_52 : decode cX4_count 52 = .ok (.getfield 160, 3) := by decide +kernel
theorem dX4_count_55 : decode cX4_count 55 = .ok (.ireturn, 1) := by decide +kernel
set_option maxRecDepth 20000 in
theorem ggL_cells_X3_cells : GoodIn wsL_cells wsX3_cells := goodIn_ca (goodIn_r _ [6, 7, 8, 9, 10, 11, 12, 5, 13, 14, 15, 16, 17, 18, 19, 20, 21, 22, 23, 24, 25, 26, 27, 28, 29, 30, 31, 32, 33, 34, 35] (by decide +kernel) (by decide +kernel)) (goodIn_sub (fun _ h => List.mem_cons_of_mem _ (List.mem_append_right _ h)) (by decide +kernel))
set_option maxRecDepth 20000 in
theorem gL_cells_X3_cells : GoodIn wsL_cells (wsV RL 7 RX3 yX3_cells wsX3_cells) := goodIn_app (goodIn_of _ (by decide +kernel)) ggL_cells_X3_cells
theorem dL_cells_0 : decode cL_cells 0 = .ok (.aload_n 0, 1) := by decide +kernel
theorem dL_cells_1 : decode cL_cells 1 = .ok (.iload_n 1, 1) := by decide +kernel
theorem dL_cells_2 : decode cL_cells 2 = .ok (.invokevirtual 7, 3) := by decide +kernel
theorem dL_cells_5 : decode cL_cells 5 = .ok (.goto 6, 3) := by decide +kernel
theorem dL_cells_8 : decode cL_cells 8 = .ok (.astore_n 2, 1) := by decide +kernel
theorem dL_cells_9 : decode cL_cells 9 = .ok (.iconst 1, 1) := by decide +kernel
theorem dL_cells_10 : decode cL_cells 10 = .ok (.ireturn, 1) := by decide +kernel
theorem dL_cells_11 : decode cL_cells 11 = .ok (.iconst 0, 1) := by decide +kernel
theorem dL_cells_12 : decode cL_cells 12 = .ok (.ireturn, 1) := by decide +kernel
set_option maxRecDepth 20000 in
theorem ggL_choose_X3_choose : GoodIn wsL_choose wsX3_choose := goodIn_ca (goodIn_r _ [6, 7, 8, 9, 10, 11, 12, 13, 14, 5, 15, 16, 17, 18, 19, 20, 21, 22, 23, 24, 25, 26] (by decide +kernel) (by decide +kernel)) (goodIn_sub (fun _ h => List.mem_cons_of_mem _ (List.mem_append_right _ h)) (by decide +kernel))
set_option maxRecDepth 20000 in
theorem gL_choose_X3_choose : GoodIn wsL_choose (wsV RL 15 RX3 yX3_choose wsX3_choose) := goodIn_app (goodIn_of _ (by decide +kernel)) ggL_choose_X3_choose
theorem dL_choose_0 : decode cL_choose 0 = .ok (.aload_n 0, 1) := by decide +kernel
theorem dL_choose_1 : decode cL_choose 1 = .ok (.iload_n 1, 1) := by decide +kernel
theorem dL_choose_2 : decode cL_choose 2 = .ok (.iload_n 2, 1) := by decide +kernel
theorem dL_choose_3 : decode cL_choose 3 = .ok (.iload_n 3, 1) := by decide +kernel
theorem dL_choose_4 : decode cL_choose 4 = .ok (.iload 4, 2) := by decide +kernel
theorem dL_choose_6 : decode cL_choose 6 = .ok (.invokevirtual 15, 3) := by decide +kernel
theorem dL_choose_9 : decode cL_choose 9 = .ok (.goto 7, 3) := by decide +kernel
theorem dL_choose_12 : decode cL_choose 12 = .ok (.astore 5, 2) := by decide +kernel
theorem dL_choose_14 : decode cL_choose 14 = .ok (.iconst 1, 1) := by decide +kernel
theorem dL_choose_15 : decode cL_choose 15 = .ok (.ireturn, 1) := by decide +kernel
theorem dL_choose_16 : decode cL_choose 16 = .ok (.iconst 0, 1) := by decide +kernel
theorem dL_choose_17 : decode cL_choose 17 = .ok (.ireturn, 1) := by decide +kernel
set_option maxRecDepth 20000 in
theorem ggL_put_X3_put : GoodIn wsL_put wsX3_put := goodIn_ca (goodIn_r _ [6, 7, 8, 9, 10, 11, 12, 13, 14, 15, 16, 17, 18, 19, 20, 21, 22, 23, 24, 25, 26, 27, 28, 29, 30, 31, 32, 33, 34, 35] (by decide +kernel) (by decide +kernel)) (goodIn_sub (fun _ h => List.mem_cons_of_mem _ (List.mem_append_right _ h)) (by decide +kernel))
set_option maxRecDepth 20000 in
theorem gL_put_X3_put : GoodIn wsL_put (wsV RL 19 RX3 yX3_put wsX3_put) := goodIn_app (goodIn_of _ (by decide +kernel)) ggL_put_X3_put
theorem dL_put_0 : decode cL_put 0 = .ok (.aload_n 0, 1) := by decide +kernel
theorem dL_put_1 : decode cL_put 1 = .ok (.iload_n 1, 1) := by decide +kernel
theorem dL_put_2 : decode cL_put 2 = .ok (.dload_n 2, 1) := by decide +kernel
theorem dL_put_3 : decode cL_put 3 = .ok (.dload 4, 2) := by decide +kernel
theorem dL_put_5 : decode cL_put 5 = .ok (.invokevirtual 19, 3) := by decide +kernel
theorem dL_put_8 : decode cL_put 8 = .ok (.goto 7, 3) := by decide +kernel
theorem dL_put_11 : decode cL_put 11 = .ok (.astore 6, 2) := by decide +kernel
theorem dL_put_13 : decode cL_put 13 = .ok (.iconst 1, 1) := by decide +kernel
theorem dL_put_14 : decode cL_put 14 = .ok (.ireturn, 1) := by decide +kernel
theorem dL_put_15 : decode cL_put 15 = .ok (.iconst 0, 1) := by decide +kernel
theorem dL_put_16 : decode cL_put 16 = .ok (.ireturn, 1) := by decide +kernel
set_option maxRecDepth 20000 in
theorem ggL_step_X3_step : GoodIn wsL_step wsX3_step := goodIn_ca (goodIn_ca (goodIn_r _ [7, 8, 9, 10, 11, 6, 12, 13, 14, 15, 16, 17, 18, 19, 20, 21, 22, 23, 24, 25, 26, 27, 28, 29, 30, 31, 32, 33, 34, 35, 36, 37, 38, 39, 40, 41, 42, 43, 44, 45, 46, 47, 48, 49, 50, 51, 52, 53, 54, 55, 56, 57, 58, 59, 60, 61, 62, 63, 64, 65, 66, 67, 68, 69, 70, 71, 72, 73, 74, 75, 76, 77, 78, 79, 80, 81, 82, 83, 84, 85, 86, 87, 88, 89, 90, 91, 92, 93, 94, 95, 96, 97, 98, 99, 100, 101, 102, 103, 104, 105, 106, 107, 108, 109, 110, 111, 112, 113, 114, 115, 116, 117, 118, 119, 120, 121, 122, 123, 124, 125, 126, 127, 128, 129, 130, 131, 132, 133, 134, 135, 136, 137, 138, 139, 140, 141, 142, 143, 144, 145, 146, 147, 148, 149, 150, 151, 152, 153, 154, 155, 156, 157, 158, 159, 160, 161, 162, 163, 164, 165, 166, 167, 168, 169, 170, 171, 172, 173, 174, 175, 176, 177, 178, 179, 180, 181, 182, 183, 184, 185, 186, 187, 188] (by decide +kernel) (by decide +kernel)) (goodIn_sub (fun _ h => List.mem_cons_of_mem _ (List.mem_append_left _ (List.mem_append_right _ h))) (by decide +kernel))) (goodIn_sub (fun _ h => List.mem_cons_of_mem _ (List.mem_append_right _ h)) (by decide +kernel))
set_option maxRecDepth 20000 in
theorem gL_step_X3_step : GoodIn wsL_step (wsV RL 23 RX3 yX3_step wsX3_step) := goodIn_app (goodIn_of _ (by decide +kernel)) ggL_step_X3_step
theorem dL_step_0 : decode cL_step 0 = .ok (.aload_n 3, 1) := by decide +kernel
theorem dL_step_1 : decode cL_step 1 = .ok (.iconst 0, 1) := by decide +kernel
theorem dL_step_2 : decode cL_step 2 = .ok (.aload_n 0, 1) := by decide +kernel
theorem dL_step_3 : decode cL_step 3 = .ok (.dload_n 1, 1) := by decide +kernel
theorem dL_step_4 : decode cL_step 4 = .ok (.invokevirtual 23, 3) := by decide +kernel
theorem dL_step_7 : decode cL_step 7 = .ok (.dastore, 1) := by decide +kernel
theorem dL_step_8 : decode cL_step 8 = .ok (.goto 11, 3) := by decide +kernel
theorem dL_step_11 : decode cL_step 11 = .ok (.astore 4, 2) := by decide +kernel
theorem dL_step_13 : decode cL_step 13 = .ok (.iconst 1, 1) := by decide +kernel
theorem dL_step_14 : decode cL_step 14 = .ok (.ireturn, 1) := by decide +kernel
theorem dL_step_15 : decode cL_step 15 = .ok (.astore 4, 2) := by decide +kernel
theorem dL_step_17 : decode cL_step 17 = .ok (.iconst 2, 1) := by decide +kernel
theorem dL_step_18 : decode cL_step 18 = .ok (.ireturn, 1) := by decide +kernel
theorem dL_step_19 : decode cL_step 19 = .ok (.iconst 0, 1) := by decide +kernel
theorem dL_step_20 : decode cL_step 20 = .ok (.ireturn, 1) := by decide +kernel
set_option maxRecDepth 20000 in
theorem ggL_run_X3_run : GoodIn wsL_run wsX3_run := goodIn_ca (goodIn_ca (goodIn_r _ [7, 8, 9, 10, 11, 12, 6, 13, 14, 15, 16, 17, 18, 19, 20, 21, 22, 23, 24, 25, 26, 27, 28, 29, 30, 31, 32, 33, 34, 35, 36, 37, 38, 39, 40, 41, 42, 43, 44, 45, 46, 47, 48, 49, 50, 51, 52, 53, 54, 55, 56, 57, 58, 59, 60, 61, 62, 63, 64, 65, 66, 67, 68, 69, 70, 71, 72, 73, 74, 75, 76, 77, 78, 79, 80, 81, 82, 83, 84, 85, 86, 87, 88, 89, 90, 91, 92, 93, 94, 95, 96, 97, 98, 99, 100, 101, 102, 103, 104, 105, 106, 107, 108, 109, 110, 111, 112, 113, 114, 115, 116, 117, 118, 119, 120, 121, 122, 123, 124, 125, 126, 127, 128, 129, 130, 131, 132, 133, 134, 135, 136, 137, 138, 139, 140, 141, 142, 143, 144, 145, 146, 147, 148, 149, 150, 151, 152, 153, 154, 155, 156, 157, 158, 159, 160, 161, 162, 163, 164, 165, 166, 167, 168, 169, 170, 171, 172, 173, 174, 175, 176, 177, 178, 179, 180, 181, 182, 183, 184, 185, 186, 187, 188, 189] (by decide +kernel) (by decide +kernel)) (goodIn_sub (fun _ h => List.mem_cons_of_mem _ (List.mem_append_left _ (List.mem_append_right _ h))) (by decide +kernel))) (goodIn_sub (fun _ h => List.mem_cons_of_mem _ (List.mem_append_right _ h)) (by decide +kernel))
set_option maxRecDepth 20000 in
theorem gL_run_X3_run : GoodIn wsL_run (wsV RL 29 RX3 yX3_run wsX3_run) := goodIn_app (goodIn_of _ (by decide +kernel)) ggL_run_X3_run
theorem dL_run_0 : decode cL_run 0 = .ok (.aload_n 3, 1) := by decide +kernel
theorem dL_run_1 : decode cL_run 1 = .ok (.iconst 0, 1) := by decide +kernel
theorem dL_run_2 : decode cL_run 2 = .ok (.aload_n 0, 1) := by decide +kernel
theorem dL_run_3 : decode cL_run 3 = .ok (.dload_n 1, 1) := by decide +kernel
theorem dL_run_4 : decode cL_run 4 = .ok (.invokevirtual 29, 3) := by decide +kernel
theorem dL_run_7 : decode cL_run 7 = .ok (.i2l, 1) := by decide +kernel
theorem dL_run_8 : decode cL_run 8 = .ok (.lastore, 1) := by decide +kernel
theorem dL_run_9 : decode cL_run 9 = .ok (.goto 11, 3) := by decide +kernel
theorem dL_run_12 : decode cL_run 12 = .ok (.astore 4, 2) := by decide +kernel
theorem dL_run_14 : decode cL_run 14 = .ok (.iconst 1, 1) := by decide +kernel
theorem dL_run_15 : decode cL_run 15 = .ok (.ireturn, 1) := by decide +kernel
theorem dL_run_16 : decode cL_run 16 = .ok (.astore 4, 2) := by decide +kernel
theorem dL_run_18 : decode cL_run 18 = .ok (.iconst 2, 1) := by decide +kernel
theorem dL_run_19 : decode cL_run 19 = .ok (.ireturn, 1) := by decide +kernel
theorem dL_run_20 : decode cL_run 20 = .ok (.iconst 0, 1) := by decide +kernel
theorem dL_run_21 : decode cL_run 21 = .ok (.ireturn, 1) := by decide +kernel
set_option maxRecDepth 20000 in
theorem ggL_cell_X3_cell : GoodIn wsL_cell wsX3_cell := goodIn_ca (goodIn_r _ [6, 7, 8, 9, 10, 11, 12, 13, 14, 15, 16, 17, 18, 19, 5, 20, 21, 22, 23, 24, 25, 26, 27, 28, 29, 30, 31, 32, 33, 34, 35, 36, 37, 38] (by decide +kernel) (by decide +kernel)) (goodIn_sub (fun _ h => List.mem_cons_of_mem _ (List.mem_append_right _ h)) (by decide +kernel))
set_option maxRecDepth 20000 in
theorem gL_cell_X3_cell : GoodIn wsL_cell (wsV RL 33 RX3 yX3_cell wsX3_cell) := goodIn_app (goodIn_of _ (by decide +kernel)) ggL_cell_X3_cell
theorem dL_cell_0 : decode cL_cell 0 = .ok (.aload_n 3, 1) := by decide +kernel
theorem dL_cell_1 : decode cL_cell 1 = .ok (.iconst 0, 1) := by decide +kernel
theorem dL_cell_2 : decode cL_cell 2 = .ok (.aload_n 0, 1) := by decide +kernel
theorem dL_cell_3 : decode cL_cell 3 = .ok (.iload_n 1, 1) := by decide +kernel
theorem dL_cell_4 : decode cL_cell 4 = .ok (.iload_n 2, 1) := by decide +kernel
theorem dL_cell_5 : decode cL_cell 5 = .ok (.invokevirtual 33, 3) := by decide +kernel
theorem dL_cell_8 : decode cL_cell 8 = .ok (.dastore, 1) := by decide +kernel
theorem dL_cell_9 : decode cL_cell 9 = .ok (.goto 7, 3) := by decide +kernel
theorem dL_cell_12 : decode cL_cell 12 = .ok (.astore 4, 2) := by decide +kernel
theorem dL_cell_14 : decode cL_cell 14 = .ok (.iconst 1, 1) := by decide +kernel
theorem dL_cell_15 : decode cL_cell 15 = .ok (.ireturn, 1) := by decide +kernel
theorem dL_cell_16 : decode cL_cell 16 = .ok (.iconst 0, 1) := by decide +kernel
theorem dL_cell_17 : decode cL_cell 17 = .ok (.ireturn, 1) := by decide +kernel
set_option maxRecDepth 20000 in
theorem ggL_flux_X3_flux : GoodIn wsL_flux wsX3_flux := goodIn_ca (goodIn_r _ [6, 7, 8, 9, 10, 11, 12, 13, 14, 15, 16, 17, 18, 5, 19, 20, 21, 22, 23, 24, 25, 26, 27, 28, 29, 30, 31, 32, 33, 34, 35, 36, 37, 38, 39, 40, 41, 42, 43, 44, 45, 46, 47, 48, 49, 50, 51, 52, 53, 54, 55, 56, 57, 58, 59, 60, 61, 62, 63, 64, 65, 66, 67, 68, 69, 70, 71, 72, 73, 74, 75, 76, 77, 78, 79, 80, 81, 82, 83, 84, 85, 86, 87, 88, 89, 90, 91, 92, 93, 94, 95, 96, 97, 98, 99, 100, 101, 102, 103, 104, 105, 106, 107, 108, 109, 110, 111, 112, 113, 114, 115, 116, 117, 118, 119, 120, 121, 122, 123, 124, 125, 126, 127, 128, 129, 130, 131, 132, 133, 134, 135, 136, 137, 138, 139, 140, 141, 142] (by decide +kernel) (by decide +kernel)) (goodIn_sub (fun _ h => List.mem_cons_of_mem _ (List.mem_append_right _ h)) (by decide +kernel))
set_option maxRecDepth 20000 in
theorem gL_flux_X3_flux : GoodIn wsL_flux (wsV RL 39 RX3 yX3_flux wsX3_flux) := goodIn_app (goodIn_of _ (by decide +kernel)) ggL_flux_X3_flux
theorem dL_flux_0 : decode cL_flux 0 = .ok (.aload_n 3, 1) := by decide +kernel
theorem dL_flux_1 : decode cL_flux 1 = .ok (.iconst 0, 1) := by decide +kernel
theorem dL_flux_2 : decode cL_flux 2 = .ok (.aload_n 0, 1) := by decide +kernel
theorem dL_flux_3 : decode cL_flux 3 = .ok (.iload_n 1, 1) := by decide +kernel
theorem dL_flux_4 : decode cL_flux 4 = .ok (.iload_n 2, 1) := by decide +kernel
theorem dL_flux_5 : decode cL_flux 5 = .ok (.invokevirtual 39, 3) := by decide +kernel
theorem dL_flux_8 : decode cL_flux 8 = .ok (.dastore, 1) := by decide +kernel
theorem dL_flux_9 : decode cL_flux 9 = .ok (.goto 7, 3) := by decide +kernel
theorem dL_flux_12 : decode cL_flux 12 = .ok (.astore 4, 2) := by decide +kernel
theorem dL_flux_14 : decode cL_flux 14 = .ok (.iconst 1, 1) := by decide +kernel
theorem dL_flux_15 : decode cL_flux 15 = .ok (.ireturn, 1) := by decide +kernel
theorem dL_flux_16 : decode cL_flux 16 = .ok (.iconst 0, 1) := by decide +kernel
theorem dL_flux_17 : decode cL_flux 17 = .ok (.ireturn, 1) := by decide +kernel
set_option maxRecDepth 20000 in
theorem ggL_count_X3_count : GoodIn wsL_count wsX3_count := goodIn_ca (goodIn_r _ [6, 7, 8, 9, 10, 11, 12, 13, 14, 15, 16, 17, 18, 19, 20, 21, 22, 23, 24, 25, 26, 27] (by decide +kernel) (by decide +kernel)) (goodIn_sub (fun _ h => List.mem_cons_of_mem _ (List.mem_append_right _ h)) (by decide +kernel))
set_option maxRecDepth 20000 in
theorem gL_count_X3_count : GoodIn wsL_count (wsV RL 43 RX3 yX3_count wsX3_count) := goodIn_app (goodIn_of _ (by decide +kernel)) ggL_count_X3_count
theorem dL_count_0 : decode cL_count 0 = .ok (.aload_n 2, 1) := by decide +kernel
theorem dL_count_1 : decode cL_count 1 = .ok (.iconst 0, 1) := by decide +kernel
theorem dL_count_2 : decode cL_count 2 = .ok (.aload_n 0, 1) := by decide +kernel
theorem dL_count_3 : decode cL_count 3 = .ok (.iload_n 1, 1) := by decide +kernel
theorem dL_count_4 : decode cL_count 4 = .ok (.invokevirtual 43, 3) := by decide +kernel
theorem dL_count_7 : decode cL_count 7 = .ok (.i2l, 1) := by decide +kernel
theorem dL_count_8 : decode cL_count 8 = .ok (.lastore, 1) := by decide +kernel
theorem dL_count_9 : decode cL_count 9 = .ok (.goto 6, 3) := by decide +kernel
theorem dL_count_12 : decode cL_count 12 = .ok (.astore_n 3, 1) := by decide +kernel
theorem dL_count_13 : decode cL_count 13 = .ok (.iconst 1, 1) := by decide +kernel
theorem dL_count_14 : decode cL_count 14 = .ok (.ireturn, 1) := by decide +kernel
theorem dL_count_15 : decode cL_count 15 = .ok (.iconst 0, 1) := by decide +kernel
theorem dL_count_16 : decode cL_count 16 = .ok (.ireturn, 1) := by decide +kernel
set_option maxRecDepth 20000 in
theorem ggL_law_X3_init : GoodIn wsL_law wsX3_init := goodIn_r _ [11, 12, 13, 14, 15, 16, 17, 18, 19, 20, 21, 22, 23, 24, 25, 26, 27, 28, 29, 30, 31, 32, 33, 34, 7, 35, 36, 37, 38, 39, 40, 41, 42, 43, 44, 45, 46, 47, 48, 49, 50, 51, 52, 53, 54, 55, 56, 57, 58, 59, 60, 471, 472, 473, 440, 441, 442, 443, 444, 445, 446, 447, 448, 449, 450, 474, 475, 476, 477, 478, 479, 480, 481, 482, 483] (by decide +kernel) (by decide +kernel)
set_option maxRecDepth 20000 in
theorem gL_law_X3_init : GoodIn wsL_law (wsX3_init) := ggL_law_X3_init
set_option maxRecDepth 20000 in
theorem ggL_law_X4_init : GoodIn wsL_law wsX4_init := goodIn_r _ [63, 64, 13, 14, 7, 65, 66, 67, 68, 69, 70, 71, 5, 72, 73, 74, 451, 452, 453, 454, 455, 456, 457, 458, 459, 460, 461, 462, 463, 464, 465, 466, 467, 468, 469, 470] (by decide +kernel) (by decide +kernel)
set_option maxRecDepth 20000 in
theorem gL_law_X4_init : GoodIn wsL_law (wsX4_init) := ggL_law_X4_init
set_option maxRecDepth 20000 in
theorem ggL_law_L_cells : GoodIn wsL_law wsL_cells := goodIn_ca (goodIn_r _ [78, 79, 80, 81, 82, 2, 83, 84, 85, 18, 28, 86, 87, 88, 57, 58, 59, 17, 60, 37, 35, 36, 440, 441, 442, 443, 444, 445, 446, 447, 448, 449, 450, 471, 472, 473] (by decide +kernel) (by decide +kernel)) (goodIn_sub (fun _ h => List.mem_append_left _ (List.mem_append_left _ (List.mem_append_right _ h))) (by decide +kernel))
set_option maxRecDepth 20000 in
theorem gL_law_L_cells : GoodIn wsL_law (va_wsS RL 51 yL_cells wsL_cells) := goodIn_app (goodIn_of _ (by decide +kernel)) ggL_law_L_cells
set_option maxRecDepth 20000 in
theorem ggL_law_X4_cells : GoodIn wsL_law wsX4_cells := goodIn_r _ [92, 93, 94, 5, 95, 96, 97, 98, 99, 100, 69, 70, 71, 72, 73, 74, 65, 66, 451, 452, 453, 454, 455, 456, 457, 458, 459, 460, 461, 462, 463, 464, 465, 466, 467, 468, 469, 470] (by decide +kernel) (by decide +kernel)
set_option maxRecDepth 20000 in
theorem gL_law_X4_cells : GoodIn wsL_law (wsV RL 56 RX4 yX4_cells wsX4_cells) := goodIn_app (goodIn_of _ (by decide +kernel)) ggL_law_X4_cells
set_option maxRecDepth 20000 in
theorem ggL_law_X4_thrown : GoodIn wsL_law wsX4_thrown := goodIn_r _ [104, 100, 451, 452, 453, 454, 455, 456, 457, 458, 459, 460, 461, 462, 463, 464, 465, 466, 467, 468, 469, 470] (by decide +kernel) (by decide +kernel)
set_option maxRecDepth 20000 in
theorem gL_law_X4_thrown : GoodIn wsL_law (wsV RL 57 RX4 yX4_thrown wsX4_thrown) := goodIn_app (goodIn_of _ (by decide +kernel)) ggL_law_X4_thrown
set_option maxRecDepth 20000 in
theorem ggL_law_L_choose : GoodIn wsL_law wsL_choose := goodIn_ca (goodIn_r _ [107, 79, 108, 109, 110, 2, 111, 84, 85, 24, 25, 26, 27, 86, 87, 88, 440, 441, 442, 443, 444, 445, 446, 447, 448, 449, 450] (by decide +kernel) (by decide +kernel)) (goodIn_sub (fun _ h => List.mem_append_left _ (List.mem_append_left _ (List.mem_append_right _ h))) (by decide +kernel))
set_option maxRecDepth 20000 in
theorem gL_law_L_choose : GoodIn wsL_law (va_wsS RL 61 yL_choose wsL_choose) := goodIn_app (goodIn_of _ (by decide +kernel)) ggL_law_L_choose
set_option maxRecDepth 20000 in
theorem ggL_law_X4_choose : GoodIn wsL_law wsX4_choose := goodIn_r _ [115, 116, 67, 117, 68, 93, 94, 5, 95, 96, 97, 98, 99, 100, 451, 452, 453, 454, 455, 456, 457, 458, 459, 460, 461, 462, 463, 464, 465, 466, 467, 468, 469, 470] (by decide +kernel) (by decide +kernel)
set_option maxRecDepth 20000 in
theorem gL_law_X4_choose : GoodIn wsL_law (wsV RL 64 RX4 yX4_choose wsX4_choose) := goodIn_app (goodIn_of _ (by decide +kernel)) ggL_law_X4_choose
set_option maxRecDepth 20000 in
theorem ggL_law_L_put : GoodIn wsL_law wsL_put := goodIn_ca (goodIn_r _ [120, 79, 121, 122, 123, 2, 124, 84, 85, 18, 125, 126, 127, 128, 129, 130, 131, 132, 133, 17, 134, 37, 440, 441, 442, 443, 444, 445, 446, 447, 448, 449, 450, 471, 472, 473] (by decide +kernel) (by decide +kernel)) (goodIn_sub (fun _ h => List.mem_append_left _ (List.mem_append_left _ (List.mem_append_right _ h))) (by decide +kernel))
set_option maxRecDepth 20000 in
theorem gL_law_L_put : GoodIn wsL_law (va_wsS RL 67 yL_put wsL_put) := goodIn_app (goodIn_of _ (by decide +kernel)) ggL_law_L_put
set_option maxRecDepth 20000 in
theorem ggL_law_X4_put : GoodIn wsL_law wsX4_put := goodIn_r _ [138, 73, 139, 140, 141, 142, 65, 66, 93, 94, 5, 95, 143, 144, 145, 96, 97, 98, 99, 100, 451, 452, 453, 454, 455, 456, 457, 458, 459, 460, 461, 462, 463, 464, 465, 466, 467, 468, 469, 470] (by decide +kernel) (by decide +kernel)
set_option maxRecDepth 20000 in
theorem gL_law_X4_put : GoodIn wsL_law (wsV RL 70 RX4 yX4_put wsX4_put) := goodIn_app (goodIn_of _ (by decide +kernel)) ggL_law_X4_put
set_option maxRecDepth 20000 in
theorem ggL_law_L_step : GoodIn wsL_law wsL_step := goodIn_ca (goodIn_ca (goodIn_r _ [148, 79, 149, 150, 151, 152, 2, 153, 84, 85, 154, 155, 156, 157, 158, 159, 160, 161, 162, 163, 18, 28, 29, 30, 164, 31, 165, 166, 167, 17, 168, 37, 35, 36, 169, 170, 171, 172, 173, 174, 175, 176, 177, 178, 179, 180, 181, 182, 183, 19, 27, 24, 23, 25, 26, 184, 185, 186, 187, 188, 189, 190, 191, 192, 193, 194, 195, 196, 197, 198, 199, 200, 201, 202, 203, 204, 205, 206, 22, 207, 208, 209, 210, 211, 212, 213, 214, 215, 41, 42, 216, 217, 218, 219, 220, 221, 222, 223, 224, 225, 226, 227, 228, 229, 230, 231, 48, 49, 232, 233, 234, 47, 235, 53, 54, 55, 56, 236, 237, 238, 239, 240, 241, 43, 242, 44, 243, 244, 245, 246, 247, 248, 249, 250, 251, 252, 253, 254, 255, 256, 257, 258, 259, 260, 261, 262, 263, 264, 265, 266, 267, 268, 269, 270, 271, 272, 273, 274, 275, 276, 277, 278, 279, 280, 281, 440, 441, 442, 443, 444, 445, 446, 447, 448, 449, 450, 471, 472, 473, 474, 475, 476, 477, 478, 479, 480, 481, 482, 483] (by decide +kernel) (by decide +kernel)) (goodIn_sub (fun _ h => List.mem_append_left _ (List.mem_append_left _ (List.mem_append_right _ h))) (by decide +kernel))) (goodIn_sub (fun _ h => List.mem_append_left _ (List.mem_append_right _ h)) (by decide +kernel))
set_option maxRecDepth 20000 in
theorem gL_law_L_step : GoodIn wsL_law (va_wsS RL 71 yL_step wsL_step) := goodIn_app (goodIn_of _ (by decide +kernel)) ggL_law_L_step
set_option maxRecDepth 20000 in
theorem ggL_law_X4_step : GoodIn wsL_law wsX4_step := goodIn_r _ [285, 286, 287, 5, 288, 289, 96, 97, 98, 99, 100, 290, 291, 292, 293, 74, 294, 295, 296, 297, 298, 299, 300, 301, 73, 65, 66, 302, 303, 304, 305, 306, 307, 308, 309, 310, 311, 312, 313, 314, 315, 316, 317, 318, 68, 319, 320, 321, 322, 323, 324, 325, 326, 327, 328, 329, 330, 331, 116, 332, 333, 334, 335, 336, 337, 338, 339, 340, 341, 117, 342, 343, 344, 345, 346, 347, 348, 349, 67, 350, 351, 352, 353, 354, 355, 356, 357, 358, 359, 360, 361, 362, 363, 364, 365, 451, 452, 453, 454, 455, 456, 457, 458, 459, 460, 461, 462, 463, 464, 465, 466, 467, 468, 469, 470] (by decide +kernel) (by decide +kernel)
set_option maxRecDepth 20000 in
theorem gL_law_X4_step : GoodIn wsL_law (wsV RL 74 RX4 yX4_step wsX4_step) := goodIn_app (goodIn_of _ (by decide +kernel)) ggL_law_X4_step
set_option maxRecDepth 20000 in
theorem ggL_law_L_run : GoodIn wsL_law wsL_run := goodIn_ca (goodIn_ca (goodIn_r _ [368, 79, 149, 369, 370, 371, 2, 372, 84, 85, 373, 154, 155, 156, 157, 158, 159, 160, 161, 162, 163, 18, 28, 29, 30, 164, 31, 165, 166, 167, 17, 168, 37, 35, 36, 169, 170, 171, 172, 173, 174, 175, 176, 177, 178, 179, 180, 181, 182, 183, 19, 27, 24, 23, 25, 26, 184, 185, 186, 187, 188, 189, 190, 191, 192, 193, 194, 195, 196, 197, 198, 199, 200, 201, 202, 203, 204, 205, 206, 22, 207, 208, 209, 210, 211, 212, 213, 214, 215, 41, 42, 216, 217, 218, 219, 220, 221, 222, 223, 224, 225, 226, 227, 228, 229, 230, 231, 48, 49, 232, 233, 234, 47, 235, 53, 54, 55, 56, 236, 237, 238, 239, 240, 241, 43, 242, 44, 243, 244, 245, 246, 247, 248, 249, 250, 251, 252, 253, 254, 255, 256, 257, 258, 259, 260, 261, 262, 263, 264, 265, 266, 267, 268, 269, 270, 271, 272, 273, 274, 275, 276, 277, 278, 279, 280, 281, 440, 441, 442, 443, 444, 445, 446, 447, 448, 449, 450, 471, 472, 473, 474, 475, 476, 477, 478, 479, 480, 481, 482, 483] (by decide +kernel) (by decide +kernel)) (goodIn_sub (fun _ h => List.mem_append_left _ (List.mem_append_left _ (List.mem_append_right _ h))) (by decide +kernel))) (goodIn_sub (fun _ h => List.mem_append_left _ (List.mem_append_right _ h)) (by decide +kernel))
set_option maxRecDepth 20000 in
theorem gL_law_L_run : GoodIn wsL_law (va_wsS RL 75 yL_run wsL_run) := goodIn_app (goodIn_of _ (by decide +kernel)) ggL_law_L_run
set_option maxRecDepth 20000 in
theorem ggL_law_X4_run : GoodIn wsL_law wsX4_run := goodIn_r _ [377, 378, 286, 287, 5, 288, 289, 96, 97, 98, 99, 100, 290, 291, 292, 293, 74, 294, 295, 296, 297, 298, 299, 300, 301, 73, 65, 66, 302, 303, 304, 305, 306, 307, 308, 309, 310, 311, 312, 313, 314, 315, 316, 317, 318, 68, 319, 320, 321, 322, 323, 324, 325, 326, 327, 328, 329, 330, 331, 116, 332, 333, 334, 335, 336, 337, 338, 339, 340, 341, 117, 342, 343, 344, 345, 346, 347, 348, 349, 67, 350, 351, 352, 353, 354, 355, 356, 357, 358, 359, 360, 361, 362, 363, 364, 365, 451, 452, 453, 454, 455, 456, 457, 458, 459, 460, 461, 462, 463, 464, 465, 466, 467, 468, 469, 470] (by decide +kernel) (by decide +kernel)
set_option maxRecDepth 20000 in
theorem gL_law_X4_run : GoodIn wsL_law (wsV RL 78 RX4 yX4_run wsX4_run) := goodIn_app (goodIn_of _ (by decide +kernel)) ggL_law_X4_run
set_option maxRecDepth 20000 in
theorem ggL_law_L_cell : GoodIn wsL_law wsL_cell := goodIn_ca (goodIn_r _ [381, 382, 383, 384, 385, 2, 386, 387, 388, 18, 129, 130, 131, 132, 133, 17, 134, 37, 389, 170, 171, 390, 174, 175, 164, 440, 441, 442, 443, 444, 445, 446, 447, 448, 449, 450, 471, 472, 473] (by decide +kernel) (by decide +kernel)) (goodIn_sub (fun _ h => List.mem_append_right _ h) (by decide +kernel))
set_option maxRecDepth 20000 in
theorem gL_law_L_cell : GoodIn wsL_law (va_wsS RL 79 yL_cell wsL_cell) := goodIn_app (goodIn_of _ (by decide +kernel)) ggL_law_L_cell
set_option maxRecDepth 20000 in
theorem ggL_law_X4_cell : GoodIn wsL_law wsX4_cell := goodIn_r _ [394, 73, 65, 66, 93, 94, 5, 95, 96, 97, 98, 99, 100, 309, 310, 311, 296, 451, 452, 453, 454, 455, 456, 457, 458, 459, 460, 461, 462, 463, 464, 465, 466, 467, 468, 469, 470] (by decide +kernel) (by decide +kernel)
set_option maxRecDepth 20000 in
theorem gL_law_X4_cell : GoodIn wsL_law (wsV RL 82 RX4 yX4_cell wsX4_cell) := goodIn_app (goodIn_of _ (by decide +kernel)) ggL_law_X4_cell
set_option maxRecDepth 20000 in
theorem ggL_law_L_flux : GoodIn wsL_law wsL_flux := goodIn_ca (goodIn_r _ [397, 382, 398, 399, 400, 2, 401, 387, 388, 18, 402, 24, 23, 25, 26, 403, 404, 86, 87, 88, 192, 193, 194, 17, 195, 37, 196, 197, 198, 199, 35, 36, 200, 201, 202, 203, 204, 205, 206, 22, 207, 208, 209, 210, 211, 212, 213, 214, 215, 41, 42, 216, 217, 218, 219, 220, 221, 222, 223, 224, 225, 226, 227, 228, 229, 230, 231, 48, 49, 232, 233, 234, 47, 235, 53, 54, 55, 56, 170, 171, 174, 175, 164, 236, 237, 238, 239, 240, 241, 43, 242, 44, 243, 178, 179, 176, 177, 244, 245, 246, 247, 248, 249, 250, 251, 252, 253, 254, 255, 256, 257, 258, 259, 260, 261, 262, 263, 172, 173, 440, 441, 442, 443, 444, 445, 446, 447, 448, 449, 450, 471, 472, 473, 474, 475, 476, 477, 478, 479, 480, 481, 482, 483] (by decide +kernel) (by decide +kernel)) (goodIn_sub (fun _ h => List.mem_append_right _ h) (by decide +kernel))
set_option maxRecDepth 20000 in
theorem gL_law_L_flux : GoodIn wsL_law (va_wsS RL 83 yL_flux wsL_flux) := goodIn_app (goodIn_of _ (by decide +kernel)) ggL_law_L_flux
set_option maxRecDepth 20000 in
theorem ggL_law_X4_flux : GoodIn wsL_law wsX4_flux := goodIn_r _ [408, 73, 324, 323, 93, 94, 5, 95, 96, 97, 98, 99, 100, 328, 329, 330, 331, 116, 65, 66, 332, 333, 334, 335, 296, 336, 337, 338, 339, 340, 341, 117, 342, 343, 344, 345, 325, 346, 347, 348, 349, 67, 350, 351, 352, 353, 306, 307, 308, 354, 355, 356, 303, 304, 305, 309, 310, 311, 312, 313, 314, 357, 358, 359, 360, 361, 362, 363, 364, 365, 451, 452, 453, 454, 455, 456, 457, 458, 459, 460, 461, 462, 463, 464, 465, 466, 467, 468, 469, 470] (by decide +kernel) (by decide +kernel)
set_option maxRecDepth 20000 in
theorem gL_law_X4_flux : GoodIn wsL_law (wsV RL 86 RX4 yX4_flux wsX4_flux) := goodIn_app (goodIn_of _ (by decide +kernel)) ggL_law_X4_flux
set_option maxRecDepth 20000 in
theorem ggL_law_X3_sum : GoodIn wsL_law wsX3_sum := goodIn_r _ [412, 18, 130, 129, 413, 414, 415, 17, 416, 37, 440, 441, 442, 443, 444, 445, 446, 447, 448, 449, 450, 471, 472, 473] (by decide +kernel) (by decide +kernel)
set_option maxRecDepth 20000 in
theorem gL_law_X3_sum : GoodIn wsL_law (wsV RL 87 RX3 yX3_sum wsX3_sum) := goodIn_app (goodIn_of _ (by decide +kernel)) ggL_law_X3_sum
set_option maxRecDepth 20000 in
theorem ggL_law_X4_sum : GoodIn wsL_law wsX4_sum := goodIn_r _ [420, 100, 73, 66, 65, 451, 452, 453, 454, 455, 456, 457, 458, 459, 460, 461, 462, 463, 464, 465, 466, 467, 468, 469, 470] (by decide +kernel) (by decide +kernel)
set_option maxRecDepth 20000 in
theorem gL_law_X4_sum : GoodIn wsL_law (wsV RL 91 RX4 yX4_sum wsX4_sum) := goodIn_app (goodIn_of _ (by decide +kernel)) ggL_law_X4_sum
set_option maxRecDepth 20000 in
theorem ggL_law_X3_time : GoodIn wsL_law wsX3_time := goodIn_r _ [424, 28, 440, 441, 442, 443, 444, 445, 446, 447, 448, 449, 450] (by decide +kernel) (by decide +kernel)
set_option maxRecDepth 20000 in
theorem gL_law_X3_time : GoodIn wsL_law (wsV RL 92 RX3 yX3_time wsX3_time) := goodIn_app (goodIn_of _ (by decide +kernel)) ggL_law_X3_time
set_option maxRecDepth 20000 in
theorem ggL_law_X4_time : GoodIn wsL_law wsX4_time := goodIn_r _ [428, 100, 74, 451, 452, 453, 454, 455, 456, 457, 458, 459, 460, 461, 462, 463, 464, 465, 466, 467, 468, 469, 470] (by decide +kernel) (by decide +kernel)
set_option maxRecDepth 20000 in
theorem gL_law_X4_time : GoodIn wsL_law (wsV RL 96 RX4 yX4_time wsX4_time) := goodIn_app (goodIn_of _ (by decide +kernel)) ggL_law_X4_time
set_option maxRecDepth 20000 in
theorem ggL_law_L_count : GoodIn wsL_law wsL_count := goodIn_ca (goodIn_r _ [431, 382, 432, 433, 434, 2, 435, 387, 388, 18, 402, 29, 30, 31, 440, 441, 442, 443, 444, 445, 446, 447, 448, 449, 450, 471, 472, 473] (by decide +kernel) (by decide +kernel)) (goodIn_sub (fun _ h => List.mem_append_right _ h) (by decide +kernel))
set_option maxRecDepth 20000 in
theorem gL_law_L_count : GoodIn wsL_law (va_wsS RL 97 yL_count wsL_count) := goodIn_app (goodIn_of _ (by decide +kernel)) ggL_law_L_count
set_option maxRecDepth 20000 in
theorem ggL_law_X4_count : GoodIn wsL_law wsX4_count := goodIn_r _ [439, 73, 294, 295, 297, 93, 94, 5, 95, 96, 97, 98, 99, 100, 451, 452, 453, 454, 455, 456, 457, 458, 459, 460, 461, 462, 463, 464, 465, 466, 467, 468, 469, 470] (by decide +kernel) (by decide +kernel)
set_option maxRecDepth 20000 in
theorem gL_law_X4_count : GoodIn wsL_law (wsV RL 100 RX4 yX4_count wsX4_count) := goodIn_app (goodIn_of _ (by decide +kernel)) ggL_law_X4_count
theorem dL_law_0 : decode cL_law 0 = .ok (.new 8, 3) := by decide +kernel
theorem dL_law_3 : decode cL_law 3 = .ok (.dup, 1) := by decide +kernel
theorem dL_law_4 : decode cL_law 4 = .ok (.invokespecial 47, 3) := by decide +kernel
theorem dL_law_7 : decode cL_law 7 = .ok (.astore_n 1, 1) := by decide +kernel
theorem dL_law_8 : decode cL_law 8 = .ok (.new 48, 3) := by decide +kernel
theorem dL_law_11 : decode cL_law 11 = .ok (.dup, 1) := by decide +kernel
theorem dL_law_12 : decode cL_law 12 = .ok (.invokespecial 50, 3) := by decide +kernel
theorem dL_law_15 : decode cL_law 15 = .ok (.astore_n 2, 1) := by decide +kernel
theorem dL_law_16 : decode cL_law 16 = .ok (.iconst 1, 1) := by decide +kernel
theorem dL_law_17 : decode cL_law 17 = .ok (.newarray .long, 2) := by decide +kernel
theorem dL_law_19 : decode cL_law 19 = .ok (.astore_n 3, 1) := by decide +kernel
theorem dL_law_20 : decode cL_law 20 = .ok (.iconst 1, 1) := by decide +kernel
theorem dL_law_21 : decode cL_law 21 = .ok (.newarray .double, 2) := by decide +kernel
theorem dL_law_23 : decode cL_law 23 = .ok (.astore 4, 2) := by decide +kernel
theorem dL_law_25 : decode cL_law 25 = .ok (.iconst 0, 1) := by decide +kernel
theorem dL_law_26 : decode cL_law 26 = .ok (.istore 5, 2) := by decide +kernel
theorem dL_law_28 : decode cL_law 28 = .ok (.iload 5, 2) := by decide +kernel
theorem dL_law_30 : decode cL_law 30 = .ok (.aload_n 0, 1) := by decide +kernel
theorem dL_law_31 : decode cL_law 31 = .ok (.arraylength, 1) := by decide +kernel
theorem dL_law_32 : decode cL_law 32 = .ok (.iconst 5, 1) := by decide +kernel
theorem dL_law_33 : decode cL_law 33 = .ok (.isub, 1) := by decide +kernel
theorem dL_law_34 : decode cL_law 34 = .ok (.if_icmp .gt 773, 3) := by decide +kernel
theorem dL_law_37 : decode cL_law 37 = .ok (.aload_n 0, 1) := by decide +kernel
theorem dL_law_38 : decode cL_law 38 = .ok (.iload 5, 2) := by decide +kernel
theorem dL_law_40 : decode cL_law 40 = .ok (.iaload, 1) := by decide +kernel
theorem dL_law_41 : decode cL_law 41 = .ok (.bipush 15, 2) := by decide +kernel
theorem dL_law_43 : decode cL_law 43 = .ok (.iand, 1) := by decide +kernel
theorem dL_law_44 : decode cL_law 44 = .ok (.tableswitch 757 0 9 #[56, 92, 164, 244, 331, 397, 486, 591, 660, 701], 56) := by decide +kernel
theorem dL_law_100 : decode cL_law 100 = .ok (.aload_n 1, 1) := by decide +kernel
theorem dL_law_101 : decode cL_law 101 = .ok (.aload_n 0, 1) := by decide +kernel
theorem dL_law_102 : decode cL_law 102 = .ok (.iload 5, 2) := by decide +kernel
theorem dL_law_104 : decode cL_law 104 = .ok (.iconst 1, 1) := by decide +kernel
theorem dL_law_105 : decode cL_law 105 = .ok (.iadd, 1) := by decide +kernel
theorem dL_law_106 : decode cL_law 106 = .ok (.iaload, 1) := by decide +kernel
theorem dL_law_107 : decode cL_law 107 = .ok (.invokestatic 51, 3) := by decide +kernel
theorem dL_law_110 : decode cL_law 110 = .ok (.istore 6, 2) := by decide +kernel
theorem dL_law_112 : decode cL_law 112 = .ok (.aload_n 2, 1) := by decide +kernel
theorem dL_law_113 : decode cL_law 113 = .ok (.aload_n 0, 1) := by decide +kernel
theorem dL_law_114 : decode cL_law 114 = .ok (.iload 5, 2) := by decide +kernel
theorem dL_law_116 : decode cL_law 116 = .ok (.iconst 1, 1) := by decide +kernel
theorem dL_law_117 : decode cL_law 117 = .ok (.iadd, 1) := by decide +kernel
theorem dL_law_118 : decode cL_law 118 = .ok (.iaload, 1) := by decide +kernel
theorem dL_law_119 : decode cL_law 119 = .ok (.invokevirtual 56, 3) := by decide +kernel
theorem dL_law_122 : decode cL_law 122 = .ok (.aload_n 2, 1) := by decide +kernel
theorem dL_law_123 : decode cL_law 123 = .ok (.invokevirtual 57, 3) := by decide +kernel
theorem dL_law_126 : decode cL_law 126 = .ok (.iload 6, 2) := by decide +kernel
theorem dL_law_128 : decode cL_law 128 = .ok (.if_icmp .eq 5, 3) := by decide +kernel
theorem dL_law_131 : decode cL_law 131 = .ok (.iconst 0, 1) := by decide +kernel
theorem dL_law_132 : decode cL_law 132 = .ok (.ireturn, 1) := by decide +kernel
theorem dL_law_133 : decode cL_law 133 = .ok (.goto 668, 3) := by decide +kernel
theorem dL_law_136 : decode cL_law 136 = .ok (.aload_n 1, 1) := by decide +kernel
theorem dL_law_137 : decode cL_law 137 = .ok (.aload_n 0, 1) := by decide +kernel
theorem dL_law_138 : decode cL_law 138 = .ok (.iload 5, 2) := by decide +kernel
theorem dL_law_140 : decode cL_law 140 = .ok (.iconst 1, 1) := by decide +kernel
theorem dL_law_141 : decode cL_law 141 = .ok (.iadd, 1) := by decide +kernel
theorem dL_law_142 : decode cL_law 142 = .ok (.iaload, 1) := by decide +kernel
theorem dL_law_143 : decode cL_law 143 = .ok (.aload_n 0, 1) := by decide +kernel
theorem dL_law_144 : decode cL_law 144 = .ok (.iload 5, 2) := by decide +kernel
theorem dL_law_146 : decode cL_law 146 = .ok (.iconst 2, 1) := by decide +kernel
theorem dL_law_147 : decode cL_law 147 = .ok (.iadd, 1) := by decide +kernel
theorem dL_law_148 : decode cL_law 148 = .ok (.iaload, 1) := by decide +kernel
theorem dL_law_149 : decode cL_law 149 = .ok (.aload_n 0, 1) := by decide +kernel
theorem dL_law_150 : decode cL_law 150 = .ok (.iload 5, 2) := by decide +kernel
theorem dL_law_152 : decode cL_law 152 = .ok (.iconst 3, 1) := by decide +kernel
theorem dL_law_153 : decode cL_law 153 = .ok (.iadd, 1) := by decide +kernel
theorem dL_law_154 : decode cL_law 154 = .ok (.iaload, 1) := by decide +kernel
theorem dL_law_155 : decode cL_law 155 = .ok (.aload_n 0, 1) := by decide +kernel
theorem dL_law_156 : decode cL_law 156 = .ok (.iload 5, 2) := by decide +kernel
theorem dL_law_158 : decode cL_law 158 = .ok (.iconst 4, 1) := by decide +kernel
theorem dL_law_159 : decode cL_law 159 = .ok (.iadd, 1) := by decide +kernel
theorem dL_law_160 : decode cL_law 160 = .ok (.iaload, 1) := by decide +kernel
theorem dL_law_161 : decode cL_law 161 = .ok (.invokestatic 61, 3) := by decide +kernel
theorem dL_law_164 : decode cL_law 164 = .ok (.istore 6, 2) := by decide +kernel
theorem dL_law_166 : decode cL_law 166 = .ok (.aload_n 2, 1) := by decide +kernel
theorem dL_law_167 : decode cL_law 167 = .ok (.aload_n 0, 1) := by decide +kernel
theorem dL_law_168 : decode cL_law 168 = .ok (.iload 5, 2) := by decide +kernel
theorem dL_law_170 : decode cL_law 170 = .ok (.iconst 1, 1) := by decide +kernel
theorem dL_law_171 : decode cL_law 171 = .ok (.iadd, 1) := by decide +kernel
theorem dL_law_172 : decode cL_law 172 = .ok (.iaload, 1) := by decide +kernel
theorem dL_law_173 : decode cL_law 173 = .ok (.aload_n 0, 1) := by decide +kernel
theorem dL_law_174 : decode cL_law 174 = .ok (.iload 5, 2) := by decide +kernel
theorem dL_law_176 : decode cL_law 176 = .ok (.iconst 2, 1) := by decide +kernel
theorem dL_law_177 : decode cL_law 177 = .ok (.iadd, 1) := by decide +kernel
end
section
theorem dL_law_178 : decode cL_law 178 = .ok (.iaload, 1) := by decide +kernel
theorem dL_law_179 : decode cL_law 179 = .ok (.aload_n 0, 1) := by decide +kernel
theorem dL_law_180 : decode cL_law 180 = .ok (.iload 5, 2) := by decide +kernel
theorem dL_law_182 : decode cL_law 182 = .ok (.iconst 3, 1) := by decide +kernel
theorem dL_law_183 : decode cL_law 183 = .ok (.iadd, 1) := by decide +kernel
theorem dL_law_184 : decode cL_law 184 = .ok (.iaload, 1) := by decide +kernel
theorem dL_law_185 : decode cL_law 185 = .ok (.aload_n 0, 1) := by decide +kernel
theorem dL_law_186 : decode cL_law 186 = .ok (.iload 5, 2) := by decide +kernel
theorem dL_law_188 : decode cL_law 188 = .ok (.iconst 4, 1) := by decide +kernel
theorem dL_law_189 : decode cL_law 189 = .ok (.iadd, 1) := by decide +kernel
theorem dL_law_190 : decode cL_law 190 = .ok (.iaload, 1) := by decide +kernel
theorem dL_law_191 : decode cL_law 191 = .ok (.invokevirtual 64, 3) := by decide +kernel
theorem dL_law_194 : decode cL_law 194 = .ok (.aload_n 2, 1) := by decide +kernel
theorem dL_law_195 : decode cL_law 195 = .ok (.invokevirtual 57, 3) := by decide +kernel
theorem dL_law_198 : decode cL_law 198 = .ok (.iload 6, 2) := by decide +kernel
theorem dL_law_200 : decode cL_law 200 = .ok (.if_icmp .eq 5, 3) := by decide +kernel
theorem dL_law_203 : decode cL_law 203 = .ok (.iconst 0, 1) := by decide +kernel
theorem dL_law_204 : decode cL_law 204 = .ok (.ireturn, 1) := by decide +kernel
theorem dL_law_205 : decode cL_law 205 = .ok (.goto 596, 3) := by decide +kernel
theorem dL_law_208 : decode cL_law 208 = .ok (.aload_n 1, 1) := by decide +kernel
theorem dL_law_209 : decode cL_law 209 = .ok (.aload_n 0, 1) := by decide +kernel
theorem dL_law_210 : decode cL_law 210 = .ok (.iload 5, 2) := by decide +kernel
theorem dL_law_212 : decode cL_law 212 = .ok (.iconst 1, 1) := by decide +kernel
theorem dL_law_213 : decode cL_law 213 = .ok (.iadd, 1) := by decide +kernel
theorem dL_law_214 : decode cL_law 214 = .ok (.iaload, 1) := by decide +kernel
theorem dL_law_215 : decode cL_law 215 = .ok (.aload_n 0, 1) := by decide +kernel
theorem dL_law_216 : decode cL_law 216 = .ok (.iload 5, 2) := by decide +kernel
theorem dL_law_218 : decode cL_law 218 = .ok (.iconst 2, 1) := by decide +kernel
theorem dL_law_219 : decode cL_law 219 = .ok (.iadd, 1) := by decide +kernel
theorem dL_law_220 : decode cL_law 220 = .ok (.iaload, 1) := by decide +kernel
theorem dL_law_221 : decode cL_law 221 = .ok (.i2d, 1) := by decide +kernel
theorem dL_law_222 : decode cL_law 222 = .ok (.ldc2_w 65, 3) := by decide +kernel
theorem dL_law_225 : decode cL_law 225 = .ok (.dmul, 1) := by decide +kernel
theorem dL_law_226 : decode cL_law 226 = .ok (.aload_n 0, 1) := by decide +kernel
theorem dL_law_227 : decode cL_law 227 = .ok (.iload 5, 2) := by decide +kernel
theorem dL_law_229 : decode cL_law 229 = .ok (.iconst 3, 1) := by decide +kernel
theorem dL_law_230 : decode cL_law 230 = .ok (.iadd, 1) := by decide +kernel
theorem dL_law_231 : decode cL_law 231 = .ok (.iaload, 1) := by decide +kernel
theorem dL_law_232 : decode cL_law 232 = .ok (.i2d, 1) := by decide +kernel
theorem dL_law_233 : decode cL_law 233 = .ok (.ldc2_w 65, 3) := by decide +kernel
theorem dL_law_236 : decode cL_law 236 = .ok (.dmul, 1) := by decide +kernel
theorem dL_law_237 : decode cL_law 237 = .ok (.invokestatic 67, 3) := by decide +kernel
theorem dL_law_240 : decode cL_law 240 = .ok (.istore 6, 2) := by decide +kernel
theorem dL_law_242 : decode cL_law 242 = .ok (.aload_n 2, 1) := by decide +kernel
theorem dL_law_243 : decode cL_law 243 = .ok (.aload_n 0, 1) := by decide +kernel
theorem dL_law_244 : decode cL_law 244 = .ok (.iload 5, 2) := by decide +kernel
theorem dL_law_246 : decode cL_law 246 = .ok (.iconst 1, 1) := by decide +kernel
theorem dL_law_247 : decode cL_law 247 = .ok (.iadd, 1) := by decide +kernel
theorem dL_law_248 : decode cL_law 248 = .ok (.iaload, 1) := by decide +kernel
theorem dL_law_249 : decode cL_law 249 = .ok (.aload_n 0, 1) := by decide +kernel
theorem dL_law_250 : decode cL_law 250 = .ok (.iload 5, 2) := by decide +kernel
theorem dL_law_252 : decode cL_law 252 = .ok (.iconst 2, 1) := by decide +kernel
theorem dL_law_253 : decode cL_law 253 = .ok (.iadd, 1) := by decide +kernel
theorem dL_law_254 : decode cL_law 254 = .ok (.iaload, 1) := by decide +kernel
theorem dL_law_255 : decode cL_law 255 = .ok (.i2d, 1) := by decide +kernel
theorem dL_law_256 : decode cL_law 256 = .ok (.ldc2_w 65, 3) := by decide +kernel
theorem dL_law_259 : decode cL_law 259 = .ok (.dmul, 1) := by decide +kernel
theorem dL_law_260 : decode cL_law 260 = .ok (.aload_n 0, 1) := by decide +kernel
theorem dL_law_261 : decode cL_law 261 = .ok (.iload 5, 2) := by decide +kernel
theorem dL_law_263 : decode cL_law 263 = .ok (.iconst 3, 1) := by decide +kernel
theorem dL_law_264 : decode cL_law 264 = .ok (.iadd, 1) := by decide +kernel
theorem dL_law_265 : decode cL_law 265 = .ok (.iaload, 1) := by decide +kernel
theorem dL_law_266 : decode cL_law 266 = .ok (.i2d, 1) := by decide +kernel
theorem dL_law_267 : decode cL_law 267 = .ok (.ldc2_w 65, 3) := by decide +kernel
theorem dL_law_270 : decode cL_law 270 = .ok (.dmul, 1) := by decide +kernel
theorem dL_law_271 : decode cL_law 271 = .ok (.invokevirtual 70, 3) := by decide +kernel
theorem dL_law_274 : decode cL_law 274 = .ok (.aload_n 2, 1) := by decide +kernel
theorem dL_law_275 : decode cL_law 275 = .ok (.invokevirtual 57, 3) := by decide +kernel
theorem dL_law_278 : decode cL_law 278 = .ok (.iload 6, 2) := by decide +kernel
theorem dL_law_280 : decode cL_law 280 = .ok (.if_icmp .eq 5, 3) := by decide +kernel
theorem dL_law_283 : decode cL_law 283 = .ok (.iconst 0, 1) := by decide +kernel
theorem dL_law_284 : decode cL_law 284 = .ok (.ireturn, 1) := by decide +kernel
theorem dL_law_285 : decode cL_law 285 = .ok (.goto 516, 3) := by decide +kernel
theorem dL_law_288 : decode cL_law 288 = .ok (.aload_n 1, 1) := by decide +kernel
theorem dL_law_289 : decode cL_law 289 = .ok (.aload_n 0, 1) := by decide +kernel
theorem dL_law_290 : decode cL_law 290 = .ok (.iload 5, 2) := by decide +kernel
theorem dL_law_292 : decode cL_law 292 = .ok (.iconst 1, 1) := by decide +kernel
theorem dL_law_293 : decode cL_law 293 = .ok (.iadd, 1) := by decide +kernel
theorem dL_law_294 : decode cL_law 294 = .ok (.iaload, 1) := by decide +kernel
theorem dL_law_295 : decode cL_law 295 = .ok (.i2d, 1) := by decide +kernel
theorem dL_law_296 : decode cL_law 296 = .ok (.ldc2_w 65, 3) := by decide +kernel
theorem dL_law_299 : decode cL_law 299 = .ok (.dmul, 1) := by decide +kernel
theorem dL_law_300 : decode cL_law 300 = .ok (.aload 4, 2) := by decide +kernel
theorem dL_law_302 : decode cL_law 302 = .ok (.invokestatic 71, 3) := by decide +kernel
theorem dL_law_305 : decode cL_law 305 = .ok (.istore 6, 2) := by decide +kernel
theorem dL_law_307 : decode cL_law 307 = .ok (.aload_n 2, 1) := by decide +kernel
theorem dL_law_308 : decode cL_law 308 = .ok (.aload_n 0, 1) := by decide +kernel
theorem dL_law_309 : decode cL_law 309 = .ok (.iload 5, 2) := by decide +kernel
theorem dL_law_311 : decode cL_law 311 = .ok (.iconst 1, 1) := by decide +kernel
theorem dL_law_312 : decode cL_law 312 = .ok (.iadd, 1) := by decide +kernel
theorem dL_law_313 : decode cL_law 313 = .ok (.iaload, 1) := by decide +kernel
theorem dL_law_314 : decode cL_law 314 = .ok (.i2d, 1) := by decide +kernel
theorem dL_law_315 : decode cL_law 315 = .ok (.ldc2_w 65, 3) := by decide +kernel
theorem dL_law_318 : decode cL_law 318 = .ok (.dmul, 1) := by decide +kernel
theorem dL_law_319 : decode cL_law 319 = .ok (.invokevirtual 74, 3) := by decide +kernel
theorem dL_law_322 : decode cL_law 322 = .ok (.dstore 7, 2) := by decide +kernel
theorem dL_law_324 : decode cL_law 324 = .ok (.aload_n 2, 1) := by decide +kernel
theorem dL_law_325 : decode cL_law 325 = .ok (.invokevirtual 57, 3) := by decide +kernel
theorem dL_law_328 : decode cL_law 328 = .ok (.iload 6, 2) := by decide +kernel
theorem dL_law_330 : decode cL_law 330 = .ok (.if_icmp .eq 5, 3) := by decide +kernel
theorem dL_law_333 : decode cL_law 333 = .ok (.iconst 0, 1) := by decide +kernel
theorem dL_law_334 : decode cL_law 334 = .ok (.ireturn, 1) := by decide +kernel
theorem dL_law_335 : decode cL_law 335 = .ok (.iload 6, 2) := by decide +kernel
theorem dL_law_337 : decode cL_law 337 = .ok (.ifCond .ne 35, 3) := by decide +kernel
theorem dL_law_340 : decode cL_law 340 = .ok (.aload 4, 2) := by decide +kernel
theorem dL_law_342 : decode cL_law 342 = .ok (.iconst 0, 1) := by decide +kernel
theorem dL_law_343 : decode cL_law 343 = .ok (.daload, 1) := by decide +kernel
theorem dL_law_344 : decode cL_law 344 = .ok (.dload 7, 2) := by decide +kernel
theorem dL_law_346 : decode cL_law 346 = .ok (.dcmp .l, 1) := by decide +kernel
theorem dL_law_347 : decode cL_law 347 = .ok (.ifCond .eq 25, 3) := by decide +kernel
theorem dL_law_350 : decode cL_law 350 = .ok (.aload 4, 2) := by decide +kernel
theorem dL_law_352 : decode cL_law 352 = .ok (.iconst 0, 1) := by decide +kernel
theorem dL_law_353 : decode cL_law 353 = .ok (.daload, 1) := by decide +kernel
theorem dL_law_354 : decode cL_law 354 = .ok (.aload 4, 2) := by decide +kernel
theorem dL_law_356 : decode cL_law 356 = .ok (.iconst 0, 1) := by decide +kernel
theorem dL_law_357 : decode cL_law 357 = .ok (.daload, 1) := by decide +kernel
theorem dL_law_358 : decode cL_law 358 = .ok (.dcmp .l, 1) := by decide +kernel
theorem dL_law_359 : decode cL_law 359 = .ok (.ifCond .eq 11, 3) := by decide +kernel
theorem dL_law_362 : decode cL_law 362 = .ok (.dload 7, 2) := by decide +kernel
theorem dL_law_364 : decode cL_law 364 = .ok (.dload 7, 2) := by decide +kernel
theorem dL_law_366 : decode cL_law 366 = .ok (.dcmp .l, 1) := by decide +kernel
theorem dL_law_367 : decode cL_law 367 = .ok (.ifCond .ne 5, 3) := by decide +kernel
theorem dL_law_370 : decode cL_law 370 = .ok (.iconst 0, 1) := by decide +kernel
theorem dL_law_371 : decode cL_law 371 = .ok (.ireturn, 1) := by decide +kernel
theorem dL_law_372 : decode cL_law 372 = .ok (.goto 429, 3) := by decide +kernel
theorem dL_law_375 : decode cL_law 375 = .ok (.aload_n 1, 1) := by decide +kernel
theorem dL_law_376 : decode cL_law 376 = .ok (.aload_n 0, 1) := by decide +kernel
theorem dL_law_377 : decode cL_law 377 = .ok (.iload 5, 2) := by decide +kernel
theorem dL_law_379 : decode cL_law 379 = .ok (.iconst 1, 1) := by decide +kernel
theorem dL_law_380 : decode cL_law 380 = .ok (.iadd, 1) := by decide +kernel
theorem dL_law_381 : decode cL_law 381 = .ok (.iaload, 1) := by decide +kernel
theorem dL_law_382 : decode cL_law 382 = .ok (.i2d, 1) := by decide +kernel
theorem dL_law_383 : decode cL_law 383 = .ok (.ldc2_w 65, 3) := by decide +kernel
theorem dL_law_386 : decode cL_law 386 = .ok (.dmul, 1) := by decide +kernel
theorem dL_law_387 : decode cL_law 387 = .ok (.aload_n 3, 1) := by decide +kernel
theorem dL_law_388 : decode cL_law 388 = .ok (.invokestatic 75, 3) := by decide +kernel
theorem dL_law_391 : decode cL_law 391 = .ok (.istore 6, 2) := by decide +kernel
theorem dL_law_393 : decode cL_law 393 = .ok (.aload_n 2, 1) := by decide +kernel
theorem dL_law_394 : decode cL_law 394 = .ok (.aload_n 0, 1) := by decide +kernel
theorem dL_law_395 : decode cL_law 395 = .ok (.iload 5, 2) := by decide +kernel
theorem dL_law_397 : decode cL_law 397 = .ok (.iconst 1, 1) := by decide +kernel
theorem dL_law_398 : decode cL_law 398 = .ok (.iadd, 1) := by decide +kernel
theorem dL_law_399 : decode cL_law 399 = .ok (.iaload, 1) := by decide +kernel
theorem dL_law_400 : decode cL_law 400 = .ok (.i2d, 1) := by decide +kernel
theorem dL_law_401 : decode cL_law 401 = .ok (.ldc2_w 65, 3) := by decide +kernel
theorem dL_law_404 : decode cL_law 404 = .ok (.dmul, 1) := by decide +kernel
theorem dL_law_405 : decode cL_law 405 = .ok (.invokevirtual 78, 3) := by decide +kernel
theorem dL_law_408 : decode cL_law 408 = .ok (.istore 7, 2) := by decide +kernel
theorem dL_law_410 : decode cL_law 410 = .ok (.aload_n 2, 1) := by decide +kernel
theorem dL_law_411 : decode cL_law 411 = .ok (.invokevirtual 57, 3) := by decide +kernel
theorem dL_law_414 : decode cL_law 414 = .ok (.iload 6, 2) := by decide +kernel
theorem dL_law_416 : decode cL_law 416 = .ok (.if_icmp .eq 5, 3) := by decide +kernel
theorem dL_law_419 : decode cL_law 419 = .ok (.iconst 0, 1) := by decide +kernel
theorem dL_law_420 : decode cL_law 420 = .ok (.ireturn, 1) := by decide +kernel
theorem dL_law_421 : decode cL_law 421 = .ok (.iload 6, 2) := by decide +kernel
theorem dL_law_423 : decode cL_law 423 = .ok (.ifCond .ne 15, 3) := by decide +kernel
theorem dL_law_426 : decode cL_law 426 = .ok (.aload_n 3, 1) := by decide +kernel
theorem dL_law_427 : decode cL_law 427 = .ok (.iconst 0, 1) := by decide +kernel
theorem dL_law_428 : decode cL_law 428 = .ok (.laload, 1) := by decide +kernel
theorem dL_law_429 : decode cL_law 429 = .ok (.iload 7, 2) := by decide +kernel
theorem dL_law_431 : decode cL_law 431 = .ok (.i2l, 1) := by decide +kernel
theorem dL_law_432 : decode cL_law 432 = .ok (.lcmp, 1) := by decide +kernel
theorem dL_law_433 : decode cL_law 433 = .ok (.ifCond .eq 5, 3) := by decide +kernel
theorem dL_law_436 : decode cL_law 436 = .ok (.iconst 0, 1) := by decide +kernel
theorem dL_law_437 : decode cL_law 437 = .ok (.ireturn, 1) := by decide +kernel
theorem dL_law_438 : decode cL_law 438 = .ok (.goto 363, 3) := by decide +kernel
theorem dL_law_441 : decode cL_law 441 = .ok (.aload_n 1, 1) := by decide +kernel
theorem dL_law_442 : decode cL_law 442 = .ok (.aload_n 0, 1) := by decide +kernel
theorem dL_law_443 : decode cL_law 443 = .ok (.iload 5, 2) := by decide +kernel
theorem dL_law_445 : decode cL_law 445 = .ok (.iconst 1, 1) := by decide +kernel
theorem dL_law_446 : decode cL_law 446 = .ok (.iadd, 1) := by decide +kernel
theorem dL_law_447 : decode cL_law 447 = .ok (.iaload, 1) := by decide +kernel
theorem dL_law_448 : decode cL_law 448 = .ok (.aload_n 0, 1) := by decide +kernel
theorem dL_law_449 : decode cL_law 449 = .ok (.iload 5, 2) := by decide +kernel
theorem dL_law_451 : decode cL_law 451 = .ok (.iconst 2, 1) := by decide +kernel
theorem dL_law_452 : decode cL_law 452 = .ok (.iadd, 1) := by decide +kernel
theorem dL_law_453 : decode cL_law 453 = .ok (.iaload, 1) := by decide +kernel
theorem dL_law_454 : decode cL_law 454 = .ok (.aload 4, 2) := by decide +kernel
theorem dL_law_456 : decode cL_law 456 = .ok (.invokestatic 79, 3) := by decide +kernel
theorem dL_law_459 : decode cL_law 459 = .ok (.istore 6, 2) := by decide +kernel
theorem dL_law_461 : decode cL_law 461 = .ok (.aload_n 2, 1) := by decide +kernel
theorem dL_law_462 : decode cL_law 462 = .ok (.aload_n 0, 1) := by decide +kernel
theorem dL_law_463 : decode cL_law 463 = .ok (.iload 5, 2) := by decide +kernel
theorem dL_law_465 : decode cL_law 465 = .ok (.iconst 1, 1) := by decide +kernel
theorem dL_law_466 : decode cL_law 466 = .ok (.iadd, 1) := by decide +kernel
theorem dL_law_467 : decode cL_law 467 = .ok (.iaload, 1) := by decide +kernel
theorem dL_law_468 : decode cL_law 468 = .ok (.aload_n 0, 1) := by decide +kernel
theorem dL_law_469 : decode cL_law 469 = .ok (.iload 5, 2) := by decide +kernel
theorem dL_law_471 : decode cL_law 471 = .ok (.iconst 2, 1) := by decide +kernel
theorem dL_law_472 : decode cL_law 472 = .ok (.iadd, 1) := by decide +kernel
theorem dL_law_473 : decode cL_law 473 = .ok (.iaload, 1) := by decide +kernel
theorem dL_law_474 : decode cL_law 474 = .ok (.invokevirtual 82, 3) := by decide +kernel
theorem dL_law_477 : decode cL_law 477 = .ok (.dstore 7, 2) := by decide +kernel
theorem dL_law_479 : decode cL_law 479 = .ok (.aload_n 2, 1) := by decide +kernel
theorem dL_law_480 : decode cL_law 480 = .ok (.invokevirtual 57, 3) := by decide +kernel
theorem dL_law_483 : decode cL_law 483 = .ok (.iload 6, 2) := by decide +kernel
theorem dL_law_485 : decode cL_law 485 = .ok (.if_icmp .eq 5, 3) := by decide +kernel
theorem dL_law_488 : decode cL_law 488 = .ok (.iconst 0, 1) := by decide +kernel
theorem dL_law_489 : decode cL_law 489 = .ok (.ireturn, 1) := by decide +kernel
theorem dL_law_490 : decode cL_law 490 = .ok (.iload 6, 2) := by decide +kernel
theorem dL_law_492 : decode cL_law 492 = .ok (.ifCond .ne 35, 3) := by decide +kernel
theorem dL_law_495 : decode cL_law 495 = .ok (.aload 4, 2) := by decide +kernel
theorem dL_law_497 : decode cL_law 497 = .ok (.iconst 0, 1) := by decide +kernel
theorem dL_law_498 : decode cL_law 498 = .ok (.daload, 1) := by decide +kernel
theorem dL_law_499 : decode cL_law 499 = .ok (.dload 7, 2) := by decide +kernel
theorem dL_law_501 : decode cL_law 501 = .ok (.dcmp .l, 1) := by decide +kernel
theorem dL_law_502 : decode cL_law 502 = .ok (.ifCond .eq 25, 3) := by decide +kernel
theorem dL_law_505 : decode cL_law 505 = .ok (.aload 4, 2) := by decide +kernel
theorem dL_law_507 : decode cL_law 507 = .ok (.iconst 0, 1) := by decide +kernel
theorem dL_law_508 : decode cL_law 508 = .ok (.daload, 1) := by decide +kernel
theorem dL_law_509 : decode cL_law 509 = .ok (.aload 4, 2) := by decide +kernel
theorem dL_law_511 : decode cL_law 511 = .ok (.iconst 0, 1) := by decide +kernel
theorem dL_law_512 : decode cL_law 512 = .ok (.daload, 1) := by decide +kernel
theorem dL_law_513 : decode cL_law 513 = .ok (.dcmp .l, 1) := by decide +kernel
theorem dL_law_514 : decode cL_law 514 = .ok (.ifCond .eq 11, 3) := by decide +kernel
theorem dL_law_517 : decode cL_law 517 = .ok (.dload 7, 2) := by decide +kernel
theorem dL_law_519 : decode cL_law 519 = .ok (.dload 7, 2) := by decide +kernel
theorem dL_law_521 : decode cL_law 521 = .ok (.dcmp .l, 1) := by decide +kernel
theorem dL_law_522 : decode cL_law 522 = .ok (.ifCond .ne 5, 3) := by decide +kernel
theorem dL_law_525 : decode cL_law 525 = .ok (.iconst 0, 1) := by decide +kernel
theorem dL_law_526 : decode cL_law 526 = .ok (.ireturn, 1) := by decide +kernel
theorem dL_law_527 : decode cL_law 527 = .ok (.goto 274, 3) := by decide +kernel
theorem dL_law_530 : decode cL_law 530 = .ok (.aload_n 1, 1) := by decide +kernel
theorem dL_law_531 : decode cL_law 531 = .ok (.aload_n 0, 1) := by decide +kernel
theorem dL_law_532 : decode cL_law 532 = .ok (.iload 5, 2) := by decide +kernel
theorem dL_law_534 : decode cL_law 534 = .ok (.iconst 1, 1) := by decide +kernel
theorem dL_law_535 : decode cL_law 535 = .ok (.iadd, 1) := by decide +kernel
theorem dL_law_536 : decode cL_law 536 = .ok (.iaload, 1) := by decide +kernel
theorem dL_law_537 : decode cL_law 537 = .ok (.aload_n 0, 1) := by decide +kernel
theorem dL_law_538 : decode cL_law 538 = .ok (.iload 5, 2) := by decide +kernel
theorem dL_law_540 : decode cL_law 540 = .ok (.iconst 2, 1) := by decide +kernel
theorem dL_law_541 : decode cL_law 541 = .ok (.iadd, 1) := by decide +kernel
theorem dL_law_542 : decode cL_law 542 = .ok (.iaload, 1) := by decide +kernel
theorem dL_law_543 : decode cL_law 543 = .ok (.ifCond .eq 7, 3) := by decide +kernel
theorem dL_law_546 : decode cL_law 546 = .ok (.iconst 1, 1) := by decide +kernel
theorem dL_law_547 : decode cL_law 547 = .ok (.goto 4, 3) := by decide +kernel
theorem dL_law_550 : decode cL_law 550 = .ok (.iconst 0, 1) := by decide +kernel
theorem dL_law_551 : decode cL_law 551 = .ok (.aload 4, 2) := by decide +kernel
theorem dL_law_553 : decode cL_law 553 = .ok (.invokestatic 83, 3) := by decide +kernel
theorem dL_law_556 : decode cL_law 556 = .ok (.istore 6, 2) := by decide +kernel
theorem dL_law_558 : decode cL_law 558 = .ok (.aload_n 2, 1) := by decide +kernel
theorem dL_law_559 : decode cL_law 559 = .ok (.aload_n 0, 1) := by decide +kernel
theorem dL_law_560 : decode cL_law 560 = .ok (.iload 5, 2) := by decide +kernel
theorem dL_law_562 : decode cL_law 562 = .ok (.iconst 1, 1) := by decide +kernel
theorem dL_law_563 : decode cL_law 563 = .ok (.iadd, 1) := by decide +kernel
theorem dL_law_564 : decode cL_law 564 = .ok (.iaload, 1) := by decide +kernel
theorem dL_law_565 : decode cL_law 565 = .ok (.aload_n 0, 1) := by decide +kernel
theorem dL_law_566 : decode cL_law 566 = .ok (.iload 5, 2) := by decide +kernel
theorem dL_law_568 : decode cL_law 568 = .ok (.iconst 2, 1) := by decide +kernel
theorem dL_law_569 : decode cL_law 569 = .ok (.iadd, 1) := by decide +kernel
theorem dL_law_570 : decode cL_law 570 = .ok (.iaload, 1) := by decide +kernel
theorem dL_law_571 : decode cL_law 571 = .ok (.ifCond .eq 7, 3) := by decide +kernel
theorem dL_law_574 : decode cL_law 574 = .ok (.iconst 1, 1) := by decide +kernel
theorem dL_law_575 : decode cL_law 575 = .ok (.goto 4, 3) := by decide +kernel
theorem dL_law_578 : decode cL_law 578 = .ok (.iconst 0, 1) := by decide +kernel
theorem dL_law_579 : decode cL_law 579 = .ok (.invokevirtual 86, 3) := by decide +kernel
theorem dL_law_582 : decode cL_law 582 = .ok (.dstore 7, 2) := by decide +kernel
theorem dL_law_584 : decode cL_law 584 = .ok (.aload_n 2, 1) := by decide +kernel
theorem dL_law_585 : decode cL_law 585 = .ok (.invokevirtual 57, 3) := by decide +kernel
theorem dL_law_588 : decode cL_law 588 = .ok (.iload 6, 2) := by decide +kernel
theorem dL_law_590 : decode cL_law 590 = .ok (.if_icmp .eq 5, 3) := by decide +kernel
theorem dL_law_593 : decode cL_law 593 = .ok (.iconst 0, 1) := by decide +kernel
theorem dL_law_594 : decode cL_law 594 = .ok (.ireturn, 1) := by decide +kernel
theorem dL_law_595 : decode cL_law 595 = .ok (.iload 6, 2) := by decide +kernel
theorem dL_law_597 : decode cL_law 597 = .ok (.ifCond .ne 35, 3) := by decide +kernel
theorem dL_law_600 : decode cL_law 600 = .ok (.aload 4, 2) := by decide +kernel
theorem dL_law_602 : decode cL_law 602 = .ok (.iconst 0, 1) := by decide +kernel
theorem dL_law_603 : decode cL_law 603 = .ok (.daload, 1) := by decide +kernel
theorem dL_law_604 : decode cL_law 604 = .ok (.dload 7, 2) := by decide +kernel
theorem dL_law_606 : decode cL_law 606 = .ok (.dcmp .l, 1) := by decide +kernel
theorem dL_law_607 : decode cL_law 607 = .ok (.ifCond .eq 25, 3) := by decide +kernel
theorem dL_law_610 : decode cL_law 610 = .ok (.aload 4, 2) := by decide +kernel
theorem dL_law_612 : decode cL_law 612 = .ok (.iconst 0, 1) := by decide +kernel
theorem dL_law_613 : decode cL_law 613 = .ok (.daload, 1) := by decide +kernel
theorem dL_law_614 : decode cL_law 614 = .ok (.aload 4, 2) := by decide +kernel
theorem dL_law_616 : decode cL_law 616 = .ok (.iconst 0, 1) := by decide +kernel
theorem dL_law_617 : decode cL_law 617 = .ok (.daload, 1) := by decide +kernel
theorem dL_law_618 : decode cL_law 618 = .ok (.dcmp .l, 1) := by decide +kernel
theorem dL_law_619 : decode cL_law 619 = .ok (.ifCond .eq 11, 3) := by decide +kernel
theorem dL_law_622 : decode cL_law 622 = .ok (.dload 7, 2) := by decide +kernel
theorem dL_law_624 : decode cL_law 624 = .ok (.dload 7, 2) := by decide +kernel
theorem dL_law_626 : decode cL_law 626 = .ok (.dcmp .l, 1) := by decide +kernel
theorem dL_law_627 : decode cL_law 627 = .ok (.ifCond .ne 5, 3) := by decide +kernel
theorem dL_law_630 : decode cL_law 630 = .ok (.iconst 0, 1) := by decide +kernel
theorem dL_law_631 : decode cL_law 631 = .ok (.ireturn, 1) := by decide +kernel
theorem dL_law_632 : decode cL_law 632 = .ok (.goto 169, 3) := by decide +kernel
theorem dL_law_635 : decode cL_law 635 = .ok (.aload_n 1, 1) := by decide +kernel
theorem dL_law_636 : decode cL_law 636 = .ok (.aload_n 0, 1) := by decide +kernel
theorem dL_law_637 : decode cL_law 637 = .ok (.iload 5, 2) := by decide +kernel
theorem dL_law_639 : decode cL_law 639 = .ok (.iconst 1, 1) := by decide +kernel
theorem dL_law_640 : decode cL_law 640 = .ok (.iadd, 1) := by decide +kernel
theorem dL_law_641 : decode cL_law 641 = .ok (.iaload, 1) := by decide +kernel
theorem dL_law_642 : decode cL_law 642 = .ok (.ifCond .eq 7, 3) := by decide +kernel
theorem dL_law_645 : decode cL_law 645 = .ok (.iconst 1, 1) := by decide +kernel
theorem dL_law_646 : decode cL_law 646 = .ok (.goto 4, 3) := by decide +kernel
theorem dL_law_649 : decode cL_law 649 = .ok (.iconst 0, 1) := by decide +kernel
theorem dL_law_650 : decode cL_law 650 = .ok (.invokevirtual 87, 3) := by decide +kernel
theorem dL_law_653 : decode cL_law 653 = .ok (.dstore 6, 2) := by decide +kernel
theorem dL_law_655 : decode cL_law 655 = .ok (.aload_n 2, 1) := by decide +kernel
theorem dL_law_656 : decode cL_law 656 = .ok (.aload_n 0, 1) := by decide +kernel
theorem dL_law_657 : decode cL_law 657 = .ok (.iload 5, 2) := by decide +kernel
theorem dL_law_659 : decode cL_law 659 = .ok (.iconst 1, 1) := by decide +kernel
theorem dL_law_660 : decode cL_law 660 = .ok (.iadd, 1) := by decide +kernel
theorem dL_law_661 : decode cL_law 661 = .ok (.iaload, 1) := by decide +kernel
theorem dL_law_662 : decode cL_law 662 = .ok (.ifCond .eq 7, 3) := by decide +kernel
theorem dL_law_665 : decode cL_law 665 = .ok (.iconst 1, 1) := by decide +kernel
theorem dL_law_666 : decode cL_law 666 = .ok (.goto 4, 3) := by decide +kernel
theorem dL_law_669 : decode cL_law 669 = .ok (.iconst 0, 1) := by decide +kernel
theorem dL_law_670 : decode cL_law 670 = .ok (.invokevirtual 91, 3) := by decide +kernel
theorem dL_law_673 : decode cL_law 673 = .ok (.dstore 8, 2) := by decide +kernel
theorem dL_law_675 : decode cL_law 675 = .ok (.dload 6, 2) := by decide +kernel
theorem dL_law_677 : decode cL_law 677 = .ok (.dload 8, 2) := by decide +kernel
theorem dL_law_679 : decode cL_law 679 = .ok (.dcmp .l, 1) := by decide +kernel
theorem dL_law_680 : decode cL_law 680 = .ok (.ifCond .eq 21, 3) := by decide +kernel
theorem dL_law_683 : decode cL_law 683 = .ok (.dload 6, 2) := by decide +kernel
theorem dL_law_685 : decode cL_law 685 = .ok (.dload 6, 2) := by decide +kernel
theorem dL_law_687 : decode cL_law 687 = .ok (.dcmp .l, 1) := by decide +kernel
theorem dL_law_688 : decode cL_law 688 = .ok (.ifCond .eq 11, 3) := by decide +kernel
theorem dL_law_691 : decode cL_law 691 = .ok (.dload 8, 2) := by decide +kernel
theorem dL_law_693 : decode cL_law 693 = .ok (.dload 8, 2) := by decide +kernel
theorem dL_law_695 : decode cL_law 695 = .ok (.dcmp .l, 1) := by decide +kernel
theorem dL_law_696 : decode cL_law 696 = .ok (.ifCond .ne 5, 3) := by decide +kernel
theorem dL_law_699 : decode cL_law 699 = .ok (.iconst 0, 1) := by decide +kernel
theorem dL_law_700 : decode cL_law 700 = .ok (.ireturn, 1) := by decide +kernel
theorem dL_law_701 : decode cL_law 701 = .ok (.goto 100, 3) := by decide +kernel
theorem dL_law_704 : decode cL_law 704 = .ok (.aload_n 1, 1) := by decide +kernel
theorem dL_law_705 : decode cL_law 705 = .ok (.invokevirtual 92, 3) := by decide +kernel
theorem dL_law_708 : decode cL_law 708 = .ok (.dstore 6, 2) := by decide +kernel
theorem dL_law_710 : decode cL_law 710 = .ok (.aload_n 2, 1) := by decide +kernel
theorem dL_law_711 : decode cL_law 711 = .ok (.invokevirtual 96, 3) := by decide +kernel
theorem dL_law_714 : decode cL_law 714 = .ok (.dstore 8, 2) := by decide +kernel
theorem dL_law_716 : decode cL_law 716 = .ok (.dload 6, 2) := by decide +kernel
theorem dL_law_718 : decode cL_law 718 = .ok (.dload 8, 2) := by decide +kernel
theorem dL_law_720 : decode cL_law 720 = .ok (.dcmp .l, 1) := by decide +kernel
theorem dL_law_721 : decode cL_law 721 = .ok (.ifCond .eq 21, 3) := by decide +kernel
theorem dL_law_724 : decode cL_law 724 = .ok (.dload 6, 2) := by decide +kernel
theorem dL_law_726 : decode cL_law 726 = .ok (.dload 6, 2) := by decide +kernel
theorem dL_law_728 : decode cL_law 728 = .ok (.dcmp .l, 1) := by decide +kernel
theorem dL_law_729 : decode cL_law 729 = .ok (.ifCond .eq 11, 3) := by decide +kernel
theorem dL_law_732 : decode cL_law 732 = .ok (.dload 8, 2) := by decide +kernel
theorem dL_law_734 : decode cL_law 734 = .ok (.dload 8, 2) := by decide +kernel
theorem dL_law_736 : decode cL_law 736 = .ok (.dcmp .l, 1) := by decide +kernel
theorem dL_law_737 : decode cL_law 737 = .ok (.ifCond .ne 5, 3) := by decide +kernel
theorem dL_law_740 : decode cL_law 740 = .ok (.iconst 0, 1) := by decide +kernel
theorem dL_law_741 : decode cL_law 741 = .ok (.ireturn, 1) := by decide +kernel
theorem dL_law_742 : decode cL_law 742 = .ok (.goto 59, 3) := by decide +kernel
theorem dL_law_745 : decode cL_law 745 = .ok (.aload_n 1, 1) := by decide +kernel
theorem dL_law_746 : decode cL_law 746 = .ok (.aload_n 0, 1) := by decide +kernel
theorem dL_law_747 : decode cL_law 747 = .ok (.iload 5, 2) := by decide +kernel
theorem dL_law_749 : decode cL_law 749 = .ok (.iconst 1, 1) := by decide +kernel
theorem dL_law_750 : decode cL_law 750 = .ok (.iadd, 1) := by decide +kernel
theorem dL_law_751 : decode cL_law 751 = .ok (.iaload, 1) := by decide +kernel
theorem dL_law_752 : decode cL_law 752 = .ok (.aload_n 3, 1) := by decide +kernel
theorem dL_law_753 : decode cL_law 753 = .ok (.invokestatic 97, 3) := by decide +kernel
theorem dL_law_756 : decode cL_law 756 = .ok (.istore 6, 2) := by decide +kernel
theorem dL_law_758 : decode cL_law 758 = .ok (.aload_n 2, 1) := by decide +kernel
theorem dL_law_759 : decode cL_law 759 = .ok (.aload_n 0, 1) := by decide +kernel
theorem dL_law_760 : decode cL_law 760 = .ok (.iload 5, 2) := by decide +kernel
theorem dL_law_762 : decode cL_law 762 = .ok (.iconst 1, 1) := by decide +kernel
theorem dL_law_763 : decode cL_law 763 = .ok (.iadd, 1) := by decide +kernel
theorem dL_law_764 : decode cL_law 764 = .ok (.iaload, 1) := by decide +kernel
theorem dL_law_765 : decode cL_law 765 = .ok (.invokevirtual 100, 3) := by decide +kernel
theorem dL_law_768 : decode cL_law 768 = .ok (.istore 7, 2) := by decide +kernel
theorem dL_law_770 : decode cL_law 770 = .ok (.aload_n 2, 1) := by decide +kernel
theorem dL_law_771 : decode cL_law 771 = .ok (.invokevirtual 57, 3) := by decide +kernel
theorem dL_law_774 : decode cL_law 774 = .ok (.iload 6, 2) := by decide +kernel
theorem dL_law_776 : decode cL_law 776 = .ok (.if_icmp .eq 5, 3) := by decide +kernel
theorem dL_law_779 : decode cL_law 779 = .ok (.iconst 0, 1) := by decide +kernel
theorem dL_law_780 : decode cL_law 780 = .ok (.ireturn, 1) := by decide +kernel
theorem dL_law_781 : decode cL_law 781 = .ok (.iload 6, 2) := by decide +kernel
theorem dL_law_783 : decode cL_law 783 = .ok (.ifCond .ne 15, 3) := by decide +kernel
theorem dL_law_786 : decode cL_law 786 = .ok (.aload_n 3, 1) := by decide +kernel
theorem dL_law_787 : decode cL_law 787 = .ok (.iconst 0, 1) := by decide +kernel
theorem dL_law_788 : decode cL_law 788 = .ok (.laload, 1) := by decide +kernel
theorem dL_law_789 : decode cL_law 789 = .ok (.iload 7, 2) := by decide +kernel
theorem dL_law_791 : decode cL_law 791 = .ok (.i2l, 1) := by decide +kernel
theorem dL_law_792 : decode cL_law 792 = .ok (.lcmp, 1) := by decide +kernel
theorem dL_law_793 : decode cL_law 793 = .ok (.ifCond .eq 5, 3) := by decide +kernel
theorem dL_law_796 : decode cL_law 796 = .ok (.iconst 0, 1) := by decide +kernel
theorem dL_law_797 : decode cL_law 797 = .ok (.ireturn, 1) := by decide +kernel
theorem dL_law_798 : decode cL_law 798 = .ok (.goto 3, 3) := by decide +kernel
theorem dL_law_801 : decode cL_law 801 = .ok (.iinc 5 5, 3) := by decide +kernel
theorem dL_law_804 : decode cL_law 804 = .ok (.goto (-776), 3) := by decide +kernel
theorem dL_law_807 : decode cL_law 807 = .ok (.iconst 1, 1) := by decide +kernel
theorem dL_law_808 : decode cL_law 808 = .ok (.ireturn, 1) := by decide +kernel
abbrev vwCl : List vw_C := [(RX0, TX0, 6), (RX1, TX1, 3), (RX2, TX2, 4), (RX3, TX3, 11), (RX4, TX4, 20)]
end
section
/-! fused rows: ints that are nI of a Nat, doubles compared, the standard contract of a method that makes nothing -/
def fz_lt (x y : UInt64) : Bool := FP.dcmp x y == some .lt
def fz_le (x y : UInt64) : Bool := FP.dcmp x y == some .lt || FP.dcmp x y == some .eq
def fz_eq (x y : UInt64) : Bool := FP.dcmp x y == some .eq
theorem fz_swap (x y : UInt64) : FP.dcmp y x = (FP.dcmp x y).map Ordering.swap := FP.Core.dcmp_swap x y
section FZ
variable {p : Program} {l : Launch} {e : Env} {R : Room} {s : State} {m : MethodId} {args : Array Value} {below : List Frame} {meth : Method} {c : Code} {H : Heap} {locs : List Loc} {cells slots : Nat} {Q : State → Prop}
variable {cc : ByteArray} {pc : Nat} {ls : Array Slot} {rest : List Value}

theorem fz_iaddN (hx : p.tables.exec = Jvm.exec) (hb : c.code = cc) {a b : Nat} (hdg : decode cc pc = .ok (.iadd, 1)) (k : W p l e R s m args below meth c H locs cells slots Q (F0 m (pc + 1) ls (.int (nI (a + b)) :: rest))) : W p l e R s m args below meth c H locs cells slots Q (F0 m pc ls (.int (nI b) :: .int (nI a) :: rest)) := lv_iadd hx hb hdg (by rw [nI_add]; exact k)
theorem fz_imulN (hx : p.tables.exec = Jvm.exec) (hb : c.code = cc) {a b : Nat} (hdg : decode cc pc = .ok (.imul, 1)) (k : W p l e R s m args below meth c H locs cells slots Q (F0 m (pc + 1) ls (.int (nI (a * b)) :: rest))) : W p l e R s m args below meth c H locs cells slots Q (F0 m pc ls (.int (nI b) :: .int (nI a) :: rest)) := lv_imul hx hb hdg (by rw [pk_mul]; exact k)
theorem fz_isubN (hx : p.tables.exec = Jvm.exec) (hb : c.code = cc) {a b : Nat} (hba : b ≤ a) (hdg : decode cc pc = .ok (.isub, 1)) (k : W p l e R s m args below meth c H locs cells slots Q (F0 m (pc + 1) ls (.int (nI (a - b)) :: rest))) : W p l e R s m args below meth c H locs cells slots Q (F0 m pc ls (.int (nI b) :: .int (nI a) :: rest)) := lv_isub hx hb hdg (by rw [pk_sub hba]; exact k)
theorem fz_topn {a b : Nat} (hab : a = b) (k : W p l e R s m args below meth c H locs cells slots Q (F0 m pc ls (.int (nI b) :: rest))) : W p l e R s m args below meth c H locs cells slots Q (F0 m pc ls (.int (nI a) :: rest)) := by rw [hab]; exact k
theorem fz_icmp_geN (hx : p.tables.exec = Jvm.exec) (hb : c.code = cc) {a b : Nat} (h1 : a < 2 ^ 31) (h2 : b < 2 ^ 31) {off : Int} {tgt : Nat} (hdg : decode cc pc = .ok (.if_icmp .ge off, 3)) (ht : (pc : Int) + off = (tgt : Int)) (kt : b ≤ a → W p l e R s m args below meth c H locs cells slots Q (F0 m tgt ls rest)) (kf : a < b → W p l e R s m args below meth c H locs cells slots Q (F0 m (pc + 3) ls rest)) : W p l e R s m args below meth c H locs cells slots Q (F0 m pc ls (.int (nI b) :: .int (nI a) :: rest)) := lv_icmp_ge hx hb hdg ht (fun h => kt ((nI_leI h2 h1).mp h)) (fun h => kf (Nat.lt_of_not_le (fun q => h ((nI_leI h2 h1).mpr q))))
theorem fz_icmp_gtN (hx : p.tables.exec = Jvm.exec) (hb : c.code = cc) {a b : Nat} (h1 : a < 2 ^ 31) (h2 : b < 2 ^ 31) {off : Int} {tgt : Nat} (hdg : decode cc pc = .ok (.if_icmp .gt off, 3)) (ht : (pc : Int) + off = (tgt : Int)) (kt : b < a → W p l e R s m args below meth c H locs cells slots Q (F0 m tgt ls rest)) (kf : a ≤ b → W p l e R s m args below meth c H locs cells slots Q (F0 m (pc + 3) ls rest)) : W p l e R s m args below meth c H locs cells slots Q (F0 m pc ls (.int (nI b) :: .int (nI a) :: rest)) := lv_icmp_gt hx hb hdg ht (fun h => kt ((nI_ltI h2 h1).mp h)) (fun h => kf (Nat.le_of_not_lt (fun q => h ((nI_ltI h2 h1).mpr q))))
theorem fz_icmp_leN (hx : p.tables.exec = Jvm.exec) (hb : c.code = cc) {a b : Nat} (h1 : a < 2 ^ 31) (h2 : b < 2 ^ 31) {off : Int} {tgt : Nat} (hdg : decode cc pc = .ok (.if_icmp .le off, 3)) (ht : (pc : Int) + off = (tgt : Int)) (kt : a ≤ b → W p l e R s m args below meth c H locs cells slots Q (F0 m tgt ls rest)) (kf : b < a → W p l e R s m args below meth c H locs cells slots Q (F0 m (pc + 3) ls rest)) : W p l e R s m args below meth c H locs cells slots Q (F0 m pc ls (.int (nI b) :: .int (nI a) :: rest)) := lv_icmp_le hx hb hdg ht (fun h => kt ((nI_leI h1 h2).mp h)) (fun h => kf (Nat.lt_of_not_le (fun q => h ((nI_leI h1 h2).mpr q))))
theorem fz_icmp_ltN (hx : p.tables.exec = Jvm.exec) (hb : c.code = cc) {a b : Nat} (h1 : a < 2 ^ 31) (h2 : b < 2 ^ 31) {off : Int} {tgt : Nat} (hdg : decode cc pc = .ok (.if_icmp .lt off, 3)) (ht : (pc : Int) + off = (tgt : Int)) (kt : a < b → W p l e R s m args below meth c H locs cells slots Q (F0 m tgt ls rest)) (kf : b ≤ a → W p l e R s m args below meth c H locs cells slots Q (F0 m (pc + 3) ls rest)) : W p l e R s m args below meth c H locs cells slots Q (F0 m pc ls (.int (nI b) :: .int (nI a) :: rest)) := lv_icmp_lt hx hb hdg ht (fun h => kt ((nI_ltI h1 h2).mp h)) (fun h => kf (Nat.le_of_not_lt (fun q => h ((nI_ltI h1 h2).mpr q))))
theorem fz_icmp_eqN (hx : p.tables.exec = Jvm.exec) (hb : c.code = cc) {a b : Nat} (h1 : a < 2 ^ 31) (h2 : b < 2 ^ 31) {off : Int} {tgt : Nat} (hdg : decode cc pc = .ok (.if_icmp .eq off, 3)) (ht : (pc : Int) + off = (tgt : Int)) (kt : a = b → W p l e R s m args below meth c H locs cells slots Q (F0 m tgt ls rest)) (kf : a ≠ b → W p l e R s m args below meth c H locs cells slots Q (F0 m (pc + 3) ls rest)) : W p l e R s m args below meth c H locs cells slots Q (F0 m pc ls (.int (nI b) :: .int (nI a) :: rest)) := lv_icmp_eq hx hb hdg ht (fun h => kt ((nI_eq h1 h2).mp h)) (fun h => kf (fun q => h ((nI_eq h1 h2).mpr q)))
theorem fz_icmp_neN (hx : p.tables.exec = Jvm.exec) (hb : c.code = cc) {a b : Nat} (h1 : a < 2 ^ 31) (h2 : b < 2 ^ 31) {off : Int} {tgt : Nat} (hdg : decode cc pc = .ok (.if_icmp .ne off, 3)) (ht : (pc : Int) + off = (tgt : Int)) (kt : a ≠ b → W p l e R s m args below meth c H locs cells slots Q (F0 m tgt ls rest)) (kf : a = b → W p l e R s m args below meth c H locs cells slots Q (F0 m (pc + 3) ls rest)) : W p l e R s m args below meth c H locs cells slots Q (F0 m pc ls (.int (nI b) :: .int (nI a) :: rest)) := lv_icmp_ne hx hb hdg ht (fun h => kt (fun q => h ((nI_eq h1 h2).mpr q))) (fun h => kf ((nI_eq h1 h2).mp h))
theorem fz_dg_ge (hx : p.tables.exec = Jvm.exec) (hb : c.code = cc) {x y : UInt64} {off : Int} {tgt : Nat} (h1 : decode cc pc = .ok (.dcmp .g, 1)) (h2 : decode cc (pc + 1) = .ok (.ifCond .ge off, 3)) (ht : ((pc + 1 : Nat) : Int) + off = (tgt : Int)) (kt : fz_lt x y = false → W p l e R s m args below meth c H locs cells slots Q (F0 m tgt ls rest)) (kf : fz_lt x y = true → W p l e R s m args below meth c H locs cells slots Q (F0 m (pc + 1 + 3) ls rest)) : W p l e R s m args below meth c H locs cells slots Q (F0 m pc ls (.double y :: .double x :: rest)) := by
  refine lv_dcmp hx hb h1 (lv_if_ge hx hb h2 ht (fun h => kt ?_) (fun h => kf ?_))
  · revert h; unfold fz_lt; generalize FP.dcmp x y = o; rcases o with _ | (_ | _ | _) <;> decide
  · revert h; unfold fz_lt; generalize FP.dcmp x y = o; rcases o with _ | (_ | _ | _) <;> decide
theorem fz_dg_lt (hx : p.tables.exec = Jvm.exec) (hb : c.code = cc) {x y : UInt64} {off : Int} {tgt : Nat} (h1 : decode cc pc = .ok (.dcmp .g, 1)) (h2 : decode cc (pc + 1) = .ok (.ifCond .lt off, 3)) (ht : ((pc + 1 : Nat) : Int) + off = (tgt : Int)) (kt : fz_lt x y = true → W p l e R s m args below meth c H locs cells slots Q (F0 m tgt ls rest)) (kf : fz_lt x y = false → W p l e R s m args below meth c H locs cells slots Q (F0 m (pc + 1 + 3) ls rest)) : W p l e R s m args below meth c H locs cells slots Q (F0 m pc ls (.double y :: .double x :: rest)) := by
  refine lv_dcmp hx hb h1 (lv_if_lt hx hb h2 ht (fun h => kt ?_) (fun h => kf ?_))
  · revert h; unfold fz_lt; generalize FP.dcmp x y = o; rcases o with _ | (_ | _ | _) <;> decide
  · revert h; unfold fz_lt; generalize FP.dcmp x y = o; rcases o with _ | (_ | _ | _) <;> decide
theorem fz_dg_gt (hx : p.tables.exec = Jvm.exec) (hb : c.code = cc) {x y : UInt64} {off : Int} {tgt : Nat} (h1 : decode cc pc = .ok (.dcmp .g, 1)) (h2 : decode cc (pc + 1) = .ok (.ifCond .gt off, 3)) (ht : ((pc + 1 : Nat) : Int) + off = (tgt : Int)) (kt : fz_le x y = false → W p l e R s m args below meth c H locs cells slots Q (F0 m tgt ls rest)) (kf : fz_le x y = true → W p l e R s m args below meth c H locs cells slots Q (F0 m (pc + 1 + 3) ls rest)) : W p l e R s m args below meth c H locs cells slots Q (F0 m pc ls (.double y :: .double x :: rest)) := by
  refine lv_dcmp hx hb h1 (lv_if_gt hx hb h2 ht (fun h => kt ?_) (fun h => kf ?_))
  · revert h; unfold fz_le; generalize FP.dcmp x y = o; rcases o with _ | (_ | _ | _) <;> decide
  · revert h; unfold fz_le; generalize FP.dcmp x y = o; rcases o with _ | (_ | _ | _) <;> decide
theorem fz_dg_le (hx : p.tables.exec = Jvm.exec) (hb : c.code = cc) {x y : UInt64} {off : Int} {tgt : Nat} (h1 : decode cc pc = .ok (.dcmp .g, 1)) (h2 : decode cc (pc + 1) = .ok (.ifCond .le off, 3)) (ht : ((pc + 1 : Nat) : Int) + off = (tgt : Int)) (kt : fz_le x y = true → W p l e R s m args below meth c H locs cells slots Q (F0 m tgt ls rest)) (kf : fz_le x y = false → W p l e R s m args below meth c H locs cells slots Q (F0 m (pc + 1 + 3) ls rest)) : W p l e R s m args below meth c H locs cells slots Q (F0 m pc ls (.double y :: .double x :: rest)) := by
  refine lv_dcmp hx hb h1 (lv_if_le hx hb h2 ht (fun h => kt ?_) (fun h => kf ?_))
  · revert h; unfold fz_le; generalize FP.dcmp x y = o; rcases o with _ | (_ | _ | _) <;> decide
  · revert h; unfold fz_le; generalize FP.dcmp x y = o; rcases o with _ | (_ | _ | _) <;> decide
theorem fz_dl_le (hx : p.tables.exec = Jvm.exec) (hb : c.code = cc) {x y : UInt64} {off : Int} {tgt : Nat} (h1 : decode cc pc = .ok (.dcmp .l, 1)) (h2 : decode cc (pc + 1) = .ok (.ifCond .le off, 3)) (ht : ((pc + 1 : Nat) : Int) + off = (tgt : Int)) (kt : fz_lt y x = false → W p l e R s m args below meth c H locs cells slots Q (F0 m tgt ls rest)) (kf : fz_lt y x = true → W p l e R s m args below meth c H locs cells slots Q (F0 m (pc + 1 + 3) ls rest)) : W p l e R s m args below meth c H locs cells slots Q (F0 m pc ls (.double y :: .double x :: rest)) := by
  refine lv_dcmp hx hb h1 (lv_if_le hx hb h2 ht (fun h => kt ?_) (fun h => kf ?_))
  · revert h; unfold fz_lt; rw [fz_swap x y]; generalize FP.dcmp x y = o; rcases o with _ | (_ | _ | _) <;> decide
  · revert h; unfold fz_lt; rw [fz_swap x y]; generalize FP.dcmp x y = o; rcases o with _ | (_ | _ | _) <;> decide
theorem fz_dl_gt (hx : p.tables.exec = Jvm.exec) (hb : c.code = cc) {x y : UInt64} {off : Int} {tgt : Nat} (h1 : decode cc pc = .ok (.dcmp .l, 1)) (h2 : decode cc (pc + 1) = .ok (.ifCond .gt off, 3)) (ht : ((pc + 1 : Nat) : Int) + off = (tgt : Int)) (kt : fz_lt y x = true → W p l e R s m args below meth c H locs cells slots Q (F0 m tgt ls rest)) (kf : fz_lt y x = false → W p l e R s m args below meth c H locs cells slots Q (F0 m (pc + 1 + 3) ls rest)) : W p l e R s m args below meth c H locs cells slots Q (F0 m pc ls (.double y :: .double x :: rest)) := by
  refine lv_dcmp hx hb h1 (lv_if_gt hx hb h2 ht (fun h => kt ?_) (fun h => kf ?_))
  · revert h; unfold fz_lt; rw [fz_swap x y]; generalize FP.dcmp x y = o; rcases o with _ | (_ | _ | _) <;> decide
  · revert h; unfold fz_lt; rw [fz_swap x y]; generalize FP.dcmp x y = o; rcases o with _ | (_ | _ | _) <;> decide
theorem fz_dl_lt (hx : p.tables.exec = Jvm.exec) (hb : c.code = cc) {x y : UInt64} {off : Int} {tgt : Nat} (h1 : decode cc pc = .ok (.dcmp .l, 1)) (h2 : decode cc (pc + 1) = .ok (.ifCond .lt off, 3)) (ht : ((pc + 1 : Nat) : Int) + off = (tgt : Int)) (kt : fz_le y x = false → W p l e R s m args below meth c H locs cells slots Q (F0 m tgt ls rest)) (kf : fz_le y x = true → W p l e R s m args below meth c H locs cells slots Q (F0 m (pc + 1 + 3) ls rest)) : W p l e R s m args below meth c H locs cells slots Q (F0 m pc ls (.double y :: .double x :: rest)) := by
  refine lv_dcmp hx hb h1 (lv_if_lt hx hb h2 ht (fun h => kt ?_) (fun h => kf ?_))
  · revert h; unfold fz_le; rw [fz_swap x y]; generalize FP.dcmp x y = o; rcases o with _ | (_ | _ | _) <;> decide
  · revert h; unfold fz_le; rw [fz_swap x y]; generalize FP.dcmp x y = o; rcases o with _ | (_ | _ | _) <;> decide
theorem fz_dl_ge (hx : p.tables.exec = Jvm.exec) (hb : c.code = cc) {x y : UInt64} {off : Int} {tgt : Nat} (h1 : decode cc pc = .ok (.dcmp .l, 1)) (h2 : decode cc (pc + 1) = .ok (.ifCond .ge off, 3)) (ht : ((pc + 1 : Nat) : Int) + off = (tgt : Int)) (kt : fz_le y x = true → W p l e R s m args below meth c H locs cells slots Q (F0 m tgt ls rest)) (kf : fz_le y x = false → W p l e R s m args below meth c H locs cells slots Q (F0 m (pc + 1 + 3) ls rest)) : W p l e R s m args below meth c H locs cells slots Q (F0 m pc ls (.double y :: .double x :: rest)) := by
  refine lv_dcmp hx hb h1 (lv_if_ge hx hb h2 ht (fun h => kt ?_) (fun h => kf ?_))
  · revert h; unfold fz_le; rw [fz_swap x y]; generalize FP.dcmp x y = o; rcases o with _ | (_ | _ | _) <;> decide
  · revert h; unfold fz_le; rw [fz_swap x y]; generalize FP.dcmp x y = o; rcases o with _ | (_ | _ | _) <;> decide
theorem fz_dl_eq (hx : p.tables.exec = Jvm.exec) (hb : c.code = cc) {x y : UInt64} {off : Int} {tgt : Nat} (h1 : decode cc pc = .ok (.dcmp .l, 1)) (h2 : decode cc (pc + 1) = .ok (.ifCond .eq off, 3)) (ht : ((pc + 1 : Nat) : Int) + off = (tgt : Int)) (kt : fz_eq x y = true → W p l e R s m args below meth c H locs cells slots Q (F0 m tgt ls rest)) (kf : fz_eq x y = false → W p l e R s m args below meth c H locs cells slots Q (F0 m (pc + 1 + 3) ls rest)) : W p l e R s m args below meth c H locs cells slots Q (F0 m pc ls (.double y :: .double x :: rest)) := by
  refine lv_dcmp hx hb h1 (lv_if_eq hx hb h2 ht (fun h => kt ?_) (fun h => kf ?_))
  · revert h; unfold fz_eq; generalize FP.dcmp x y = o; rcases o with _ | (_ | _ | _) <;> decide
  · revert h; unfold fz_eq; generalize FP.dcmp x y = o; rcases o with _ | (_ | _ | _) <;> decide
theorem fz_dl_ne (hx : p.tables.exec = Jvm.exec) (hb : c.code = cc) {x y : UInt64} {off : Int} {tgt : Nat} (h1 : decode cc pc = .ok (.dcmp .l, 1)) (h2 : decode cc (pc + 1) = .ok (.ifCond .ne off, 3)) (ht : ((pc + 1 : Nat) : Int) + off = (tgt : Int)) (kt : fz_eq x y = false → W p l e R s m args below meth c H locs cells slots Q (F0 m tgt ls rest)) (kf : fz_eq x y = true → W p l e R s m args below meth c H locs cells slots Q (F0 m (pc + 1 + 3) ls rest)) : W p l e R s m args below meth c H locs cells slots Q (F0 m pc ls (.double y :: .double x :: rest)) := by
  refine lv_dcmp hx hb h1 (lv_if_ne hx hb h2 ht (fun h => kt ?_) (fun h => kf ?_))
  · revert h; unfold fz_eq; generalize FP.dcmp x y = o; rcases o with _ | (_ | _ | _) <;> decide
  · revert h; unfold fz_eq; generalize FP.dcmp x y = o; rcases o with _ | (_ | _ | _) <;> decide
variable {D : va_G} {cl : List vw_C} {tys : List (ClassId × FieldType)} {ws : va_W} {a : Nat} {A : Nat → Prop} {H0 : Heap}
theorem fz_dald (hx : p.tables.exec = Jvm.exec) (hb : c.code = cc) (hK : va_K D cl tys s) (hP : va_P D cl ws H) (q0 t0 : Nat) {cA : ClassId} {n : Nat} {f : Nat → UInt64} (ha : ws[q0]? = some (a, .inl (cA, n, .inr (.inr (.inr (.inl f)))))) (ht : tys[t0]? = some (cA, .double)) {i : Nat} (hi : i < n) (hn : n < 2 ^ 31) (hdg : decode cc pc = .ok (.daload, 1)) (k : W p l e R s m args below meth c H locs cells slots Q (F0 m (pc + 1) ls (.double (f i) :: rest))) : W p l e R s m args below meth c H locs cells slots Q (F0 m pc ls (.int (nI i) :: .ref a :: rest)) := va_dald hx hb hK hP q0 t0 ha ht (vp_in_nI hi hn) hdg (by rw [nI_clamp (Nat.lt_trans hi hn)]; exact k)
theorem fz_dast (hx : p.tables.exec = Jvm.exec) (hb : c.code = cc) (hK : va_K D cl tys s) (hP : va_P D cl ws H) (hD : va_D A ws) (hS : va_S A H0 H locs) (q0 t0 : Nat) {cA : ClassId} {n : Nat} {f : Nat → UInt64} (ha : ws[q0]? = some (a, .inl (cA, n, .inr (.inr (.inr (.inl f)))))) (ht : tys[t0]? = some (cA, .double)) {i : Nat} {x : UInt64} (hi : i < n) (hn : n < 2 ^ 31) (hdg : decode cc pc = .ok (.dastore, 1)) (kk : ∀ (H1 : Heap) (locs1 : List Loc), va_P D cl (ws.set q0 (a, .inl (cA, n, .inr (.inr (.inr (.inl (vf_upd f i x))))))) H1 → va_D A (ws.set q0 (a, .inl (cA, n, .inr (.inr (.inr (.inl (vf_upd f i x))))))) → va_S A H0 H1 locs1 → W p l e R s m args below meth c H1 locs1 cells slots Q (F0 m (pc + 1) ls rest)) : W p l e R s m args below meth c H locs cells slots Q (F0 m pc ls (.double x :: .int (nI i) :: .ref a :: rest)) := va_dast hx hb hK hP hD hS q0 t0 ha ht (vp_in_nI hi hn) hdg (by rw [nI_clamp (Nat.lt_trans hi hn)]; exact kk)
end FZ
/-! nest words -/
def fz_NWq : List (String × Nat × MethodName) := [("FlowGrid$Row", 51, ⟨"FlowGrid", "speedOf", "(DD)D"⟩), ("FlowGrid$Row", 55, ⟨"FlowGrid", "absolute", "(D)D"⟩), ("FlowGrid$Row", 59, ⟨"FlowGrid", "root", "(D)D"⟩), ("FlowGrid$Row", 62, ⟨"FlowGrid", "greater", "(DD)D"⟩), ("FlowGrid$Row", 67, ⟨"FlowGrid", "lesser", "(DD)D"⟩), ("FlowGrid$State", 22, ⟨"FlowGrid", "speedOf", "(DD)D"⟩), ("FlowGrid$State", 28, ⟨"FlowGrid", "root", "(D)D"⟩), ("FlowGrid$State", 32, ⟨"FlowGrid", "absolute", "(D)D"⟩), ("FlowGrid$Faces", 85, ⟨"FlowGrid", "greater", "(DD)D"⟩), ("FlowGrid$Faces", 107, ⟨"FlowGrid", "lesser", "(DD)D"⟩), ("FlowGrid$Faces", 26, ⟨"FlowGrid$State", "<init>", "()V"⟩), ("FlowGrid", 11, ⟨"FlowGrid$Row", "<init>", "()V"⟩), ("FlowGrid", 21, ⟨"FlowGrid$Faces", "<init>", "()V"⟩)]
def fz_NW (U : State) : Prop := ∀ q ∈ fz_NWq, va_Nw (.methodLinkNest q.1 q.2.1 q.2.2 "FlowGrid") U
theorem fz_NW.warm {s U : State} (hW : s.WarmedH U.vm) (h : fz_NW s) : fz_NW U := fun q hq => va_Nw.warmM hW (h q hq)
theorem fz_NW.same {u U : State} (hv : u.vm = U.vm) (h : fz_NW u) : fz_NW U := fun q hq => va_Nw.same rfl hv (h q hq)
/-- the cells wi lie in the heap, apart; what the tables say; the nest words -/
def fz_I (D : va_G) (tys : List (ClassId × FieldType)) (wi : va_W) (sz : Nat) (U : State) : Prop := U.heap.size = sz ∧ va_P D vwCl wi U.heap ∧ va_K D vwCl tys U ∧ va_D (fun _ => True) wi ∧ fz_NW U
def fz_O (D : va_G) (tys : List (ClassId × FieldType)) (wo : va_W) (ov : Option Value) (A : Nat → Prop) : Array Value → State → Outcome → State → Prop := fun _ st oc t => oc = .returned ov ∧ va_P D vwCl wo t.heap ∧ va_K D vwCl tys t ∧ va_D A wo ∧ va_F A st t
/-- THE STANDARD CONTRACT: from the cells wi to the cells wo, the answer ov; nothing is made -/
def fz_C (l : Launch) (D : va_G) (tys : List (ClassId × FieldType)) (y : MethodName) (wsY : List Cond) (rm : Room) (av : List Value) (wi wo : va_W) (ov : Option Value) : Prop := ∀ sz : Nat, Met l y wsY rm (va_Pc av (fz_I D tys wi sz)) (fz_O D tys wo ov (va_A wi sz)) 0 0 (va_A wi sz)
theorem fz_start {l : Launch} {D : va_G} {tys : List (ClassId × FieldType)} {y : MethodName} {wsY ws' : List Cond} {rm : Room} {av : List Value} {wi wo : va_W} {ov : Option Value} {cc : ByteArray} {maxL : Nat} {ret : Option FieldType} (hy : plainName y.cls = true) (hw : wsY = Cond.code y cc maxL ret :: ws') (hL : (lg_sl av).length ≤ maxL)
    (body : ∀ (p : Program) (e : Env) (s : State) (m : MethodId) (below : List Frame) (meth : Method) (c : Code) (A : Nat → Prop), p.tables.exec = Jvm.exec → c.code = cc → meth.sig.returnType = ret → meth.locks = false → c.maxLocals = maxL → s.vm.findClass y.cls = some m.cls → (∀ w ∈ wsY, w.before av.toArray s = true) → va_K D vwCl tys s → (∀ q, s.heap.size ≤ q → A q) → fz_NW s → ∀ (H : Heap) (locs : List Loc), va_P D vwCl wi H → va_D A wi → va_S A s.heap H locs → ∀ ls : Array Slot, lv_has ls maxL (lv_args 0 av) → W p l e rm s m av.toArray below meth c H locs 0 0 (MQ below (fz_O D tys wo ov A) av.toArray s 0 0 A) (F0 m 0 ls [])) : fz_C l D tys y wsY rm av wi wo ov := by
  intro sz
  refine Met.ofW hy hw ?_
  intro p e s m args below meth c s₁ B hml hv
  obtain ⟨rfl, rfl, hP, hK, hD0, hNW⟩ := hv
  have hl := lv_entry av (n := maxL) hL
  rw [lg_entry_eq]
  exact body p e s m below meth c _ B.exec B.bytes B.returns B.notSynchronized hml (findClass_of_methodNamed B.named) (atoms_spec (ws := wsY) B.pre) hK (fun q h => Or.inr h) hNW _ _ hP (hD0.self (sz := s.heap.size)) va_S.rf _ hl
theorem fz_fm {α β : Type} {f : α → Option β} {is : List α} {ws : List β} (h : is.map f = ws.map some) : is.filterMap f = ws := by
  have h2 : is.filterMap f = (is.map f).filterMap id := by rw [List.filterMap_map]; rfl
  rw [h2, h, List.filterMap_map]
  exact List.filterMap_some
section FZC

variable {p : Program} {l : Launch} {e : Env} {R : Room} {s : State} {m : MethodId} {args : Array Value} {below : List Frame} {meth : Method} {c : Code} {H : Heap} {locs : List Loc} {cells slots : Nat} {Q : State → Prop}
variable {cc : ByteArray} {pc : Nat} {ls : Array Slot} {rest : List Value}

variable {D : va_G} {tys : List (ClassId × FieldType)} {ws wi wo wr ws' : va_W} {ov : Option Value} {A : Nat → Prop} {H0 : Heap}
theorem fz_dret {v : UInt64} (hx : p.tables.exec = Jvm.exec) (hb : c.code = cc) (hr : meth.sig.returnType = some .double) (hlocks : meth.locks = false) (hov : ov = some (.double v)) (hP : va_P D vwCl wo H) (hK : va_K D vwCl tys s) (hD : va_D A wo) (hS : va_S A s.heap H locs) (hdg : decode cc pc = .ok (.dreturn, 1)) : W p l e R s m args below meth c H locs 0 0 (MQ below (fz_O D tys wo ov A) args s 0 0 A) (F0 m pc ls [.double v]) := W.dret hx hb hr (fun t ht hW => ⟨by rw [hov], by rw [ht]; exact hP, va_K.moved hW.alike hK, hD, hS.F ht⟩) hS.2.2 hdg hlocks
theorem fz_iret {v : Int32} (hx : p.tables.exec = Jvm.exec) (hb : c.code = cc) (hr : meth.sig.returnType = some .int) (hlocks : meth.locks = false) (hov : ov = some (.int v)) (hP : va_P D vwCl wo H) (hK : va_K D vwCl tys s) (hD : va_D A wo) (hS : va_S A s.heap H locs) (hdg : decode cc pc = .ok (.ireturn, 1)) : W p l e R s m args below meth c H locs 0 0 (MQ below (fz_O D tys wo ov A) args s 0 0 A) (F0 m pc ls [.int v]) := W.iret hx hb hr (fun t ht hW => ⟨by rw [hov], by rw [ht]; exact hP, va_K.moved hW.alike hK, hD, hS.F ht⟩) hS.2.2 hdg hlocks
theorem fz_zret {v : Int32} (hx : p.tables.exec = Jvm.exec) (hb : c.code = cc) (hr : meth.sig.returnType = some .boolean) (hlocks : meth.locks = false) (hn : narrow .boolean (.int v) = .int v) (hov : ov = some (.int v)) (hP : va_P D vwCl wo H) (hK : va_K D vwCl tys s) (hD : va_D A wo) (hS : va_S A s.heap H locs) (hdg : decode cc pc = .ok (.ireturn, 1)) : W p l e R s m args below meth c H locs 0 0 (MQ below (fz_O D tys wo ov A) args s 0 0 A) (F0 m pc ls [.int v]) := W.zret hx hb hr hn (fun t ht hW => ⟨by rw [hov], by rw [ht]; exact hP, va_K.moved hW.alike hK, hD, hS.F ht⟩) hS.2.2 hdg hlocks
theorem fz_vret (hx : p.tables.exec = Jvm.exec) (hb : c.code = cc) (hr : meth.sig.returnType = none) (hlocks : meth.locks = false) (hov : ov = none) (hP : va_P D vwCl wo H) (hK : va_K D vwCl tys s) (hD : va_D A wo) (hS : va_S A s.heap H locs) (hdg : decode cc pc = .ok (.return_, 1)) : W p l e R s m args below meth c H locs 0 0 (MQ below (fz_O D tys wo ov A) args s 0 0 A) (F0 m pc ls []) := W.vret hx hb hr (fun t ht hW => ⟨by rw [hov], by rw [ht]; exact hP, va_K.moved hW.alike hK, hD, hS.F ht⟩) hS.2.2 hdg hlocks
theorem fz_blind {av : List Value} {sz : Nat} : FrameBlind (va_Pc av (fz_I D tys wi sz)) := fun a U g mk q => by
  obtain ⟨q0, q1, qP, qK, qD, qN⟩ := q
  exact ⟨q0, q1, qP, va_K.moved (u := U) (U := U.calling g mk a) (Vm.Alike.refl U.vm) qK, qD, qN.same rfl⟩
theorem fz_preS {av : List Value} (hK : va_K D vwCl tys s) (hNW : fz_NW s) (hP : va_P D vwCl ws H) (hD : va_D A ws) (isC : List Nat) (hC : isC.map (fun i => ws[i]?) = wi.map some) (hnC : va_nd isC = true) : PreS s H (va_Pc av (fz_I D tys wi H.size)) av :=
  ⟨fz_blind, fun U hU hW => ⟨rfl, by rw [hU], by rw [hU]; exact hP.sub isC (fz_fm hC), va_K.moved hW.alike hK, (hD.sub isC hnC hC).weaken (fun _ _ _ _ => trivial), hNW.warm hW⟩⟩
theorem fz_call {a : Array Value} {st0 : List Value} (hr : va_Run p l e R s m args below meth c H locs cells slots 0 0 (F0 m pc ls st0) rest (fz_O D tys wo ov (va_A wi H.size) a) (va_A wi H.size)) (hP : va_P D vwCl ws H) (hD : va_D A ws) (hS : va_S A H0 H locs) (hA : ∀ q, H0.size ≤ q → A q) (isC isR is : List Nat) (hC : isC.map (fun i => ws[i]?) = wi.map some) (hR : isR.map (fun i => ws[i]?) = wr.map some) (hnR : va_nd isR = true) (hdis : ∀ i ∈ isR, i ∉ isC) (hnI : va_nd is = true) (hs : is.map (fun i => (wr ++ wo)[i]?) = ws'.map some)
    (kk : ∀ (H1 : Heap) (locs1 : List Loc), va_P D vwCl ws' H1 → va_D A ws' → va_S A H0 H1 locs1 → W p l e R s m args below meth c H1 locs1 cells slots Q (F0 m (pc + 3) ls (ov.toList ++ rest))) : W p l e R s m args below meth c H locs cells slots Q (F0 m pc ls st0) := by
  intro T hT X
  obtain ⟨v, st₀, t, T', L, h0, X', hL, e1, e2, ⟨hv, hP1, hK1, hD1, hz, hk⟩, st⟩ := hr T hT X
  cases hv
  rw [h0] at hz hk
  rw [← e1] at hP1 hz hk
  have hF := va_free (wc := wi) hD hS hA isC hC
  obtain ⟨hPj, hDj⟩ := va_join hP hD isC isR hC hR hnR hdis hk hF hP1 hD1
  obtain ⟨t2, a1, b1⟩ := kk T'.heap (locs ++ L) (hPj.sub is (fz_fm hs)) (hDj.sub is hnI hs)
    ⟨Nat.le_trans hS.1 hz, fun q h1 h2 => by rw [hk q (Nat.lt_of_lt_of_le h1 hS.1) (fun z => h2 (hF q z))]; exact hS.2.1 q h1 h2, fun q hq => by
      rcases List.mem_append.mp hq with h | h
      · exact hS.2.2 q h
      · exact hF _ (hL q h)⟩ T' rfl X'
  exact ⟨t2, st t2 a1, b1⟩
variable {Ts wsY : List Cond} {own : String} {y : MethodName} {bytes : ByteArray} {maxL nL n index : Nat} {ret : Option FieldType} {rm : Room} {As st0 : List Value} {b : Nat}
theorem fz_callV {C : String} (S : CallFix p m c cc nL s args Ts own) (hM : fz_C l D tys y wsY rm (.ref b :: As) wi wo ov) (cw : CallW R s args own C index y bytes maxL ret wsY rm 0 0 n) (hK : va_K D vwCl tys s) (hNW : fz_NW s) (hP : va_P D vwCl ws H) (hD : va_D A ws) (hS : va_S A H0 H locs) (hA : ∀ q, H0.size ≤ q → A q) (isC isR is : List Nat) (hC : isC.map (fun i => ws[i]?) = wi.map some) (hnC : va_nd isC = true) (hR : isR.map (fun i => ws[i]?) = wr.map some) (hnR : va_nd isR = true) (hdis : ∀ i ∈ isR, i ∉ isC) (hnI : va_nd is = true) (hs : is.map (fun i => (wr ++ wo)[i]?) = ws'.map some)
    {q0 ci : Nat} {fs : List Value} {q : vw_C} (hcl : vwCl[ci]? = some q) (hqC : q.1 = C) (he : ws[q0]? = some (b, .inr (ci, fs))) (hn : As.length = n) (hsize : ls.size = nL) (hstack : st0 = As.reverse ++ .ref b :: rest) (hW : (rest.map fun v => v.category).sum ≤ 8) (hdg : decode cc pc = .ok (.invokevirtual index, 3)) (hf : cells + 0 ≤ R.cells ∧ slots + 0 ≤ R.slots)
    (kk : ∀ (H1 : Heap) (locs1 : List Loc), va_P D vwCl ws' H1 → va_D A ws' → va_S A H0 H1 locs1 → W p l e R s m args below meth c H1 locs1 cells slots Q (F0 m (pc + 3) ls (ov.toList ++ rest))) : W p l e R s m args below meth c H locs cells slots Q (F0 m pc ls st0) := by
  have hp := fz_preS (av := .ref b :: As) hK hNW hP hD isC hC hnC
  subst hqC
  exact fz_call (va_runV S (hM H.size) cw ⟨hp.1, va_recv hK hP hcl he, hp.2⟩ rfl hn hsize hstack (lv_room hW) hdg hf) hP hD hS hA isC isR is hC hR hnR hdis hnI hs kk
theorem fz_callS (S : CallFix p m c cc nL s args Ts own) (hM : fz_C l D tys y wsY rm As wi wo ov) (cw : CallB R s args own index y bytes maxL ret wsY rm 0 0 n ∧ (Cond.static y).before args s = true) (hK : va_K D vwCl tys s) (hNW : fz_NW s) (hP : va_P D vwCl ws H) (hD : va_D A ws) (hS : va_S A H0 H locs) (hA : ∀ q, H0.size ≤ q → A q) (isC isR is : List Nat) (hC : isC.map (fun i => ws[i]?) = wi.map some) (hnC : va_nd isC = true) (hR : isR.map (fun i => ws[i]?) = wr.map some) (hnR : va_nd isR = true) (hdis : ∀ i ∈ isR, i ∉ isC) (hnI : va_nd is = true) (hs : is.map (fun i => (wr ++ wo)[i]?) = ws'.map some)
    (hn : As.length = n) (hsize : ls.size = nL) (hstack : st0 = As.reverse ++ rest) (hW : (rest.map fun v => v.category).sum ≤ 8) (hdg : decode cc pc = .ok (.invokestatic index, 3)) (hf : cells + 0 ≤ R.cells ∧ slots + 0 ≤ R.slots)
    (kk : ∀ (H1 : Heap) (locs1 : List Loc), va_P D vwCl ws' H1 → va_D A ws' → va_S A H0 H1 locs1 → W p l e R s m args below meth c H1 locs1 cells slots Q (F0 m (pc + 3) ls (ov.toList ++ rest))) : W p l e R s m args below meth c H locs cells slots Q (F0 m pc ls st0) :=
  fz_call (va_runS S (hM H.size) cw (fz_preS hK hNW hP hD isC hC hnC) rfl hn hsize hstack (lv_room hW) hdg hf) hP hD hS hA isC isR is hC hR hnR hdis hnI hs kk
theorem fz_callN {host : String} (S : CallFix p m c cc nL s args Ts own) (hM : fz_C l D tys y wsY rm As wi wo ov) (cw : va_CN R s args own index y host bytes maxL ret wsY rm 0 0 n ∧ (Cond.static y).before args s = true ∧ True) (hK : va_K D vwCl tys s) (hNW : fz_NW s) (hP : va_P D vwCl ws H) (hD : va_D A ws) (hS : va_S A H0 H locs) (hA : ∀ q, H0.size ≤ q → A q) (isC isR is : List Nat) (hC : isC.map (fun i => ws[i]?) = wi.map some) (hnC : va_nd isC = true) (hR : isR.map (fun i => ws[i]?) = wr.map some) (hnR : va_nd isR = true) (hdis : ∀ i ∈ isR, i ∉ isC) (hnI : va_nd is = true) (hs : is.map (fun i => (wr ++ wo)[i]?) = ws'.map some)
    (hn : As.length = n) (hsize : ls.size = nL) (hstack : st0 = As.reverse ++ rest) (hW : (rest.map fun v => v.category).sum ≤ 8) (hdg : decode cc pc = .ok (.invokestatic index, 3)) (hf : cells + 0 ≤ R.cells ∧ slots + 0 ≤ R.slots)
    (kk : ∀ (H1 : Heap) (locs1 : List Loc), va_P D vwCl ws' H1 → va_D A ws' → va_S A H0 H1 locs1 → W p l e R s m args below meth c H1 locs1 cells slots Q (F0 m (pc + 3) ls (ov.toList ++ rest))) : W p l e R s m args below meth c H locs cells slots Q (F0 m pc ls st0) :=
  fz_call (va_runSN S (hM H.size) cw (fz_preS hK hNW hP hD isC hC hnC) rfl hn hsize hstack (lv_room hW) hdg hf) hP hD hS hA isC isR is hC hR hnR hdis hnI hs kk
end FZC
/-! rows that a loop fills: the places lo .. lo + k - 1 hold g 0 .. g (k - 1) already -/
def fz_pre (lo k : Nat) (g d : Nat → UInt64) : Nat → UInt64 := fun q => if lo ≤ q ∧ q < k + lo then g (q - lo) else d q
theorem fz_pre_0 (lo : Nat) (g d : Nat → UInt64) : fz_pre lo 0 g d = d := by
  funext q; unfold fz_pre; rw [if_neg (by omega)]
theorem fz_pre_s (lo k : Nat) (g d : Nat → UInt64) : vf_upd (fz_pre lo k g d) (k + lo) (g k) = fz_pre lo (k + 1) g d := by
  funext q
  unfold vf_upd fz_pre
  by_cases h : q = k + lo
  · subst h; rw [if_pos rfl, if_pos (by omega), Nat.add_sub_cancel]
  · rw [if_neg h]
    by_cases h2 : lo ≤ q ∧ q < k + lo
    · rw [if_pos h2, if_pos (by omega)]
    · rw [if_neg h2, if_neg (by omega)]
theorem fz_pre_at {lo k q : Nat} (g d : Nat → UInt64) (h : k + lo ≤ q) : fz_pre lo k g d q = d q := by
  unfold fz_pre; rw [if_neg (by omega)]
theorem fz_pre_in {lo k j : Nat} (g d : Nat → UInt64) (h : j < k) : fz_pre lo k g d (j + lo) = g j := by
  unfold fz_pre; rw [if_pos (by omega), Nat.add_sub_cancel]
abbrev fz_da (cD : ClassId) (n : Nat) (f : Nat → UInt64) : va_E := .inl (cD, n, .inr (.inr (.inr (.inl f))))
theorem fz_cellq {cD : ClassId} {n : Nat} {f g : Nat → UInt64} (h : ∀ i, i < n → f i = g i) : vp_cell cD (n, .inr (.inr (.inr (.inl f)))) = vp_cell cD (n, .inr (.inr (.inr (.inl g)))) := by
  rw [vp_cell_d, vp_cell_d]
  have h2 : (fun (j : Fin n) => Value.double (f j.val)) = (fun (j : Fin n) => Value.double (g j.val)) := funext fun j => by rw [h j.val j.isLt]
  unfold arrV
  rw [h2]
theorem fz_swapf {D : va_G} {cl : List vw_C} {ws : va_W} {H : Heap} {A : Nat → Prop} {a : Nat} {cD : ClassId} {n : Nat} {f g : Nat → UInt64} (q0 : Nat) (he : ws[q0]? = some (a, fz_da cD n f)) (h : ∀ i, i < n → f i = g i) (hP : va_P D cl ws H) (hD : va_D A ws) : va_P D cl (ws.set q0 (a, fz_da cD n g)) H ∧ va_D A (ws.set q0 (a, fz_da cD n g)) := by
  refine ⟨hP.set hD he ?_ (fun _ _ => rfl), hD.set he⟩
  show H[a]? = some (vp_cell cD (n, .inr (.inr (.inr (.inl g)))))
  rw [← fz_cellq h]
  exact hP q0 _ he
end
section
/-! the class's leaves: pure words and contracts -/
theorem fz_nI1 : nI 1 = 1 := by decide
abbrev fz_half : UInt64 := 4602678819172646912
def fz_abs (x : UInt64) : UInt64 := if fz_lt x FP.dconst0 = true then FP.dneg x else x
def fz_gtrC (a b : UInt64) : UInt64 := if fz_le b a = true then a else b
def fz_lesC (a b : UInt64) : UInt64 := if fz_le a b = true then a else b
def fz_rootN (x : UInt64) : Nat → UInt64
  | 0 => if fz_lt x FP.dconst1 = true then FP.dconst1 else x
  | k + 1 => FP.dmul fz_half (FP.dadd (fz_rootN x k) (FP.ddiv x (fz_rootN x k)))
abbrev fz_root (x : UInt64) : UInt64 := fz_rootN x 14
def fz_rootOk (x : UInt64) : Prop := ∀ k, k < 14 → fz_lt FP.dconst0 (fz_rootN x k) = true ∧ vf_n64 (FP.ddiv x (fz_rootN x k)) ∧ vf_n64 (FP.dadd (fz_rootN x k) (FP.ddiv x (fz_rootN x k))) ∧ vf_n64 (FP.dmul fz_half (FP.dadd (fz_rootN x k) (FP.ddiv x (fz_rootN x k))))
def fz_near (a b : UInt64) : UInt64 := if (if fz_lt a FP.dconst0 = true then fz_le b a else fz_le a b) = true then a else b
def fz_farr (a b : UInt64) : UInt64 := if (if fz_lt a FP.dconst0 = true then fz_le a b else fz_le b a) = true then a else b
def fz_out (v a b : Int32) : Bool := decide (v < a) || decide (b < v)
def fz_in (v a b : Int32) : Int32 := if fz_out v a b = true then 0 else 1
def fz_span (t : UInt64) : Int32 := if fz_lt FP.dconst0 t = true ∧ fz_le t 4621819117588971520 = true then 1 else 0

set_option maxHeartbeats 4000000 in
set_option maxRecDepth 100000 in
theorem c_X3_absolute (l : Launch) (D : va_G) (cD : ClassId) (x : UInt64) : fz_C l D [(cD, .double)] yX3_absolute wsX3_absolute ({ frames := 0, cells := 0, slots := 0, locals := 0 }) [.double x] [] [] (some (.double (fz_abs x))) := by
  refine fz_start (cc := cX3_absolute) (maxL := 2) (ret := (some .double)) (by decide) rfl (Nat.le_of_ble_eq_true rfl) ?_
  intro p e s m below meth c A hx hb hr hlocks hml hown hts hK hA hNW H locs hP hD hS ls hl
  have hl : lv_has ls 2 [(0, .double x)] := hl
  have hown : s.vm.findClass RX3 = some m.cls := hown
  refine lv_dload_n hx hb dX3_absolute_0 rfl (lv_at hl 0 rfl) ?_
  refine lv_dconst0 hx hb dX3_absolute_1 ?_
  refine fz_dg_ge (tgt := 11) hx hb dX3_absolute_2 dX3_absolute_3 (by decide) (fun c2 => ?_) (fun c2 => ?_)
  · refine lv_dload_n hx hb dX3_absolute_11 rfl (lv_at hl 0 rfl) ?_
    exact fz_dret hx hb hr hlocks (by simp [fz_abs, c2]) hP hK hD hS dX3_absolute_12
  · refine lv_dload_n hx hb dX3_absolute_6 rfl (lv_at hl 0 rfl) ?_
    refine lv_dneg hx hb dX3_absolute_7 ?_
    refine lv_goto (tgt := 12) hx hb dX3_absolute_8 (by decide) ?_
    exact fz_dret hx hb hr hlocks (by simp [fz_abs, c2]) hP hK hD hS dX3_absolute_12

set_option maxHeartbeats 4000000 in
set_option maxRecDepth 100000 in
theorem c_X3_greater (l : Launch) (D : va_G) (cD : ClassId) (a b : UInt64) : fz_C l D [(cD, .double)] yX3_greater wsX3_greater ({ frames := 0, cells := 0, slots := 0, locals := 0 }) [.double a, .double b] [] [] (some (.double (fz_gtrC a b))) := by
  refine fz_start (cc := cX3_greater) (maxL := 4) (ret := (some .double)) (by decide) rfl (Nat.le_of_ble_eq_true rfl) ?_
  intro p e s m below meth c A hx hb hr hlocks hml hown hts hK hA hNW H locs hP hD hS ls hl
  have hl : lv_has ls 4 [(0, .double a), (2, .double b)] := hl
  have hown : s.vm.findClass RX3 = some m.cls := hown
  refine lv_dload_n hx hb dX3_greater_0 rfl (lv_at hl 0 rfl) ?_
  refine lv_dload_n hx hb dX3_greater_1 rfl (lv_at hl 1 rfl) ?_
  refine fz_dl_lt (tgt := 10) hx hb dX3_greater_2 dX3_greater_3 (by decide) (fun c2 => ?_) (fun c2 => ?_)
  · refine lv_dload_n hx hb dX3_greater_10 rfl (lv_at hl 1 rfl) ?_
    exact fz_dret hx hb hr hlocks (by simp [fz_gtrC, c2]) hP hK hD hS dX3_greater_11
  · refine lv_dload_n hx hb dX3_greater_6 rfl (lv_at hl 0 rfl) ?_
    refine lv_goto (tgt := 11) hx hb dX3_greater_7 (by decide) ?_
    exact fz_dret hx hb hr hlocks (by simp [fz_gtrC, c2]) hP hK hD hS dX3_greater_11

set_option maxHeartbeats 4000000 in
set_option maxRecDepth 100000 in
theorem c_X3_lesser (l : Launch) (D : va_G) (cD : ClassId) (a b : UInt64) : fz_C l D [(cD, .double)] yX3_lesser wsX3_lesser ({ frames := 0, cells := 0, slots := 0, locals := 0 }) [.double a, .double b] [] [] (some (.double (fz_lesC a b))) := by
  refine fz_start (cc := cX3_lesser) (maxL := 4) (ret := (some .double)) (by decide) rfl (Nat.le_of_ble_eq_true rfl) ?_
  intro p e s m below meth c A hx hb hr hlocks hml hown hts hK hA hNW H locs hP hD hS ls hl
  have hl : lv_has ls 4 [(0, .double a), (2, .double b)] := hl
  have hown : s.vm.findClass RX3 = some m.cls := hown
  refine lv_dload_n hx hb dX3_lesser_0 rfl (lv_at hl 0 rfl) ?_
  refine lv_dload_n hx hb dX3_lesser_1 rfl (lv_at hl 1 rfl) ?_
  refine fz_dg_gt (tgt := 10) hx hb dX3_lesser_2 dX3_lesser_3 (by decide) (fun c2 => ?_) (fun c2 => ?_)
  · refine lv_dload_n hx hb dX3_lesser_10 rfl (lv_at hl 1 rfl) ?_
    exact fz_dret hx hb hr hlocks (by simp [fz_lesC, c2]) hP hK hD hS dX3_lesser_11
  · refine lv_dload_n hx hb dX3_lesser_6 rfl (lv_at hl 0 rfl) ?_
    refine lv_goto (tgt := 11) hx hb dX3_lesser_7 (by decide) ?_
    exact fz_dret hx hb hr hlocks (by simp [fz_lesC, c2]) hP hK hD hS dX3_lesser_11

set_option maxHeartbeats 4000000 in
set_option maxRecDepth 100000 in
theorem c_X3_speedOf (l : Launch) (D : va_G) (cD : ClassId) (x y : UInt64) (h0 : fz_lt FP.dconst0 x = true) (n0 : vf_n64 (FP.ddiv y x)) : fz_C l D [(cD, .double)] yX3_speedOf wsX3_speedOf ({ frames := 0, cells := 0, slots := 0, locals := 0 }) [.double x, .double y] [] [] (some (.double (FP.ddiv y x))) := by
  refine fz_start (cc := cX3_speedOf) (maxL := 4) (ret := (some .double)) (by decide) rfl (Nat.le_of_ble_eq_true rfl) ?_
  intro p e s m below meth c A hx hb hr hlocks hml hown hts hK hA hNW H locs hP hD hS ls hl
  have hl : lv_has ls 4 [(0, .double x), (2, .double y)] := hl
  have hown : s.vm.findClass RX3 = some m.cls := hown
  refine lv_dload_n hx hb dX3_speedOf_0 rfl (lv_at hl 0 rfl) ?_
  refine lv_dconst0 hx hb dX3_speedOf_1 ?_
  refine fz_dl_le (tgt := 12) hx hb dX3_speedOf_2 dX3_speedOf_3 (by decide) (fun c2 => absurd c2 (by rw [h0]; decide)) (fun c2 => ?_)
  refine lv_dload_n hx hb dX3_speedOf_6 rfl (lv_at hl 1 rfl) ?_
  refine lv_dload_n hx hb dX3_speedOf_7 rfl (lv_at hl 0 rfl) ?_
  refine lv_ddiv hx hb dX3_speedOf_8 (n0) ?_
  refine lv_goto (tgt := 13) hx hb dX3_speedOf_9 (by decide) ?_
  exact fz_dret hx hb hr hlocks (rfl) hP hK hD hS dX3_speedOf_13

set_option maxHeartbeats 4000000 in
set_option maxRecDepth 100000 in
theorem c_X3_isWithin (l : Launch) (D : va_G) (cD : ClassId) (v a b : Int32) : fz_C l D [(cD, .double)] yX3_isWithin wsX3_isWithin ({ frames := 0, cells := 0, slots := 0, locals := 0 }) [.int v, .int a, .int b] [] [] (some (.int (fz_in v a b))) := by
  refine fz_start (cc := cX3_isWithin) (maxL := 3) (ret := (some .boolean)) (by decide) rfl (Nat.le_of_ble_eq_true rfl) ?_
  intro p e s m below meth c A hx hb hr hlocks hml hown hts hK hA hNW H locs hP hD hS ls hl
  have hl : lv_has ls 3 [(0, .int v), (1, .int a), (2, .int b)] := hl
  have hown : s.vm.findClass RX3 = some m.cls := hown
  refine lv_iload_n hx hb dX3_isWithin_0 rfl (lv_at hl 0 rfl) ?_
  refine lv_iload_n hx hb dX3_isWithin_1 rfl (lv_at hl 1 rfl) ?_
  refine lv_icmp_lt (tgt := 14) hx hb dX3_isWithin_2 (by decide) (fun c2 => ?_) (fun c2 => ?_)
  · refine lv_iconst (v := nI 0) hx hb dX3_isWithin_14 (by decide) ?_
    exact fz_zret hx hb hr hlocks rfl (by simp [fz_in, fz_out, nI_0, fz_nI1, c2]) hP hK hD hS dX3_isWithin_15
  · refine lv_iload_n hx hb dX3_isWithin_5 rfl (lv_at hl 0 rfl) ?_
    refine lv_iload_n hx hb dX3_isWithin_6 rfl (lv_at hl 2 rfl) ?_
    refine lv_icmp_gt (tgt := 14) hx hb dX3_isWithin_7 (by decide) (fun c7 => ?_) (fun c7 => ?_)
    · refine lv_iconst (v := nI 0) hx hb dX3_isWithin_14 (by decide) ?_
      exact fz_zret hx hb hr hlocks rfl (by simp [fz_in, fz_out, nI_0, fz_nI1, c2, c7]) hP hK hD hS dX3_isWithin_15
    · refine lv_iconst (v := nI 1) hx hb dX3_isWithin_10 (by decide) ?_
      refine lv_goto (tgt := 15) hx hb dX3_isWithin_11 (by decide) ?_
      exact fz_zret hx hb hr hlocks rfl (by simp [fz_in, fz_out, nI_0, fz_nI1, c2, c7]) hP hK hD hS dX3_isWithin_15

set_option maxHeartbeats 4000000 in
set_option maxRecDepth 100000 in
theorem c_X3_isSpan (l : Launch) (D : va_G) (cD : ClassId) (t : UInt64) : fz_C l D [(cD, .double)] yX3_isSpan wsX3_isSpan ({ frames := 0, cells := 0, slots := 0, locals := 0 }) [.double t] [] [] (some (.int (fz_span t))) := by
  refine fz_start (cc := cX3_isSpan) (maxL := 2) (ret := (some .boolean)) (by decide) rfl (Nat.le_of_ble_eq_true rfl) ?_
  intro p e s m below meth c A hx hb hr hlocks hml hown hts hK hA hNW H locs hP hD hS ls hl
  have hl : lv_has ls 2 [(0, .double t)] := hl
  have hown : s.vm.findClass RX3 = some m.cls := hown
  have hw_constantDouble_RX3_170_4621819117588971520 := hts (.constantDouble RX3 170 (4621819117588971520)) (by decide +kernel)
  refine lv_dload_n hx hb dX3_isSpan_0 rfl (lv_at hl 0 rfl) ?_
  refine lv_dconst0 hx hb dX3_isSpan_1 ?_
  refine fz_dl_le (tgt := 18) hx hb dX3_isSpan_2 dX3_isSpan_3 (by decide) (fun c2 => ?_) (fun c2 => ?_)
  · refine lv_iconst (v := nI 0) hx hb dX3_isSpan_18 (by decide) ?_
    exact fz_zret hx hb hr hlocks rfl (by simp [fz_span, nI_0, fz_nI1, c2]) hP hK hD hS dX3_isSpan_19
  · refine lv_dload_n hx hb dX3_isSpan_6 rfl (lv_at hl 0 rfl) ?_
    refine lv_ldc2d hx hb hown hw_constantDouble_RX3_170_4621819117588971520 dX3_isSpan_7 ?_
    refine fz_dg_gt (tgt := 18) hx hb dX3_isSpan_10 dX3_isSpan_11 (by decide) (fun c10 => ?_) (fun c10 => ?_)
    · refine lv_iconst (v := nI 0) hx hb dX3_isSpan_18 (by decide) ?_
      exact fz_zret hx hb hr hlocks rfl (by simp [fz_span, nI_0, fz_nI1, c2, c10]) hP hK hD hS dX3_isSpan_19
    · refine lv_iconst (v := nI 1) hx hb dX3_isSpan_14 (by decide) ?_
      refine lv_goto (tgt := 19) hx hb dX3_isSpan_15 (by decide) ?_
      exact fz_zret hx hb hr hlocks rfl (by simp [fz_span, nI_0, fz_nI1, c2, c10]) hP hK hD hS dX3_isSpan_19

set_option maxHeartbeats 4000000 in
set_option maxRecDepth 100000 in
theorem c_X0_nearer (l : Launch) (D : va_G) (cD : ClassId) (a b : UInt64) : fz_C l D [(cD, .double)] yX0_nearer wsX0_nearer ({ frames := 0, cells := 0, slots := 0, locals := 0 }) [.double a, .double b] [] [] (some (.double (fz_near a b))) := by
  refine fz_start (cc := cX0_nearer) (maxL := 4) (ret := (some .double)) (by decide) rfl (Nat.le_of_ble_eq_true rfl) ?_
  intro p e s m below meth c A hx hb hr hlocks hml hown hts hK hA hNW H locs hP hD hS ls hl
  have hl : lv_has ls 4 [(0, .double a), (2, .double b)] := hl
  have hown : s.vm.findClass RX0 = some m.cls := hown
  refine lv_dload_n hx hb dX0_nearer_0 rfl (lv_at hl 0 rfl) ?_
  refine lv_dconst0 hx hb dX0_nearer_1 ?_
  refine fz_dg_ge (tgt := 15) hx hb dX0_nearer_2 dX0_nearer_3 (by decide) (fun c2 => ?_) (fun c2 => ?_)
  · refine lv_dload_n hx hb dX0_nearer_15 rfl (lv_at hl 0 rfl) ?_
    refine lv_dload_n hx hb dX0_nearer_16 rfl (lv_at hl 1 rfl) ?_
    refine fz_dg_gt (tgt := 25) hx hb dX0_nearer_17 dX0_nearer_18 (by decide) (fun c17 => ?_) (fun c17 => ?_)
    · refine lv_dload_n hx hb dX0_nearer_25 rfl (lv_at hl 1 rfl) ?_
      exact fz_dret hx hb hr hlocks (by simp [fz_near, c2, c17]) hP hK hD hS dX0_nearer_26
    · refine lv_dload_n hx hb dX0_nearer_21 rfl (lv_at hl 0 rfl) ?_
      refine lv_goto (tgt := 26) hx hb dX0_nearer_22 (by decide) ?_
      exact fz_dret hx hb hr hlocks (by simp [fz_near, c2, c17]) hP hK hD hS dX0_nearer_26
  · refine lv_dload_n hx hb dX0_nearer_6 rfl (lv_at hl 0 rfl) ?_
    refine lv_dload_n hx hb dX0_nearer_7 rfl (lv_at hl 1 rfl) ?_
    refine fz_dl_lt (tgt := 25) hx hb dX0_nearer_8 dX0_nearer_9 (by decide) (fun c8 => ?_) (fun c8 => ?_)
    · refine lv_dload_n hx hb dX0_nearer_25 rfl (lv_at hl 1 rfl) ?_
      exact fz_dret hx hb hr hlocks (by simp [fz_near, c2, c8]) hP hK hD hS dX0_nearer_26
    · refine lv_goto (tgt := 21) hx hb dX0_nearer_12 (by decide) ?_
      refine lv_dload_n hx hb dX0_nearer_21 rfl (lv_at hl 0 rfl) ?_
      refine lv_goto (tgt := 26) hx hb dX0_nearer_22 (by decide) ?_
      exact fz_dret hx hb hr hlocks (by simp [fz_near, c2, c8]) hP hK hD hS dX0_nearer_26

set_option maxHeartbeats 4000000 in
set_option maxRecDepth 100000 in
theorem c_X0_farther (l : Launch) (D : va_G) (cD : ClassId) (a b : UInt64) : fz_C l D [(cD, .double)] yX0_farther wsX0_farther ({ frames := 0, cells := 0, slots := 0, locals := 0 }) [.double a, .double b] [] [] (some (.double (fz_farr a b))) := by
  refine fz_start (cc := cX0_farther) (maxL := 4) (ret := (some .double)) (by decide) rfl (Nat.le_of_ble_eq_true rfl) ?_
  intro p e s m below meth c A hx hb hr hlocks hml hown hts hK hA hNW H locs hP hD hS ls hl
  have hl : lv_has ls 4 [(0, .double a), (2, .double b)] := hl
  have hown : s.vm.findClass RX0 = some m.cls := hown
  refine lv_dload_n hx hb dX0_farther_0 rfl (lv_at hl 0 rfl) ?_
  refine lv_dconst0 hx hb dX0_farther_1 ?_
  refine fz_dg_ge (tgt := 15) hx hb dX0_farther_2 dX0_farther_3 (by decide) (fun c2 => ?_) (fun c2 => ?_)
  · refine lv_dload_n hx hb dX0_farther_15 rfl (lv_at hl 0 rfl) ?_
    refine lv_dload_n hx hb dX0_farther_16 rfl (lv_at hl 1 rfl) ?_
    refine fz_dl_lt (tgt := 25) hx hb dX0_farther_17 dX0_farther_18 (by decide) (fun c17 => ?_) (fun c17 => ?_)
    · refine lv_dload_n hx hb dX0_farther_25 rfl (lv_at hl 1 rfl) ?_
      exact fz_dret hx hb hr hlocks (by simp [fz_farr, c2, c17]) hP hK hD hS dX0_farther_26
    · refine lv_dload_n hx hb dX0_farther_21 rfl (lv_at hl 0 rfl) ?_
      refine lv_goto (tgt := 26) hx hb dX0_farther_22 (by decide) ?_
      exact fz_dret hx hb hr hlocks (by simp [fz_farr, c2, c17]) hP hK hD hS dX0_farther_26
  · refine lv_dload_n hx hb dX0_farther_6 rfl (lv_at hl 0 rfl) ?_
    refine lv_dload_n hx hb dX0_farther_7 rfl (lv_at hl 1 rfl) ?_
    refine fz_dg_gt (tgt := 25) hx hb dX0_farther_8 dX0_farther_9 (by decide) (fun c8 => ?_) (fun c8 => ?_)
    · refine lv_dload_n hx hb dX0_farther_25 rfl (lv_at hl 1 rfl) ?_
      exact fz_dret hx hb hr hlocks (by simp [fz_farr, c2, c8]) hP hK hD hS dX0_farther_26
    · refine lv_goto (tgt := 21) hx hb dX0_farther_12 (by decide) ?_
      refine lv_dload_n hx hb dX0_farther_21 rfl (lv_at hl 0 rfl) ?_
      refine lv_goto (tgt := 26) hx hb dX0_farther_22 (by decide) ?_
      exact fz_dret hx hb hr hlocks (by simp [fz_farr, c2, c8]) hP hK hD hS dX0_farther_26

set_option maxHeartbeats 4000000 in
set_option maxRecDepth 100000 in
/-- root(x): fourteen rounds, each of them safe -/
theorem c_X3_root (l : Launch) (D : va_G) (cD : ClassId) (x : UInt64) (hok : fz_rootOk x) : fz_C l D [(cD, .double)] yX3_root wsX3_root ({ frames := 0, cells := 0, slots := 0, locals := 0 }) [.double x] [] [] (some (.double (fz_root x))) := by
  refine fz_start (cc := cX3_root) (maxL := 5) (ret := (some .double)) (by decide) rfl (Nat.le_of_ble_eq_true rfl) ?_
  intro p e s m below meth c A hx hb hr hlocks hml hown hts hK hA hNW H locs hP hD hS ls hl
  have hl : lv_has ls 5 [(0, .double x)] := hl
  have hown : s.vm.findClass RX3 = some m.cls := hown
  have hw_constantDouble_RX3_148_4602678819172646912 := hts (.constantDouble RX3 148 (4602678819172646912)) (by decide +kernel)
  refine lv_dload_n hx hb dX3_root_0 rfl (lv_at hl 0 rfl) ?_
  refine lv_dconst1 hx hb dX3_root_1 ?_
  have jn0 : ∀ v : UInt64, v = fz_rootN x 0 → W p l e ({ frames := 0, cells := 0, slots := 0, locals := 0 }) s m ([.double x] : List Value).toArray below meth c H locs 0 0 (MQ below (fz_O D [(cD, .double)] [] (some (.double (fz_root x))) A) ([.double x] : List Value).toArray s 0 0 A) (F0 m 11 ls [.double v]) := by
    intro v ev
    subst ev
    refine lv_dstore_n (lv' := [(2, .double (fz_rootN x 0)), (0, .double x)]) hx hb dX3_root_11 rfl hl (by decide) rfl (fun ls hl => ?_)
    refine lv_iconst (v := nI 0) hx hb dX3_root_12 (by decide) ?_
    refine lv_istore (lv' := [(4, .int (nI 0)), (2, .double (fz_rootN x 0)), (0, .double x)]) hx hb dX3_root_13 hl (by decide) rfl (fun ls hl => ?_)
    have loop15 : ∀ (n k : Nat), k ≤ 14 → 14 < k + n → ∀ (H : Heap) (locs : List Loc) (ls : Array Slot), va_P D vwCl [] H → va_D A [] → va_S A s.heap H locs → lv_has ls 5 [(0, .double x), (2, .double (fz_rootN x k)), (4, .int (nI k))] → W p l e ({ frames := 0, cells := 0, slots := 0, locals := 0 }) s m ([.double x] : List Value).toArray below meth c H locs 0 0 (MQ below (fz_O D [(cD, .double)] [] (some (.double (fz_root x))) A) ([.double x] : List Value).toArray s 0 0 A) (F0 m 15 ls []) := by
      intro n
      induction n with
      | zero => intro k h1 h2; exact absurd h2 (by omega)
      | succ n ih =>
        intro k hkk hnk H locs ls hP hD hS hl
        refine lv_iload hx hb dX3_root_15 (lv_at hl 2 rfl) ?_
        refine lv_bipush (v := nI 14) hx hb dX3_root_17 (by decide) ?_
        refine fz_icmp_geN (tgt := 44) hx hb (by omega) (by omega) dX3_root_19 (by decide) (fun c19 => ?_) (fun c19 => ?_)
        · refine lv_dload_n hx hb dX3_root_44 rfl (lv_at hl 1 rfl) ?_
          exact fz_dret hx hb hr hlocks (by rw [show k = 14 by omega]) hP hK hD hS dX3_root_45
        · refine lv_dload_n hx hb dX3_root_22 rfl (lv_at hl 1 rfl) ?_
          refine lv_dconst0 hx hb dX3_root_23 ?_
          refine fz_dl_le (tgt := 38) hx hb dX3_root_24 dX3_root_25 (by decide) (fun c24 => absurd c24 (by rw [(hok k (by omega)).1]; decide)) (fun c24 => ?_)
          refine lv_ldc2d hx hb hown hw_constantDouble_RX3_148_4602678819172646912 dX3_root_28 ?_
          refine lv_dload_n hx hb dX3_root_31 rfl (lv_at hl 1 rfl) ?_
          refine lv_dload_n hx hb dX3_root_32 rfl (lv_at hl 0 rfl) ?_
          refine lv_dload_n hx hb dX3_root_33 rfl (lv_at hl 1 rfl) ?_
          refine lv_ddiv hx hb dX3_root_34 ((hok k (by omega)).2.1) ?_
          refine lv_dadd hx hb dX3_root_35 ((hok k (by omega)).2.2.1) ?_
          refine lv_dmul hx hb dX3_root_36 ((hok k (by omega)).2.2.2) ?_
          refine lv_dstore_n (lv' := [(2, .double (FP.dmul 4602678819172646912 (FP.dadd (fz_rootN x k) (FP.ddiv x (fz_rootN x k))))), (0, .double x), (4, .int (nI k))]) hx hb dX3_root_37 rfl hl (by decide) rfl (fun ls hl => ?_)
          refine lv_iinc (v := nI (k + 1)) (lv' := [(4, .int (nI (k + 1))), (2, .double (FP.dmul 4602678819172646912 (FP.dadd (fz_rootN x k) (FP.ddiv x (fz_rootN x k))))), (0, .double x)]) hx hb dX3_root_38 hl (k := 2) rfl (nI_1 _) (by decide) rfl (fun ls hl => ?_)
          refine lv_goto (tgt := 15) hx hb dX3_root_41 (by decide) ?_
          exact ih (k + 1) (by omega) (by omega) H locs ls (hP) (hD) hS (lv_sub hl [2, 1, 0] rfl)
    exact loop15 (14 + 1) 0 (by omega) (by omega) H locs ls (hP) (hD) hS (lv_sub hl [2, 1, 0] rfl)
  refine fz_dg_ge (tgt := 10) hx hb dX3_root_2 dX3_root_3 (by decide) (fun c2 => ?_) (fun c2 => ?_)
  · refine lv_dload_n hx hb dX3_root_10 rfl (lv_at hl 0 rfl) ?_
    exact jn0 _ (by simp [fz_rootN, c2])
  · refine lv_dconst1 hx hb dX3_root_6 ?_
    refine lv_goto (tgt := 11) hx hb dX3_root_7 (by decide) ?_
    exact jn0 _ (by simp [fz_rootN, c2])

def fz_stOk (x y : UInt64) : Prop := fz_lt FP.dconst0 x = true ∧ vf_n64 (FP.ddiv y x) ∧ fz_rootOk x
abbrev fz_reach (sp wv : UInt64) : UInt64 := FP.dadd (fz_abs sp) wv
abbrev fz_mflux (h m sp : UInt64) : UInt64 := FP.dadd (FP.dmul m sp) (FP.dmul (FP.dmul fz_half h) h)

set_option maxHeartbeats 4000000 in
set_option maxRecDepth 100000 in
theorem c_X2_become (l : Launch) (D : va_G) (cD : ClassId) (o : Nat) (a0 a1 a2 a3 x y : UInt64) (hok : fz_stOk x y) : fz_C l D [(cD, .double)] yX2_become wsX2_become ({ frames := 1, cells := 0, slots := 0, locals := 30 }) [.ref o, .double x, .double y] [(o, .inr (2, [.double a0, .double a1, .double a2, .double a3]))] [(o, .inr (2, [.double x, .double y, .double (FP.ddiv y x), .double (fz_root x)]))] (none) := by
  refine fz_start (cc := cX2_become) (maxL := 5) (ret := none) (by decide) rfl (Nat.le_of_ble_eq_true rfl) ?_
  intro p e s m below meth c A hx hb hr hlocks hml hown hts hK hA hNW H locs hP hD hS ls hl
  have hl : lv_has ls 5 [(0, .ref o), (1, .double x), (3, .double y)] := hl
  have hown : s.vm.findClass RX2 = some m.cls := hown
  have hw_fieldLink_RX2_7_FlowGrid_State_h_D := hts (.fieldLink RX2 7 "FlowGrid$State" "h" "D") (by decide +kernel)
  have hin_X2 : ∀ w ∈ u_ws RX2 TX2 4, w ∈ wsX2_become := by decide +kernel
  have hw_fieldLink_RX2_13_FlowGrid_State_m_D := hts (.fieldLink RX2 13 "FlowGrid$State" "m" "D") (by decide +kernel)
  have hw_initialized_RX3 := hts (.initialized RX3) (by decide +kernel)
  have hw_static_yX3_speedOf := hts (.static yX3_speedOf) (by decide +kernel)
  have hw_fieldLink_RX2_16_FlowGrid_State_speed_D := hts (.fieldLink RX2 16 "FlowGrid$State" "speed" "D") (by decide +kernel)
  have hw_static_yX3_root := hts (.static yX3_root) (by decide +kernel)
  have hw_fieldLink_RX2_19_FlowGrid_State_wave_D := hts (.fieldLink RX2 19 "FlowGrid$State" "wave" "D") (by decide +kernel)
  refine lv_aload_n hx hb dX2_become_0 rfl (lv_at hl 0 rfl) ?_
  refine lv_dload_n hx hb dX2_become_1 rfl (lv_at hl 1 rfl) ?_
  refine va_put (D := D) (ci := 2) (v := .double x) (ty := .double) (C := RX2) (T := TX2) (N := 4) hx hb hts hin_X2 tyX2 tyX2_ok nmX2 hown hK hP hD hS 0 rfl rfl 0 (by decide) hw_fieldLink_RX2_7_FlowGrid_State_h_D (fun _ h9 => h9) rfl (by decide +kernel) rfl rfl (Nat.le_of_ble_eq_true rfl) dX2_become_2 (fun H locs hP hD hS => ?_)
  have hP : va_P D vwCl [(o, .inr (2, [.double x, .double a1, .double a2, .double a3]))] H := hP
  have hD : va_D A [(o, .inr (2, [.double x, .double a1, .double a2, .double a3]))] := hD
  refine lv_aload_n hx hb dX2_become_5 rfl (lv_at hl 0 rfl) ?_
  refine lv_dload_n hx hb dX2_become_6 rfl (lv_at hl 2 rfl) ?_
  refine va_put (D := D) (ci := 2) (v := .double y) (ty := .double) (C := RX2) (T := TX2) (N := 4) hx hb hts hin_X2 tyX2 tyX2_ok nmX2 hown hK hP hD hS 0 rfl rfl 1 (by decide) hw_fieldLink_RX2_13_FlowGrid_State_m_D (fun _ h9 => h9) rfl (by decide +kernel) rfl rfl (Nat.le_of_ble_eq_true rfl) dX2_become_7 (fun H locs hP hD hS => ?_)
  have hP : va_P D vwCl [(o, .inr (2, [.double x, .double y, .double a2, .double a3]))] H := hP
  have hD : va_D A [(o, .inr (2, [.double x, .double y, .double a2, .double a3]))] := hD
  refine lv_aload_n hx hb dX2_become_10 rfl (lv_at hl 0 rfl) ?_
  refine lv_dload_n hx hb dX2_become_11 rfl (lv_at hl 1 rfl) ?_
  refine lv_dload_n hx hb dX2_become_12 rfl (lv_at hl 2 rfl) ?_
  refine fz_callN (ws' := [(o, .inr (2, [.double x, .double y, .double a2, .double a3]))]) (wr := [(o, .inr (2, [.double x, .double y, .double a2, .double a3]))]) (As := [.double x, .double y]) (rest := [.ref o]) ⟨hx, hb, hml, hown, hts⟩ (c_X3_speedOf l D cD x y (hok.1) (hok.2.1)) ⟨va_cnB 2 hts gX2_become_X3_speedOf_n22 rfl rfl rfl (hNW ("FlowGrid$State", 22, ⟨"FlowGrid", "speedOf", "(DD)D"⟩) (by decide +kernel)) hw_initialized_RX3 (by decide +kernel) ⟨Nat.le_of_ble_eq_true rfl, Nat.le_of_ble_eq_true rfl⟩, hw_static_yX3_speedOf, trivial⟩ hK hNW hP hD hS hA [] [0] [0] rfl rfl rfl rfl (by decide) rfl rfl rfl hl.1 rfl (Nat.le_of_ble_eq_true rfl) dX2_become_13 ⟨Nat.zero_le _, Nat.zero_le _⟩ (fun H locs hP hD hS => ?_)
  refine va_put (D := D) (ci := 2) (v := .double (FP.ddiv y x)) (ty := .double) (C := RX2) (T := TX2) (N := 4) hx hb hts hin_X2 tyX2 tyX2_ok nmX2 hown hK hP hD hS 0 rfl rfl 2 (by decide) hw_fieldLink_RX2_16_FlowGrid_State_speed_D (fun _ h9 => h9) rfl (by decide +kernel) rfl rfl (Nat.le_of_ble_eq_true rfl) dX2_become_16 (fun H locs hP hD hS => ?_)
  have hP : va_P D vwCl [(o, .inr (2, [.double x, .double y, .double (FP.ddiv y x), .double a3]))] H := hP
  have hD : va_D A [(o, .inr (2, [.double x, .double y, .double (FP.ddiv y x), .double a3]))] := hD
  refine lv_aload_n hx hb dX2_become_19 rfl (lv_at hl 0 rfl) ?_
  refine lv_dload_n hx hb dX2_become_20 rfl (lv_at hl 1 rfl) ?_
  refine fz_callN (ws' := [(o, .inr (2, [.double x, .double y, .double (FP.ddiv y x), .double a3]))]) (wr := [(o, .inr (2, [.double x, .double y, .double (FP.ddiv y x), .double a3]))]) (As := [.double x]) (rest := [.ref o]) ⟨hx, hb, hml, hown, hts⟩ (c_X3_root l D cD x (hok.2.2)) ⟨va_cnB 1 hts gX2_become_X3_root_n28 rfl rfl rfl (hNW ("FlowGrid$State", 28, ⟨"FlowGrid", "root", "(D)D"⟩) (by decide +kernel)) hw_initialized_RX3 (by decide +kernel) ⟨Nat.le_of_ble_eq_true rfl, Nat.le_of_ble_eq_true rfl⟩, hw_static_yX3_root, trivial⟩ hK hNW hP hD hS hA [] [0] [0] rfl rfl rfl rfl (by decide) rfl rfl rfl hl.1 rfl (Nat.le_of_ble_eq_true rfl) dX2_become_21 ⟨Nat.zero_le _, Nat.zero_le _⟩ (fun H locs hP hD hS => ?_)
  refine va_put (D := D) (ci := 2) (v := .double (fz_root x)) (ty := .double) (C := RX2) (T := TX2) (N := 4) hx hb hts hin_X2 tyX2 tyX2_ok nmX2 hown hK hP hD hS 0 rfl rfl 3 (by decide) hw_fieldLink_RX2_19_FlowGrid_State_wave_D (fun _ h9 => h9) rfl (by decide +kernel) rfl rfl (Nat.le_of_ble_eq_true rfl) dX2_become_24 (fun H locs hP hD hS => ?_)
  have hP : va_P D vwCl [(o, .inr (2, [.double x, .double y, .double (FP.ddiv y x), .double (fz_root x)]))] H := hP
  have hD : va_D A [(o, .inr (2, [.double x, .double y, .double (FP.ddiv y x), .double (fz_root x)]))] := hD
  exact fz_vret hx hb hr hlocks (rfl) hP hK hD hS dX2_become_27

set_option maxHeartbeats 4000000 in
set_option maxRecDepth 100000 in
theorem c_X2_reach (l : Launch) (D : va_G) (cD : ClassId) (o : Nat) (a0 a1 a2 a3 : UInt64) (n0 : vf_n64 (fz_reach a2 a3)) : fz_C l D [(cD, .double)] yX2_reach wsX2_reach ({ frames := 1, cells := 0, slots := 0, locals := 30 }) [.ref o] [(o, .inr (2, [.double a0, .double a1, .double a2, .double a3]))] [(o, .inr (2, [.double a0, .double a1, .double a2, .double a3]))] (some (.double (fz_reach a2 a3))) := by
  refine fz_start (cc := cX2_reach) (maxL := 1) (ret := (some .double)) (by decide) rfl (Nat.le_of_ble_eq_true rfl) ?_
  intro p e s m below meth c A hx hb hr hlocks hml hown hts hK hA hNW H locs hP hD hS ls hl
  have hl : lv_has ls 1 [(0, .ref o)] := hl
  have hown : s.vm.findClass RX2 = some m.cls := hown
  have hw_fieldLink_RX2_16_FlowGrid_State_speed_D := hts (.fieldLink RX2 16 "FlowGrid$State" "speed" "D") (by decide +kernel)
  have hin_X2 : ∀ w ∈ u_ws RX2 TX2 4, w ∈ wsX2_reach := by decide +kernel
  have hw_initialized_RX3 := hts (.initialized RX3) (by decide +kernel)
  have hw_static_yX3_absolute := hts (.static yX3_absolute) (by decide +kernel)
  have hw_fieldLink_RX2_19_FlowGrid_State_wave_D := hts (.fieldLink RX2 19 "FlowGrid$State" "wave" "D") (by decide +kernel)
  refine lv_aload_n hx hb dX2_reach_0 rfl (lv_at hl 0 rfl) ?_
  refine va_get (D := D) (ci := 2) (v := .double a2) (C := RX2) (T := TX2) (N := 4) hx hb hts hin_X2 hown hK hP 0 rfl rfl 2 (by decide) hw_fieldLink_RX2_16_FlowGrid_State_speed_D (fun _ h9 => h9) rfl dX2_reach_1 ?_
  refine fz_callN (ws' := [(o, .inr (2, [.double a0, .double a1, .double a2, .double a3]))]) (wr := [(o, .inr (2, [.double a0, .double a1, .double a2, .double a3]))]) (As := [.double a2]) (rest := []) ⟨hx, hb, hml, hown, hts⟩ (c_X3_absolute l D cD a2) ⟨va_cnB 1 hts gX2_reach_X3_absolute_n32 rfl rfl rfl (hNW ("FlowGrid$State", 32, ⟨"FlowGrid", "absolute", "(D)D"⟩) (by decide +kernel)) hw_initialized_RX3 (by decide +kernel) ⟨Nat.le_of_ble_eq_true rfl, Nat.le_of_ble_eq_true rfl⟩, hw_static_yX3_absolute, trivial⟩ hK hNW hP hD hS hA [] [0] [0] rfl rfl rfl rfl (by decide) rfl rfl rfl hl.1 rfl (Nat.le_of_ble_eq_true rfl) dX2_reach_4 ⟨Nat.zero_le _, Nat.zero_le _⟩ (fun H locs hP hD hS => ?_)
  refine lv_aload_n hx hb dX2_reach_7 rfl (lv_at hl 0 rfl) ?_
  refine va_get (D := D) (ci := 2) (v := .double a3) (C := RX2) (T := TX2) (N := 4) hx hb hts hin_X2 hown hK hP 0 rfl rfl 3 (by decide) hw_fieldLink_RX2_19_FlowGrid_State_wave_D (fun _ h9 => h9) rfl dX2_reach_8 ?_
  refine lv_dadd hx hb dX2_reach_11 (n0) ?_
  exact fz_dret hx hb hr hlocks (rfl) hP hK hD hS dX2_reach_12

set_option maxHeartbeats 4000000 in
set_option maxRecDepth 100000 in
theorem c_X2_depthFlux (l : Launch) (D : va_G) (cD : ClassId) (o : Nat) (a0 a1 a2 a3 : UInt64) : fz_C l D [(cD, .double)] yX2_depthFlux wsX2_depthFlux ({ frames := 0, cells := 0, slots := 0, locals := 0 }) [.ref o] [(o, .inr (2, [.double a0, .double a1, .double a2, .double a3]))] [(o, .inr (2, [.double a0, .double a1, .double a2, .double a3]))] (some (.double a1)) := by
  refine fz_start (cc := cX2_depthFlux) (maxL := 1) (ret := (some .double)) (by decide) rfl (Nat.le_of_ble_eq_true rfl) ?_
  intro p e s m below meth c A hx hb hr hlocks hml hown hts hK hA hNW H locs hP hD hS ls hl
  have hl : lv_has ls 1 [(0, .ref o)] := hl
  have hown : s.vm.findClass RX2 = some m.cls := hown
  have hw_fieldLink_RX2_13_FlowGrid_State_m_D := hts (.fieldLink RX2 13 "FlowGrid$State" "m" "D") (by decide +kernel)
  have hin_X2 : ∀ w ∈ u_ws RX2 TX2 4, w ∈ wsX2_depthFlux := by decide +kernel
  refine lv_aload_n hx hb dX2_depthFlux_0 rfl (lv_at hl 0 rfl) ?_
  refine va_get (D := D) (ci := 2) (v := .double a1) (C := RX2) (T := TX2) (N := 4) hx hb hts hin_X2 hown hK hP 0 rfl rfl 1 (by decide) hw_fieldLink_RX2_13_FlowGrid_State_m_D (fun _ h9 => h9) rfl dX2_depthFlux_1 ?_
  exact fz_dret hx hb hr hlocks (rfl) hP hK hD hS dX2_depthFlux_4

set_option maxHeartbeats 4000000 in
set_option maxRecDepth 100000 in
theorem c_X2_momentumFlux (l : Launch) (D : va_G) (cD : ClassId) (o : Nat) (a0 a1 a2 a3 : UInt64) (n1 : vf_n64 (FP.dmul a1 a2)) (n2 : vf_n64 (FP.dmul fz_half a0)) (n3 : vf_n64 (FP.dmul (FP.dmul fz_half a0) a0)) (n0 : vf_n64 (fz_mflux a0 a1 a2)) : fz_C l D [(cD, .double)] yX2_momentumFlux wsX2_momentumFlux ({ frames := 0, cells := 0, slots := 0, locals := 0 }) [.ref o] [(o, .inr (2, [.double a0, .double a1, .double a2, .double a3]))] [(o, .inr (2, [.double a0, .double a1, .double a2, .double a3]))] (some (.double (fz_mflux a0 a1 a2))) := by
  refine fz_start (cc := cX2_momentumFlux) (maxL := 1) (ret := (some .double)) (by decide) rfl (Nat.le_of_ble_eq_true rfl) ?_
  intro p e s m below meth c A hx hb hr hlocks hml hown hts hK hA hNW H locs hP hD hS ls hl
  have hl : lv_has ls 1 [(0, .ref o)] := hl
  have hown : s.vm.findClass RX2 = some m.cls := hown
  have hw_fieldLink_RX2_13_FlowGrid_State_m_D := hts (.fieldLink RX2 13 "FlowGrid$State" "m" "D") (by decide +kernel)
  have hin_X2 : ∀ w ∈ u_ws RX2 TX2 4, w ∈ wsX2_momentumFlux := by decide +kernel
  have hw_fieldLink_RX2_16_FlowGrid_State_speed_D := hts (.fieldLink RX2 16 "FlowGrid$State" "speed" "D") (by decide +kernel)
  have hw_constantDouble_RX2_35_4602678819172646912 := hts (.constantDouble RX2 35 (4602678819172646912)) (by decide +kernel)
  have hw_fieldLink_RX2_7_FlowGrid_State_h_D := hts (.fieldLink RX2 7 "FlowGrid$State" "h" "D") (by decide +kernel)
  refine lv_aload_n hx hb dX2_momentumFlux_0 rfl (lv_at hl 0 rfl) ?_
  refine va_get (D := D) (ci := 2) (v := .double a1) (C := RX2) (T := TX2) (N := 4) hx hb hts hin_X2 hown hK hP 0 rfl rfl 1 (by decide) hw_fieldLink_RX2_13_FlowGrid_State_m_D (fun _ h9 => h9) rfl dX2_momentumFlux_1 ?_
  refine lv_aload_n hx hb dX2_momentumFlux_4 rfl (lv_at hl 0 rfl) ?_
  refine va_get (D := D) (ci := 2) (v := .double a2) (C := RX2) (T := TX2) (N := 4) hx hb hts hin_X2 hown hK hP 0 rfl rfl 2 (by decide) hw_fieldLink_RX2_16_FlowGrid_State_speed_D (fun _ h9 => h9) rfl dX2_momentumFlux_5 ?_
  refine lv_dmul hx hb dX2_momentumFlux_8 (n1) ?_
  refine lv_ldc2d hx hb hown hw_constantDouble_RX2_35_4602678819172646912 dX2_momentumFlux_9 ?_
  refine lv_aload_n hx hb dX2_momentumFlux_12 rfl (lv_at hl 0 rfl) ?_
  refine va_get (D := D) (ci := 2) (v := .double a0) (C := RX2) (T := TX2) (N := 4) hx hb hts hin_X2 hown hK hP 0 rfl rfl 0 (by decide) hw_fieldLink_RX2_7_FlowGrid_State_h_D (fun _ h9 => h9) rfl dX2_momentumFlux_13 ?_
  refine lv_dmul hx hb dX2_momentumFlux_16 (n2) ?_
  refine lv_aload_n hx hb dX2_momentumFlux_17 rfl (lv_at hl 0 rfl) ?_
  refine va_get (D := D) (ci := 2) (v := .double a0) (C := RX2) (T := TX2) (N := 4) hx hb hts hin_X2 hown hK hP 0 rfl rfl 0 (by decide) hw_fieldLink_RX2_7_FlowGrid_State_h_D (fun _ h9 => h9) rfl dX2_momentumFlux_18 ?_
  refine lv_dmul hx hb dX2_momentumFlux_21 (n3) ?_
  refine lv_dadd hx hb dX2_momentumFlux_22 (n0) ?_
  exact fz_dret hx hb hr hlocks (rfl) hP hK hD hS dX2_momentumFlux_23
end
section
/-! FlowGrid$Row -/
theorem fz_cpy28 {f g : Nat → UInt64} {i : Nat} (h : i < 28) : va_cpy f g (nI 0).toNatClampNeg (nI 0).toNatClampNeg (nI 28).toNatClampNeg i = f i := by
  rw [nI_clamp (by decide), nI_clamp (by decide)]
  unfold va_cpy
  rw [if_pos (by omega)]
  congr 1
  omega
def fz_b (b : Bool) : Int32 := if b = true then 1 else 0
theorem fz_b0 {b : Bool} : fz_b b = 0 ↔ b = false := by cases b <;> decide
theorem fz_b1 {b : Bool} : ¬ fz_b b = 0 ↔ b = true := by cases b <;> decide
def fz_has (v : Int32) (n : Nat) : Bool := !(decide (v < 0) || decide (nI n ≤ v))
def fz_bad (d m : Nat → UInt64) (k : Nat) : Bool := fz_lt (d (k + 2)) 4576918229304087675 || fz_lt 4652007308841189376 (m (k + 2)) || fz_lt (m (k + 2)) 13875379345695965184
def fz_anyBad (d m : Nat → UInt64) : Nat → Bool
  | 0 => false
  | k + 1 => fz_anyBad d m k || fz_bad d m k
theorem fz_anyBad_of {d m : Nat → UInt64} {k n : Nat} (h : k < n) (hb : fz_bad d m k = true) : fz_anyBad d m n = true := by
  induction n with
  | zero => omega
  | succ n ih =>
    unfold fz_anyBad
    by_cases h2 : k = n
    · subst h2; rw [hb, Bool.or_true]
    · rw [ih (by omega), Bool.true_or]
def fz_wC (d m : Nat → UInt64) : Nat → UInt64
  | 0 => FP.dconst0
  | k + 1 => fz_gtrC (fz_wC d m k) (FP.dadd (fz_abs (FP.ddiv (m (k + 2)) (d (k + 2)))) (fz_root (d (k + 2))))
def fz_longC (most w : UInt64) : UInt64 := if fz_lt FP.dconst0 w = true then fz_lesC most (FP.ddiv 4600877379321698714 w) else most
def fz_kah (f : Nat → UInt64) : Nat → UInt64 × UInt64
  | 0 => (FP.dconst0, FP.dconst0)
  | k + 1 => (FP.dadd (fz_kah f k).1 (FP.dsub (f (k + 2)) (fz_kah f k).2), FP.dsub (FP.dsub (FP.dadd (fz_kah f k).1 (FP.dsub (f (k + 2)) (fz_kah f k).2)) (fz_kah f k).1) (FP.dsub (f (k + 2)) (fz_kah f k).2))
def fz_kahOk (f : Nat → UInt64) (n : Nat) : Prop := ∀ k, k < n → vf_n64 (FP.dsub (f (k + 2)) (fz_kah f k).2) ∧ vf_n64 (FP.dadd (fz_kah f k).1 (FP.dsub (f (k + 2)) (fz_kah f k).2)) ∧ vf_n64 (FP.dsub (FP.dadd (fz_kah f k).1 (FP.dsub (f (k + 2)) (fz_kah f k).2)) (fz_kah f k).1) ∧ vf_n64 (FP.dsub (FP.dsub (FP.dadd (fz_kah f k).1 (FP.dsub (f (k + 2)) (fz_kah f k).2)) (fz_kah f k).1) (FP.dsub (f (k + 2)) (fz_kah f k).2))
def fz_mvG (t : UInt64) (d F : Nat → UInt64) (j : Nat) : UInt64 := FP.dsub (d (j + 2)) (FP.dmul t (FP.dsub (F (j + 1)) (F j)))
def fz_mvOk (t : UInt64) (d F : Nat → UInt64) (n : Nat) : Prop := ∀ j, j < n → vf_n64 (FP.dsub (F (j + 1)) (F j)) ∧ vf_n64 (FP.dmul t (FP.dsub (F (j + 1)) (F j))) ∧ vf_n64 (fz_mvG t d F j)
def fz_mtG (a d : Nat → UInt64) (j : Nat) : UInt64 := FP.dmul fz_half (FP.dadd (a (j + 2)) (d (j + 2)))
def fz_mtOk (a d : Nat → UInt64) (n : Nat) : Prop := ∀ j, j < n → vf_n64 (FP.dadd (a (j + 2)) (d (j + 2))) ∧ vf_n64 (fz_mtG a d j)
def fz_wOk (d m : Nat → UInt64) (n : Nat) : Prop := ∀ k, k < n → fz_stOk (d (k + 2)) (m (k + 2)) ∧ vf_n64 (FP.dadd (fz_abs (FP.ddiv (m (k + 2)) (d (k + 2)))) (fz_root (d (k + 2))))
/-- the four cells beyond the ends: kind 0 ring, 1 wall, 2 open; sg turns the sign at a wall -/
def fz_ends (kd : Nat) (sg : Bool) (n : Nat) (d : Nat → UInt64) : Nat → UInt64 := fun q =>
  if kd = 0 then (if q = 1 then d (n + 1) else if q = 0 then d n else if q = n + 2 then d 2 else if q = n + 3 then d 3 else d q)
  else if kd = 1 then (if q = 1 then (if sg = true then FP.dneg (d 2) else d 2) else if q = 0 then (if sg = true then FP.dneg (d 3) else d 3) else if q = n + 2 then (if sg = true then FP.dneg (d (n + 1)) else d (n + 1)) else if q = n + 3 then (if sg = true then FP.dneg (d n) else d n) else d q)
  else (if q = 1 then d 2 else if q = 0 then d 2 else if q = n + 2 then d (n + 1) else if q = n + 3 then d (n + 1) else d q)

set_option maxHeartbeats 4000000 in
set_option maxRecDepth 100000 in
theorem c_X1_has (l : Launch) (D : va_G) (cD : ClassId) (r rd rm n : Nat) (dd mm : Nat → UInt64) (v : Int32) : fz_C l D [(cD, .double)] yX1_has wsX1_has ({ frames := 0, cells := 0, slots := 0, locals := 0 }) [.ref r, .int v] [(r, .inr (1, [.ref rd, .ref rm, .int (nI n)])), (rd, fz_da cD 28 dd), (rm, fz_da cD 28 mm)] [(r, .inr (1, [.ref rd, .ref rm, .int (nI n)])), (rd, fz_da cD 28 dd), (rm, fz_da cD 28 mm)] (some (.int (fz_b (fz_has v n)))) := by
  refine fz_start (cc := cX1_has) (maxL := 2) (ret := (some .boolean)) (by decide) rfl (Nat.le_of_ble_eq_true rfl) ?_
  intro p e s m below meth c A hx hb hr hlocks hml hown hts hK hA hNW H locs hP hD hS ls hl
  have hl : lv_has ls 2 [(0, .ref r), (1, .int v)] := hl
  have hown : s.vm.findClass RX1 = some m.cls := hown
  have hw_fieldLink_RX1_18_FlowGrid_Row_size_I := hts (.fieldLink RX1 18 "FlowGrid$Row" "size" "I") (by decide +kernel)
  have hin_X1 : ∀ w ∈ u_ws RX1 TX1 3, w ∈ wsX1_has := by decide +kernel
  refine lv_iload_n hx hb dX1_has_0 rfl (lv_at hl 1 rfl) ?_
  refine lv_if_lt (tgt := 16) hx hb dX1_has_1 (by decide) (fun c1 => ?_) (fun c1 => ?_)
  · refine lv_iconst (v := nI 0) hx hb dX1_has_16 (by decide) ?_
    exact fz_zret hx hb hr hlocks rfl (by simp [fz_b, fz_has, nI_0, fz_nI1, c1]) hP hK hD hS dX1_has_17
  · refine lv_iload_n hx hb dX1_has_4 rfl (lv_at hl 1 rfl) ?_
    refine lv_aload_n hx hb dX1_has_5 rfl (lv_at hl 0 rfl) ?_
    refine va_get (D := D) (ci := 1) (v := .int (nI n)) (C := RX1) (T := TX1) (N := 3) hx hb hts hin_X1 hown hK hP 0 rfl rfl 2 (by decide) hw_fieldLink_RX1_18_FlowGrid_Row_size_I (fun _ h9 => h9) rfl dX1_has_6 ?_
    refine lv_icmp_ge (tgt := 16) hx hb dX1_has_9 (by decide) (fun c9 => ?_) (fun c9 => ?_)
    · refine lv_iconst (v := nI 0) hx hb dX1_has_16 (by decide) ?_
      exact fz_zret hx hb hr hlocks rfl (by simp [fz_b, fz_has, nI_0, fz_nI1, c1, c9]) hP hK hD hS dX1_has_17
    · refine lv_iconst (v := nI 1) hx hb dX1_has_12 (by decide) ?_
      refine lv_goto (tgt := 17) hx hb dX1_has_13 (by decide) ?_
      exact fz_zret hx hb hr hlocks rfl (by simp [fz_b, fz_has, nI_0, fz_nI1, c1, c9]) hP hK hD hS dX1_has_17

set_option maxHeartbeats 4000000 in
set_option maxRecDepth 100000 in
theorem c_X1_copy (l : Launch) (D : va_G) (cD : ClassId) (r rd rm n : Nat) (dd mm : Nat → UInt64) (i j : Nat) (hi : i < 28) (hj : j < 28) : fz_C l D [(cD, .double)] yX1_copy wsX1_copy ({ frames := 0, cells := 0, slots := 0, locals := 0 }) [.ref r, .int (nI i), .int (nI j)] [(r, .inr (1, [.ref rd, .ref rm, .int (nI n)])), (rd, fz_da cD 28 dd), (rm, fz_da cD 28 mm)] [(r, .inr (1, [.ref rd, .ref rm, .int (nI n)])), (rd, fz_da cD 28 (vf_upd dd j (dd i))), (rm, fz_da cD 28 (vf_upd mm j (mm i)))] (none) := by
  refine fz_start (cc := cX1_copy) (maxL := 3) (ret := none) (by decide) rfl (Nat.le_of_ble_eq_true rfl) ?_
  intro p e s m below meth c A hx hb hr hlocks hml hown hts hK hA hNW H locs hP hD hS ls hl
  have hl : lv_has ls 3 [(0, .ref r), (1, .int (nI i)), (2, .int (nI j))] := hl
  have hown : s.vm.findClass RX1 = some m.cls := hown
  have hw_fieldLink_RX1_9_FlowGrid_Row_depths_D := hts (.fieldLink RX1 9 "FlowGrid$Row" "depths" "[D") (by decide +kernel)
  have hin_X1 : ∀ w ∈ u_ws RX1 TX1 3, w ∈ wsX1_copy := by decide +kernel
  have hw_fieldLink_RX1_15_FlowGrid_Row_momenta_D := hts (.fieldLink RX1 15 "FlowGrid$Row" "momenta" "[D") (by decide +kernel)
  refine lv_aload_n hx hb dX1_copy_0 rfl (lv_at hl 0 rfl) ?_
  refine va_get (D := D) (ci := 1) (v := .ref rd) (C := RX1) (T := TX1) (N := 3) hx hb hts hin_X1 hown hK hP 0 rfl rfl 0 (by decide) hw_fieldLink_RX1_9_FlowGrid_Row_depths_D (fun _ h9 => h9) rfl dX1_copy_1 ?_
  refine lv_iload_n hx hb dX1_copy_4 rfl (lv_at hl 2 rfl) ?_
  refine lv_aload_n hx hb dX1_copy_5 rfl (lv_at hl 0 rfl) ?_
  refine va_get (D := D) (ci := 1) (v := .ref rd) (C := RX1) (T := TX1) (N := 3) hx hb hts hin_X1 hown hK hP 0 rfl rfl 0 (by decide) hw_fieldLink_RX1_9_FlowGrid_Row_depths_D (fun _ h9 => h9) rfl dX1_copy_6 ?_
  refine lv_iload_n hx hb dX1_copy_9 rfl (lv_at hl 1 rfl) ?_
  refine fz_dald (i := i) hx hb hK hP 1 0 rfl rfl (by omega) (by decide) dX1_copy_10 ?_
  refine fz_dast (i := j) hx hb hK hP hD hS 1 0 rfl rfl (by omega) (by decide) dX1_copy_11 (fun H locs hP hD hS => ?_)
  have hP : va_P D vwCl [(r, .inr (1, [.ref rd, .ref rm, .int (nI n)])), (rd, fz_da cD 28 (vf_upd dd j (dd i))), (rm, fz_da cD 28 mm)] H := hP
  have hD : va_D A [(r, .inr (1, [.ref rd, .ref rm, .int (nI n)])), (rd, fz_da cD 28 (vf_upd dd j (dd i))), (rm, fz_da cD 28 mm)] := hD
  refine lv_aload_n hx hb dX1_copy_12 rfl (lv_at hl 0 rfl) ?_
  refine va_get (D := D) (ci := 1) (v := .ref rm) (C := RX1) (T := TX1) (N := 3) hx hb hts hin_X1 hown hK hP 0 rfl rfl 1 (by decide) hw_fieldLink_RX1_15_FlowGrid_Row_momenta_D (fun _ h9 => h9) rfl dX1_copy_13 ?_
  refine lv_iload_n hx hb dX1_copy_16 rfl (lv_at hl 2 rfl) ?_
  refine lv_aload_n hx hb dX1_copy_17 rfl (lv_at hl 0 rfl) ?_
  refine va_get (D := D) (ci := 1) (v := .ref rm) (C := RX1) (T := TX1) (N := 3) hx hb hts hin_X1 hown hK hP 0 rfl rfl 1 (by decide) hw_fieldLink_RX1_15_FlowGrid_Row_momenta_D (fun _ h9 => h9) rfl dX1_copy_18 ?_
  refine lv_iload_n hx hb dX1_copy_21 rfl (lv_at hl 1 rfl) ?_
  refine fz_dald (i := i) hx hb hK hP 2 0 rfl rfl (by omega) (by decide) dX1_copy_22 ?_
  refine fz_dast (i := j) hx hb hK hP hD hS 2 0 rfl rfl (by omega) (by decide) dX1_copy_23 (fun H locs hP hD hS => ?_)
  have hP : va_P D vwCl [(r, .inr (1, [.ref rd, .ref rm, .int (nI n)])), (rd, fz_da cD 28 (vf_upd dd j (dd i))), (rm, fz_da cD 28 (vf_upd mm j (mm i)))] H := hP
  have hD : va_D A [(r, .inr (1, [.ref rd, .ref rm, .int (nI n)])), (rd, fz_da cD 28 (vf_upd dd j (dd i))), (rm, fz_da cD 28 (vf_upd mm j (mm i)))] := hD
  exact fz_vret hx hb hr hlocks (rfl) hP hK hD hS dX1_copy_24

set_option maxHeartbeats 4000000 in
set_option maxRecDepth 100000 in
theorem c_X1_mirror (l : Launch) (D : va_G) (cD : ClassId) (r rd rm n : Nat) (dd mm : Nat → UInt64) (i j : Nat) (hi : i < 28) (hj : j < 28) : fz_C l D [(cD, .double)] yX1_mirror wsX1_mirror ({ frames := 0, cells := 0, slots := 0, locals := 0 }) [.ref r, .int (nI i), .int (nI j)] [(r, .inr (1, [.ref rd, .ref rm, .int (nI n)])), (rd, fz_da cD 28 dd), (rm, fz_da cD 28 mm)] [(r, .inr (1, [.ref rd, .ref rm, .int (nI n)])), (rd, fz_da cD 28 (vf_upd dd j (dd i))), (rm, fz_da cD 28 (vf_upd mm j (FP.dneg (mm i))))] (none) := by
  refine fz_start (cc := cX1_mirror) (maxL := 3) (ret := none) (by decide) rfl (Nat.le_of_ble_eq_true rfl) ?_
  intro p e s m below meth c A hx hb hr hlocks hml hown hts hK hA hNW H locs hP hD hS ls hl
  have hl : lv_has ls 3 [(0, .ref r), (1, .int (nI i)), (2, .int (nI j))] := hl
  have hown : s.vm.findClass RX1 = some m.cls := hown
  have hw_fieldLink_RX1_9_FlowGrid_Row_depths_D := hts (.fieldLink RX1 9 "FlowGrid$Row" "depths" "[D") (by decide +kernel)
  have hin_X1 : ∀ w ∈ u_ws RX1 TX1 3, w ∈ wsX1_mirror := by decide +kernel
  have hw_fieldLink_RX1_15_FlowGrid_Row_momenta_D := hts (.fieldLink RX1 15 "FlowGrid$Row" "momenta" "[D") (by decide +kernel)
  refine lv_aload_n hx hb dX1_mirror_0 rfl (lv_at hl 0 rfl) ?_
  refine va_get (D := D) (ci := 1) (v := .ref rd) (C := RX1) (T := TX1) (N := 3) hx hb hts hin_X1 hown hK hP 0 rfl rfl 0 (by decide) hw_fieldLink_RX1_9_FlowGrid_Row_depths_D (fun _ h9 => h9) rfl dX1_mirror_1 ?_
  refine lv_iload_n hx hb dX1_mirror_4 rfl (lv_at hl 2 rfl) ?_
  refine lv_aload_n hx hb dX1_mirror_5 rfl (lv_at hl 0 rfl) ?_
  refine va_get (D := D) (ci := 1) (v := .ref rd) (C := RX1) (T := TX1) (N := 3) hx hb hts hin_X1 hown hK hP 0 rfl rfl 0 (by decide) hw_fieldLink_RX1_9_FlowGrid_Row_depths_D (fun _ h9 => h9) rfl dX1_mirror_6 ?_
  refine lv_iload_n hx hb dX1_mirror_9 rfl (lv_at hl 1 rfl) ?_
  refine fz_dald (i := i) hx hb hK hP 1 0 rfl rfl (by omega) (by decide) dX1_mirror_10 ?_
  refine fz_dast (i := j) hx hb hK hP hD hS 1 0 rfl rfl (by omega) (by decide) dX1_mirror_11 (fun H locs hP hD hS => ?_)
  have hP : va_P D vwCl [(r, .inr (1, [.ref rd, .ref rm, .int (nI n)])), (rd, fz_da cD 28 (vf_upd dd j (dd i))), (rm, fz_da cD 28 mm)] H := hP
  have hD : va_D A [(r, .inr (1, [.ref rd, .ref rm, .int (nI n)])), (rd, fz_da cD 28 (vf_upd dd j (dd i))), (rm, fz_da cD 28 mm)] := hD
  refine lv_aload_n hx hb dX1_mirror_12 rfl (lv_at hl 0 rfl) ?_
  refine va_get (D := D) (ci := 1) (v := .ref rm) (C := RX1) (T := TX1) (N := 3) hx hb hts hin_X1 hown hK hP 0 rfl rfl 1 (by decide) hw_fieldLink_RX1_15_FlowGrid_Row_momenta_D (fun _ h9 => h9) rfl dX1_mirror_13 ?_
  refine lv_iload_n hx hb dX1_mirror_16 rfl (lv_at hl 2 rfl) ?_
  refine lv_aload_n hx hb dX1_mirror_17 rfl (lv_at hl 0 rfl) ?_
  refine va_get (D := D) (ci := 1) (v := .ref rm) (C := RX1) (T := TX1) (N := 3) hx hb hts hin_X1 hown hK hP 0 rfl rfl 1 (by decide) hw_fieldLink_RX1_15_FlowGrid_Row_momenta_D (fun _ h9 => h9) rfl dX1_mirror_18 ?_
  refine lv_iload_n hx hb dX1_mirror_21 rfl (lv_at hl 1 rfl) ?_
  refine fz_dald (i := i) hx hb hK hP 2 0 rfl rfl (by omega) (by decide) dX1_mirror_22 ?_
  refine lv_dneg hx hb dX1_mirror_23 ?_
  refine fz_dast (i := j) hx hb hK hP hD hS 2 0 rfl rfl (by omega) (by decide) dX1_mirror_24 (fun H locs hP hD hS => ?_)
  have hP : va_P D vwCl [(r, .inr (1, [.ref rd, .ref rm, .int (nI n)])), (rd, fz_da cD 28 (vf_upd dd j (dd i))), (rm, fz_da cD 28 (vf_upd mm j (FP.dneg (mm i))))] H := hP
  have hD : va_D A [(r, .inr (1, [.ref rd, .ref rm, .int (nI n)])), (rd, fz_da cD 28 (vf_upd dd j (dd i))), (rm, fz_da cD 28 (vf_upd mm j (FP.dneg (mm i))))] := hD
  exact fz_vret hx hb hr hlocks (rfl) hP hK hD hS dX1_mirror_25

set_option maxHeartbeats 4000000 in
set_option maxRecDepth 100000 in
theorem c_X1_level (l : Launch) (D : va_G) (cD : ClassId) (r rd rm : Nat) (n0 v : Int32) (dd mm : Nat → UInt64) : fz_C l D [(cD, .double)] yX1_level wsX1_level ({ frames := 0, cells := 0, slots := 0, locals := 0 }) [.ref r, .int v] [(r, .inr (1, [.ref rd, .ref rm, .int n0])), (rd, fz_da cD 28 dd), (rm, fz_da cD 28 mm)] [(r, .inr (1, [.ref rd, .ref rm, .int v])), (rd, fz_da cD 28 (fz_pre 0 28 (fun _ => FP.dconst1) dd)), (rm, fz_da cD 28 (fz_pre 0 28 (fun _ => FP.dconst0) mm))] (none) := by
  refine fz_start (cc := cX1_level) (maxL := 3) (ret := none) (by decide) rfl (Nat.le_of_ble_eq_true rfl) ?_
  intro p e s m below meth c A hx hb hr hlocks hml hown hts hK hA hNW H locs hP hD hS ls hl
  have hl : lv_has ls 3 [(0, .ref r), (1, .int v)] := hl
  have hown : s.vm.findClass RX1 = some m.cls := hown
  have hw_fieldLink_RX1_18_FlowGrid_Row_size_I := hts (.fieldLink RX1 18 "FlowGrid$Row" "size" "I") (by decide +kernel)
  have hin_X1 : ∀ w ∈ u_ws RX1 TX1 3, w ∈ wsX1_level := by decide +kernel
  have hw_fieldLink_RX1_9_FlowGrid_Row_depths_D := hts (.fieldLink RX1 9 "FlowGrid$Row" "depths" "[D") (by decide +kernel)
  have hw_fieldLink_RX1_15_FlowGrid_Row_momenta_D := hts (.fieldLink RX1 15 "FlowGrid$Row" "momenta" "[D") (by decide +kernel)
  refine lv_aload_n hx hb dX1_level_0 rfl (lv_at hl 0 rfl) ?_
  refine lv_iload_n hx hb dX1_level_1 rfl (lv_at hl 1 rfl) ?_
  refine va_put (D := D) (ci := 1) (v := .int v) (ty := .int) (C := RX1) (T := TX1) (N := 3) hx hb hts hin_X1 tyX1 tyX1_ok nmX1 hown hK hP hD hS 0 rfl rfl 2 (by decide) hw_fieldLink_RX1_18_FlowGrid_Row_size_I (fun _ h9 => h9) rfl (by decide +kernel) rfl rfl (Nat.le_of_ble_eq_true rfl) dX1_level_2 (fun H locs hP hD hS => ?_)
  have hP : va_P D vwCl [(r, .inr (1, [.ref rd, .ref rm, .int v])), (rd, fz_da cD 28 dd), (rm, fz_da cD 28 mm)] H := hP
  have hD : va_D A [(r, .inr (1, [.ref rd, .ref rm, .int v])), (rd, fz_da cD 28 dd), (rm, fz_da cD 28 mm)] := hD
  refine lv_iconst (v := nI 0) hx hb dX1_level_5 (by decide) ?_
  refine lv_istore_n (lv' := [(2, .int (nI 0)), (0, .ref r), (1, .int v)]) hx hb dX1_level_6 rfl hl (by decide) rfl (fun ls hl => ?_)
  have loop7 : ∀ (it k : Nat), k ≤ 28 → 28 < k + it → ∀ (H : Heap) (locs : List Loc) (ls : Array Slot), va_P D vwCl [(r, .inr (1, [.ref rd, .ref rm, .int v])), (rd, fz_da cD 28 (fz_pre 0 k (fun _ => FP.dconst1) dd)), (rm, fz_da cD 28 (fz_pre 0 k (fun _ => FP.dconst0) mm))] H → va_D A [(r, .inr (1, [.ref rd, .ref rm, .int v])), (rd, fz_da cD 28 (fz_pre 0 k (fun _ => FP.dconst1) dd)), (rm, fz_da cD 28 (fz_pre 0 k (fun _ => FP.dconst0) mm))] → va_S A s.heap H locs → lv_has ls 3 [(0, .ref r), (1, .int v), (2, .int (nI k))] → W p l e ({ frames := 0, cells := 0, slots := 0, locals := 0 }) s m ([.ref r, .int v] : List Value).toArray below meth c H locs 0 0 (MQ below (fz_O D [(cD, .double)] [(r, .inr (1, [.ref rd, .ref rm, .int v])), (rd, fz_da cD 28 (fz_pre 0 28 (fun _ => FP.dconst1) dd)), (rm, fz_da cD 28 (fz_pre 0 28 (fun _ => FP.dconst0) mm))] (none) A) ([.ref r, .int v] : List Value).toArray s 0 0 A) (F0 m 7 ls []) := by
    intro it
    induction it with
    | zero => intro k h1 h2; exact absurd h2 (by omega)
    | succ it ih =>
      intro k hkk hnk H locs ls hP hD hS hl
      refine lv_iload_n hx hb dX1_level_7 rfl (lv_at hl 2 rfl) ?_
      refine lv_bipush (v := nI 28) hx hb dX1_level_8 (by decide) ?_
      refine fz_icmp_geN (tgt := 33) hx hb (by omega) (by omega) dX1_level_10 (by decide) (fun c10 => ?_) (fun c10 => ?_)
      · have hkz : 28 = k := by omega
        subst hkz
        exact fz_vret hx hb hr hlocks (rfl) hP hK hD hS dX1_level_33
      · refine lv_aload_n hx hb dX1_level_13 rfl (lv_at hl 0 rfl) ?_
        refine va_get (D := D) (ci := 1) (v := .ref rd) (C := RX1) (T := TX1) (N := 3) hx hb hts hin_X1 hown hK hP 0 rfl rfl 0 (by decide) hw_fieldLink_RX1_9_FlowGrid_Row_depths_D (fun _ h9 => h9) rfl dX1_level_14 ?_
        refine lv_iload_n hx hb dX1_level_17 rfl (lv_at hl 2 rfl) ?_
        refine lv_dconst1 hx hb dX1_level_18 ?_
        refine fz_dast (i := k) hx hb hK hP hD hS 1 0 rfl rfl (by omega) (by decide) dX1_level_19 (fun H locs hP hD hS => ?_)
        have hP : va_P D vwCl [(r, .inr (1, [.ref rd, .ref rm, .int v])), (rd, fz_da cD 28 (vf_upd (fz_pre 0 k (fun _ => FP.dconst1) dd) k FP.dconst1)), (rm, fz_da cD 28 (fz_pre 0 k (fun _ => FP.dconst0) mm))] H := hP
        have hD : va_D A [(r, .inr (1, [.ref rd, .ref rm, .int v])), (rd, fz_da cD 28 (vf_upd (fz_pre 0 k (fun _ => FP.dconst1) dd) k FP.dconst1)), (rm, fz_da cD 28 (fz_pre 0 k (fun _ => FP.dconst0) mm))] := hD
        have hP : va_P D vwCl [(r, .inr (1, [.ref rd, .ref rm, .int v])), (rd, fz_da cD 28 (fz_pre 0 (k + 1) (fun _ => FP.dconst1) dd)), (rm, fz_da cD 28 (fz_pre 0 k (fun _ => FP.dconst0) mm))] H := by rw [← fz_pre_s 0 k (fun _ => FP.dconst1) dd]; exact hP
        have hD : va_D A [(r, .inr (1, [.ref rd, .ref rm, .int v])), (rd, fz_da cD 28 (fz_pre 0 (k + 1) (fun _ => FP.dconst1) dd)), (rm, fz_da cD 28 (fz_pre 0 k (fun _ => FP.dconst0) mm))] := by rw [← fz_pre_s 0 k (fun _ => FP.dconst1) dd]; exact hD
        refine lv_aload_n hx hb dX1_level_20 rfl (lv_at hl 0 rfl) ?_
        refine va_get (D := D) (ci := 1) (v := .ref rm) (C := RX1) (T := TX1) (N := 3) hx hb hts hin_X1 hown hK hP 0 rfl rfl 1 (by decide) hw_fieldLink_RX1_15_FlowGrid_Row_momenta_D (fun _ h9 => h9) rfl dX1_level_21 ?_
        refine lv_iload_n hx hb dX1_level_24 rfl (lv_at hl 2 rfl) ?_
        refine lv_dconst0 hx hb dX1_level_25 ?_
        refine fz_dast (i := k) hx hb hK hP hD hS 2 0 rfl rfl (by omega) (by decide) dX1_level_26 (fun H locs hP hD hS => ?_)
        have hP : va_P D vwCl [(r, .inr (1, [.ref rd, .ref rm, .int v])), (rd, fz_da cD 28 (fz_pre 0 (k + 1) (fun _ => FP.dconst1) dd)), (rm, fz_da cD 28 (vf_upd (fz_pre 0 k (fun _ => FP.dconst0) mm) k FP.dconst0))] H := hP
        have hD : va_D A [(r, .inr (1, [.ref rd, .ref rm, .int v])), (rd, fz_da cD 28 (fz_pre 0 (k + 1) (fun _ => FP.dconst1) dd)), (rm, fz_da cD 28 (vf_upd (fz_pre 0 k (fun _ => FP.dconst0) mm) k FP.dconst0))] := hD
        have hP : va_P D vwCl [(r, .inr (1, [.ref rd, .ref rm, .int v])), (rd, fz_da cD 28 (fz_pre 0 (k + 1) (fun _ => FP.dconst1) dd)), (rm, fz_da cD 28 (fz_pre 0 (k + 1) (fun _ => FP.dconst0) mm))] H := by rw [← fz_pre_s 0 k (fun _ => FP.dconst0) mm]; exact hP
        have hD : va_D A [(r, .inr (1, [.ref rd, .ref rm, .int v])), (rd, fz_da cD 28 (fz_pre 0 (k + 1) (fun _ => FP.dconst1) dd)), (rm, fz_da cD 28 (fz_pre 0 (k + 1) (fun _ => FP.dconst0) mm))] := by rw [← fz_pre_s 0 k (fun _ => FP.dconst0) mm]; exact hD
        refine lv_iinc (v := nI (k + 1)) (lv' := [(2, .int (nI (k + 1))), (0, .ref r), (1, .int v)]) hx hb dX1_level_27 hl (k := 2) rfl (nI_1 _) (by decide) rfl (fun ls hl => ?_)
        refine lv_goto (tgt := 7) hx hb dX1_level_30 (by decide) ?_
        exact ih (k + 1) (by omega) (by omega) H locs ls (hP) (hD) hS (lv_sub hl [1, 2, 0] rfl)
  exact loop7 (28 + 1) 0 (by omega) (by omega) H locs ls (by rw [fz_pre_0, fz_pre_0]; exact hP) (by rw [fz_pre_0, fz_pre_0]; exact hD) hS (lv_sub hl [1, 2, 0] rfl)

set_option maxHeartbeats 4000000 in
set_option maxRecDepth 100000 in
theorem c_X1_become (l : Launch) (D : va_G) (cD : ClassId) (r rd rm n : Nat) (dd mm : Nat → UInt64) (q qd qm n2 : Nat) (ee ff : Nat → UInt64) : fz_C l D [(cD, .double)] yX1_become wsX1_become ({ frames := 1, cells := 0, slots := 0, locals := 40 }) [.ref r, .ref q] [(r, .inr (1, [.ref rd, .ref rm, .int (nI n)])), (rd, fz_da cD 28 dd), (rm, fz_da cD 28 mm), (q, .inr (1, [.ref qd, .ref qm, .int (nI n2)])), (qd, fz_da cD 28 ee), (qm, fz_da cD 28 ff)] [(r, .inr (1, [.ref rd, .ref rm, .int (nI n2)])), (rd, fz_da cD 28 ee), (rm, fz_da cD 28 ff), (q, .inr (1, [.ref qd, .ref qm, .int (nI n2)])), (qd, fz_da cD 28 ee), (qm, fz_da cD 28 ff)] (none) := by
  refine fz_start (cc := cX1_become) (maxL := 2) (ret := none) (by decide) rfl (Nat.le_of_ble_eq_true rfl) ?_
  intro p e s m below meth c A hx hb hr hlocks hml hown hts hK hA hNW H locs hP hD hS ls hl
  have hl : lv_has ls 2 [(0, .ref r), (1, .ref q)] := hl
  have hown : s.vm.findClass RX1 = some m.cls := hown
  have hw_fieldLink_RX1_18_FlowGrid_Row_size_I := hts (.fieldLink RX1 18 "FlowGrid$Row" "size" "I") (by decide +kernel)
  have hin_X1 : ∀ w ∈ u_ws RX1 TX1 3, w ∈ wsX1_become := by decide +kernel
  have hw_fieldLink_RX1_9_FlowGrid_Row_depths_D := hts (.fieldLink RX1 9 "FlowGrid$Row" "depths" "[D") (by decide +kernel)
  have hw_methodLink_RX1_22_arraycopyName := hts (.methodLink RX1 22 arraycopyName) (by decide +kernel)
  have hw_native_arraycopyName := hts (.native arraycopyName) (by decide +kernel)
  have hw_static_arraycopyName := hts (.static arraycopyName) (by decide +kernel)
  have hw_initialized_java_lang_System := hts (.initialized "java/lang/System") (by decide +kernel)
  have hw_fieldLink_RX1_15_FlowGrid_Row_momenta_D := hts (.fieldLink RX1 15 "FlowGrid$Row" "momenta" "[D") (by decide +kernel)
  refine lv_aload_n hx hb dX1_become_0 rfl (lv_at hl 0 rfl) ?_
  refine lv_aload_n hx hb dX1_become_1 rfl (lv_at hl 1 rfl) ?_
  refine va_get (D := D) (ci := 1) (v := .int (nI n2)) (C := RX1) (T := TX1) (N := 3) hx hb hts hin_X1 hown hK hP 3 rfl rfl 2 (by decide) hw_fieldLink_RX1_18_FlowGrid_Row_size_I (fun _ h9 => h9) rfl dX1_become_2 ?_
  refine va_put (D := D) (ci := 1) (v := .int (nI n2)) (ty := .int) (C := RX1) (T := TX1) (N := 3) hx hb hts hin_X1 tyX1 tyX1_ok nmX1 hown hK hP hD hS 0 rfl rfl 2 (by decide) hw_fieldLink_RX1_18_FlowGrid_Row_size_I (fun _ h9 => h9) rfl (by decide +kernel) rfl rfl (Nat.le_of_ble_eq_true rfl) dX1_become_5 (fun H locs hP hD hS => ?_)
  have hP : va_P D vwCl [(r, .inr (1, [.ref rd, .ref rm, .int (nI n2)])), (rd, fz_da cD 28 dd), (rm, fz_da cD 28 mm), (q, .inr (1, [.ref qd, .ref qm, .int (nI n2)])), (qd, fz_da cD 28 ee), (qm, fz_da cD 28 ff)] H := hP
  have hD : va_D A [(r, .inr (1, [.ref rd, .ref rm, .int (nI n2)])), (rd, fz_da cD 28 dd), (rm, fz_da cD 28 mm), (q, .inr (1, [.ref qd, .ref qm, .int (nI n2)])), (qd, fz_da cD 28 ee), (qm, fz_da cD 28 ff)] := hD
  refine lv_aload_n hx hb dX1_become_8 rfl (lv_at hl 1 rfl) ?_
  refine va_get (D := D) (ci := 1) (v := .ref qd) (C := RX1) (T := TX1) (N := 3) hx hb hts hin_X1 hown hK hP 3 rfl rfl 0 (by decide) hw_fieldLink_RX1_9_FlowGrid_Row_depths_D (fun _ h9 => h9) rfl dX1_become_9 ?_
  refine lv_iconst (v := nI 0) hx hb dX1_become_12 (by decide) ?_
  refine lv_aload_n hx hb dX1_become_13 rfl (lv_at hl 0 rfl) ?_
  refine va_get (D := D) (ci := 1) (v := .ref rd) (C := RX1) (T := TX1) (N := 3) hx hb hts hin_X1 hown hK hP 0 rfl rfl 0 (by decide) hw_fieldLink_RX1_9_FlowGrid_Row_depths_D (fun _ h9 => h9) rfl dX1_become_14 ?_
  refine lv_iconst (v := nI 0) hx hb dX1_become_17 (by decide) ?_
  refine lv_bipush (v := nI 28) hx hb dX1_become_18 (by decide) ?_
  refine va_copyd (ty := .double) hx hb (hml.trans hl.1.symm) hown hw_methodLink_RX1_22_arraycopyName hw_native_arraycopyName hw_static_arraycopyName hw_initialized_java_lang_System hK hP hD hS 4 1 0 0 rfl rfl rfl rfl rfl (by decide) (by decide) (by decide) (by decide) (by decide) (fun _ _ => rfl) (Nat.le_of_ble_eq_true rfl) (Nat.le_of_ble_eq_true rfl) dX1_become_20 (fun H locs hP hD hS => ?_)
  obtain ⟨hP, hD⟩ := fz_swapf (a := rd) (cD := cD) (n := 28) (g := ee) 1 rfl (fun i hi => fz_cpy28 hi) hP hD
  have hP : va_P D vwCl [(r, .inr (1, [.ref rd, .ref rm, .int (nI n2)])), (rd, fz_da cD 28 ee), (rm, fz_da cD 28 mm), (q, .inr (1, [.ref qd, .ref qm, .int (nI n2)])), (qd, fz_da cD 28 ee), (qm, fz_da cD 28 ff)] H := hP
  have hD : va_D A [(r, .inr (1, [.ref rd, .ref rm, .int (nI n2)])), (rd, fz_da cD 28 ee), (rm, fz_da cD 28 mm), (q, .inr (1, [.ref qd, .ref qm, .int (nI n2)])), (qd, fz_da cD 28 ee), (qm, fz_da cD 28 ff)] := hD
  refine lv_aload_n hx hb dX1_become_23 rfl (lv_at hl 1 rfl) ?_
  refine va_get (D := D) (ci := 1) (v := .ref qm) (C := RX1) (T := TX1) (N := 3) hx hb hts hin_X1 hown hK hP 3 rfl rfl 1 (by decide) hw_fieldLink_RX1_15_FlowGrid_Row_momenta_D (fun _ h9 => h9) rfl dX1_become_24 ?_
  refine lv_iconst (v := nI 0) hx hb dX1_become_27 (by decide) ?_
  refine lv_aload_n hx hb dX1_become_28 rfl (lv_at hl 0 rfl) ?_
  refine va_get (D := D) (ci := 1) (v := .ref rm) (C := RX1) (T := TX1) (N := 3) hx hb hts hin_X1 hown hK hP 0 rfl rfl 1 (by decide) hw_fieldLink_RX1_15_FlowGrid_Row_momenta_D (fun _ h9 => h9) rfl dX1_become_29 ?_
  refine lv_iconst (v := nI 0) hx hb dX1_become_32 (by decide) ?_
  refine lv_bipush (v := nI 28) hx hb dX1_become_33 (by decide) ?_
  refine va_copyd (ty := .double) hx hb (hml.trans hl.1.symm) hown hw_methodLink_RX1_22_arraycopyName hw_native_arraycopyName hw_static_arraycopyName hw_initialized_java_lang_System hK hP hD hS 5 2 0 0 rfl rfl rfl rfl rfl (by decide) (by decide) (by decide) (by decide) (by decide) (fun _ _ => rfl) (Nat.le_of_ble_eq_true rfl) (Nat.le_of_ble_eq_true rfl) dX1_become_35 (fun H locs hP hD hS => ?_)
  obtain ⟨hP, hD⟩ := fz_swapf (a := rm) (cD := cD) (n := 28) (g := ff) 2 rfl (fun i hi => fz_cpy28 hi) hP hD
  have hP : va_P D vwCl [(r, .inr (1, [.ref rd, .ref rm, .int (nI n2)])), (rd, fz_da cD 28 ee), (rm, fz_da cD 28 ff), (q, .inr (1, [.ref qd, .ref qm, .int (nI n2)])), (qd, fz_da cD 28 ee), (qm, fz_da cD 28 ff)] H := hP
  have hD : va_D A [(r, .inr (1, [.ref rd, .ref rm, .int (nI n2)])), (rd, fz_da cD 28 ee), (rm, fz_da cD 28 ff), (q, .inr (1, [.ref qd, .ref qm, .int (nI n2)])), (qd, fz_da cD 28 ee), (qm, fz_da cD 28 ff)] := hD
  exact fz_vret hx hb hr hlocks (rfl) hP hK hD hS dX1_become_38

set_option maxHeartbeats 4000000 in
set_option maxRecDepth 100000 in
theorem c_X1_fillEnds0 (l : Launch) (D : va_G) (cD : ClassId) (r rd rm n : Nat) (dd mm : Nat → UInt64) (hn4 : 4 ≤ n) (hn : n ≤ 24) : fz_C l D [(cD, .double)] yX1_fillEnds wsX1_fillEnds ({ frames := 1, cells := 0, slots := 0, locals := 30 }) [.ref r, .int (nI 0)] [(r, .inr (1, [.ref rd, .ref rm, .int (nI n)])), (rd, fz_da cD 28 dd), (rm, fz_da cD 28 mm)] [(r, .inr (1, [.ref rd, .ref rm, .int (nI n)])), (rd, fz_da cD 28 (fz_ends 0 false n dd)), (rm, fz_da cD 28 (fz_ends 0 true n mm))] (none) := by
  refine fz_start (cc := cX1_fillEnds) (maxL := 5) (ret := none) (by decide) rfl (Nat.le_of_ble_eq_true rfl) ?_
  intro p e s m below meth c A hx hb hr hlocks hml hown hts hK hA hNW H locs hP hD hS ls hl
  have hl : lv_has ls 5 [(0, .ref r), (1, .int (nI 0))] := hl
  have hown : s.vm.findClass RX1 = some m.cls := hown
  have hw_fieldLink_RX1_18_FlowGrid_Row_size_I := hts (.fieldLink RX1 18 "FlowGrid$Row" "size" "I") (by decide +kernel)
  have hin_X1 : ∀ w ∈ u_ws RX1 TX1 3, w ∈ wsX1_fillEnds := by decide +kernel
  refine lv_iconst (v := nI 2) hx hb dX1_fillEnds_0 (by decide) ?_
  refine lv_istore_n (lv' := [(2, .int (nI 2)), (0, .ref r), (1, .int (nI 0))]) hx hb dX1_fillEnds_1 rfl hl (by decide) rfl (fun ls hl => ?_)
  refine lv_iconst (v := nI 2) hx hb dX1_fillEnds_2 (by decide) ?_
  refine lv_aload_n hx hb dX1_fillEnds_3 rfl (lv_at hl 1 rfl) ?_
  refine va_get (D := D) (ci := 1) (v := .int (nI n)) (C := RX1) (T := TX1) (N := 3) hx hb hts hin_X1 hown hK hP 0 rfl rfl 2 (by decide) hw_fieldLink_RX1_18_FlowGrid_Row_size_I (fun _ h9 => h9) rfl dX1_fillEnds_4 ?_
  refine fz_iaddN hx hb dX1_fillEnds_7 ?_
  refine fz_topn (b := n + 2) (by omega) ?_
  refine lv_iconst (v := nI 1) hx hb dX1_fillEnds_8 (by decide) ?_
  refine fz_isubN hx hb (by omega) dX1_fillEnds_9 ?_
  refine fz_topn (b := n + 1) (by omega) ?_
  refine lv_istore_n (lv' := [(3, .int (nI (n + 1))), (2, .int (nI 2)), (0, .ref r), (1, .int (nI 0))]) hx hb dX1_fillEnds_10 rfl hl (by decide) rfl (fun ls hl => ?_)
  refine lv_iconst (v := nI 1) hx hb dX1_fillEnds_11 (by decide) ?_
  refine lv_istore (lv' := [(4, .int (nI 1)), (3, .int (nI (n + 1))), (2, .int (nI 2)), (0, .ref r), (1, .int (nI 0))]) hx hb dX1_fillEnds_12 hl (by decide) rfl (fun ls hl => ?_)
  refine lv_iload hx hb dX1_fillEnds_14 (lv_at hl 0 rfl) ?_
  refine lv_iconst (v := nI 2) hx hb dX1_fillEnds_16 (by decide) ?_
  refine fz_icmp_gtN (tgt := 134) hx hb (by omega) (by omega) dX1_fillEnds_17 (by decide) (fun c17 => absurd c17 (by decide)) (fun c17 => ?_)
  refine lv_iload_n hx hb dX1_fillEnds_20 rfl (lv_at hl 4 rfl) ?_
  refine lv_lookup (off := 27) (tgt := 48) hx hb dX1_fillEnds_21 (by decide) (by decide) (by decide) ?_
  refine lv_aload_n hx hb dX1_fillEnds_48 rfl (lv_at hl 3 rfl) ?_
  refine lv_iload_n hx hb dX1_fillEnds_49 rfl (lv_at hl 1 rfl) ?_
  refine lv_iconst (v := nI 1) hx hb dX1_fillEnds_50 (by decide) ?_
  refine fz_iaddN hx hb dX1_fillEnds_51 ?_
  refine fz_topn (b := n + 2) (by omega) ?_
  refine lv_iload hx hb dX1_fillEnds_52 (lv_at hl 0 rfl) ?_
  refine fz_isubN hx hb (by omega) dX1_fillEnds_54 ?_
  refine fz_topn (b := n + 1) (by omega) ?_
  refine lv_iload_n hx hb dX1_fillEnds_55 rfl (lv_at hl 2 rfl) ?_
  refine lv_iload hx hb dX1_fillEnds_56 (lv_at hl 0 rfl) ?_
  refine fz_isubN hx hb (by omega) dX1_fillEnds_58 ?_
  refine fz_topn (b := 1) (by omega) ?_
  refine fz_callV (ws' := [(r, .inr (1, [.ref rd, .ref rm, .int (nI n)])), (rd, fz_da cD 28 (vf_upd dd 1 (dd (n + 1)))), (rm, fz_da cD 28 (vf_upd mm 1 (mm (n + 1))))]) (wr := []) (As := [.int (nI (n + 1)), .int (nI 1)]) (rest := []) ⟨hx, hb, hml, hown, hts⟩ (c_X1_copy l D cD r rd rm n dd mm (n + 1) 1 (by omega) (by omega)) (cwV 2 hts gX1_fillEnds_X1_copy rfl rfl rfl (by decide +kernel) ⟨Nat.le_of_ble_eq_true rfl, Nat.le_of_ble_eq_true rfl⟩) hK hNW hP hD hS hA [0, 1, 2] [] [0, 1, 2] rfl rfl rfl rfl (by decide) rfl rfl (q0 := 0) (ci := 1) rfl rfl rfl rfl hl.1 rfl (Nat.le_of_ble_eq_true rfl) dX1_fillEnds_59 ⟨Nat.zero_le _, Nat.zero_le _⟩ (fun H locs hP hD hS => ?_)
  refine lv_aload_n hx hb dX1_fillEnds_62 rfl (lv_at hl 3 rfl) ?_
  refine lv_iload_n hx hb dX1_fillEnds_63 rfl (lv_at hl 2 rfl) ?_
  refine lv_iconst (v := nI 1) hx hb dX1_fillEnds_64 (by decide) ?_
  refine fz_isubN hx hb (by omega) dX1_fillEnds_65 ?_
  refine fz_topn (b := 1) (by omega) ?_
  refine lv_iload hx hb dX1_fillEnds_66 (lv_at hl 0 rfl) ?_
  refine fz_iaddN hx hb dX1_fillEnds_68 ?_
  refine fz_topn (b := 2) (by omega) ?_
  refine lv_iload_n hx hb dX1_fillEnds_69 rfl (lv_at hl 1 rfl) ?_
  refine lv_iload hx hb dX1_fillEnds_70 (lv_at hl 0 rfl) ?_
  refine fz_iaddN hx hb dX1_fillEnds_72 ?_
  refine fz_topn (b := n + 2) (by omega) ?_
  refine fz_callV (ws' := [(r, .inr (1, [.ref rd, .ref rm, .int (nI n)])), (rd, fz_da cD 28 (vf_upd (vf_upd dd 1 (dd (n + 1))) (n + 2) ((vf_upd dd 1 (dd (n + 1))) 2))), (rm, fz_da cD 28 (vf_upd (vf_upd mm 1 (mm (n + 1))) (n + 2) ((vf_upd mm 1 (mm (n + 1))) 2)))]) (wr := []) (As := [.int (nI 2), .int (nI (n + 2))]) (rest := []) ⟨hx, hb, hml, hown, hts⟩ (c_X1_copy l D cD r rd rm n (vf_upd dd 1 (dd (n + 1))) (vf_upd mm 1 (mm (n + 1))) 2 (n + 2) (by omega) (by omega)) (cwV 2 hts gX1_fillEnds_X1_copy rfl rfl rfl (by decide +kernel) ⟨Nat.le_of_ble_eq_true rfl, Nat.le_of_ble_eq_true rfl⟩) hK hNW hP hD hS hA [0, 1, 2] [] [0, 1, 2] rfl rfl rfl rfl (by decide) rfl rfl (q0 := 0) (ci := 1) rfl rfl rfl rfl hl.1 rfl (Nat.le_of_ble_eq_true rfl) dX1_fillEnds_73 ⟨Nat.zero_le _, Nat.zero_le _⟩ (fun H locs hP hD hS => ?_)
  refine lv_goto (tgt := 128) hx hb dX1_fillEnds_76 (by decide) ?_
  refine lv_iinc (v := nI (2)) (lv' := [(4, .int (nI 2)), (3, .int (nI (n + 1))), (2, .int (nI 2)), (0, .ref r), (1, .int (nI 0))]) hx hb dX1_fillEnds_128 hl (k := 0) rfl (nI_1 _) (by decide) rfl (fun ls hl => ?_)
  refine lv_goto (tgt := 14) hx hb dX1_fillEnds_131 (by decide) ?_
  refine lv_iload hx hb dX1_fillEnds_14 (lv_at hl 0 rfl) ?_
  refine lv_iconst (v := nI 2) hx hb dX1_fillEnds_16 (by decide) ?_
  refine fz_icmp_gtN (tgt := 134) hx hb (by omega) (by omega) dX1_fillEnds_17 (by decide) (fun c17 => absurd c17 (by decide)) (fun c17 => ?_)
  refine lv_iload_n hx hb dX1_fillEnds_20 rfl (lv_at hl 4 rfl) ?_
  refine lv_lookup (off := 27) (tgt := 48) hx hb dX1_fillEnds_21 (by decide) (by decide) (by decide) ?_
  refine lv_aload_n hx hb dX1_fillEnds_48 rfl (lv_at hl 3 rfl) ?_
  refine lv_iload_n hx hb dX1_fillEnds_49 rfl (lv_at hl 1 rfl) ?_
  refine lv_iconst (v := nI 1) hx hb dX1_fillEnds_50 (by decide) ?_
  refine fz_iaddN hx hb dX1_fillEnds_51 ?_
  refine fz_topn (b := n + 2) (by omega) ?_
  refine lv_iload hx hb dX1_fillEnds_52 (lv_at hl 0 rfl) ?_
  refine fz_isubN hx hb (by omega) dX1_fillEnds_54 ?_
  refine fz_topn (b := n) (by omega) ?_
  refine lv_iload_n hx hb dX1_fillEnds_55 rfl (lv_at hl 2 rfl) ?_
  refine lv_iload hx hb dX1_fillEnds_56 (lv_at hl 0 rfl) ?_
  refine fz_isubN hx hb (by omega) dX1_fillEnds_58 ?_
  refine fz_topn (b := 0) (by omega) ?_
  refine fz_callV (ws' := [(r, .inr (1, [.ref rd, .ref rm, .int (nI n)])), (rd, fz_da cD 28 (vf_upd (vf_upd (vf_upd dd 1 (dd (n + 1))) (n + 2) ((vf_upd dd 1 (dd (n + 1))) 2)) 0 ((vf_upd (vf_upd dd 1 (dd (n + 1))) (n + 2) ((vf_upd dd 1 (dd (n + 1))) 2)) n))), (rm, fz_da cD 28 (vf_upd (vf_upd (vf_upd mm 1 (mm (n + 1))) (n + 2) ((vf_upd mm 1 (mm (n + 1))) 2)) 0 ((vf_upd (vf_upd mm 1 (mm (n + 1))) (n + 2) ((vf_upd mm 1 (mm (n + 1))) 2)) n)))]) (wr := []) (As := [.int (nI n), .int (nI 0)]) (rest := []) ⟨hx, hb, hml, hown, hts⟩ (c_X1_copy l D cD r rd rm n (vf_upd (vf_upd dd 1 (dd (n + 1))) (n + 2) ((vf_upd dd 1 (dd (n + 1))) 2)) (vf_upd (vf_upd mm 1 (mm (n + 1))) (n + 2) ((vf_upd mm 1 (mm (n + 1))) 2)) n 0 (by omega) (by omega)) (cwV 2 hts gX1_fillEnds_X1_copy rfl rfl rfl (by decide +kernel) ⟨Nat.le_of_ble_eq_true rfl, Nat.le_of_ble_eq_true rfl⟩) hK hNW hP hD hS hA [0, 1, 2] [] [0, 1, 2] rfl rfl rfl rfl (by decide) rfl rfl (q0 := 0) (ci := 1) rfl rfl rfl rfl hl.1 rfl (Nat.le_of_ble_eq_true rfl) dX1_fillEnds_59 ⟨Nat.zero_le _, Nat.zero_le _⟩ (fun H locs hP hD hS => ?_)
  refine lv_aload_n hx hb dX1_fillEnds_62 rfl (lv_at hl 3 rfl) ?_
  refine lv_iload_n hx hb dX1_fillEnds_63 rfl (lv_at hl 2 rfl) ?_
  refine lv_iconst (v := nI 1) hx hb dX1_fillEnds_64 (by decide) ?_
  refine fz_isubN hx hb (by omega) dX1_fillEnds_65 ?_
  refine fz_topn (b := 1) (by omega) ?_
  refine lv_iload hx hb dX1_fillEnds_66 (lv_at hl 0 rfl) ?_
  refine fz_iaddN hx hb dX1_fillEnds_68 ?_
  refine fz_topn (b := 3) (by omega) ?_
  refine lv_iload_n hx hb dX1_fillEnds_69 rfl (lv_at hl 1 rfl) ?_
  refine lv_iload hx hb dX1_fillEnds_70 (lv_at hl 0 rfl) ?_
  refine fz_iaddN hx hb dX1_fillEnds_72 ?_
  refine fz_topn (b := n + 3) (by omega) ?_
  refine fz_callV (ws' := [(r, .inr (1, [.ref rd, .ref rm, .int (nI n)])), (rd, fz_da cD 28 (vf_upd (vf_upd (vf_upd (vf_upd dd 1 (dd (n + 1))) (n + 2) ((vf_upd dd 1 (dd (n + 1))) 2)) 0 ((vf_upd (vf_upd dd 1 (dd (n + 1))) (n + 2) ((vf_upd dd 1 (dd (n + 1))) 2)) n)) (n + 3) ((vf_upd (vf_upd (vf_upd dd 1 (dd (n + 1))) (n + 2) ((vf_upd dd 1 (dd (n + 1))) 2)) 0 ((vf_upd (vf_upd dd 1 (dd (n + 1))) (n + 2) ((vf_upd dd 1 (dd (n + 1))) 2)) n)) 3))), (rm, fz_da cD 28 (vf_upd (vf_upd (vf_upd (vf_upd mm 1 (mm (n + 1))) (n + 2) ((vf_upd mm 1 (mm (n + 1))) 2)) 0 ((vf_upd (vf_upd mm 1 (mm (n + 1))) (n + 2) ((vf_upd mm 1 (mm (n + 1))) 2)) n)) (n + 3) ((vf_upd (vf_upd (vf_upd mm 1 (mm (n + 1))) (n + 2) ((vf_upd mm 1 (mm (n + 1))) 2)) 0 ((vf_upd (vf_upd mm 1 (mm (n + 1))) (n + 2) ((vf_upd mm 1 (mm (n + 1))) 2)) n)) 3)))]) (wr := []) (As := [.int (nI 3), .int (nI (n + 3))]) (rest := []) ⟨hx, hb, hml, hown, hts⟩ (c_X1_copy l D cD r rd rm n (vf_upd (vf_upd (vf_upd dd 1 (dd (n + 1))) (n + 2) ((vf_upd dd 1 (dd (n + 1))) 2)) 0 ((vf_upd (vf_upd dd 1 (dd (n + 1))) (n + 2) ((vf_upd dd 1 (dd (n + 1))) 2)) n)) (vf_upd (vf_upd (vf_upd mm 1 (mm (n + 1))) (n + 2) ((vf_upd mm 1 (mm (n + 1))) 2)) 0 ((vf_upd (vf_upd mm 1 (mm (n + 1))) (n + 2) ((vf_upd mm 1 (mm (n + 1))) 2)) n)) 3 (n + 3) (by omega) (by omega)) (cwV 2 hts gX1_fillEnds_X1_copy rfl rfl rfl (by decide +kernel) ⟨Nat.le_of_ble_eq_true rfl, Nat.le_of_ble_eq_true rfl⟩) hK hNW hP hD hS hA [0, 1, 2] [] [0, 1, 2] rfl rfl rfl rfl (by decide) rfl rfl (q0 := 0) (ci := 1) rfl rfl rfl rfl hl.1 rfl (Nat.le_of_ble_eq_true rfl) dX1_fillEnds_73 ⟨Nat.zero_le _, Nat.zero_le _⟩ (fun H locs hP hD hS => ?_)
  refine lv_goto (tgt := 128) hx hb dX1_fillEnds_76 (by decide) ?_
  refine lv_iinc (v := nI (3)) (lv' := [(4, .int (nI 3)), (3, .int (nI (n + 1))), (2, .int (nI 2)), (0, .ref r), (1, .int (nI 0))]) hx hb dX1_fillEnds_128 hl (k := 0) rfl (nI_1 _) (by decide) rfl (fun ls hl => ?_)
  refine lv_goto (tgt := 14) hx hb dX1_fillEnds_131 (by decide) ?_
  refine lv_iload hx hb dX1_fillEnds_14 (lv_at hl 0 rfl) ?_
  refine lv_iconst (v := nI 2) hx hb dX1_fillEnds_16 (by decide) ?_
  refine fz_icmp_gtN (tgt := 134) hx hb (by omega) (by omega) dX1_fillEnds_17 (by decide) (fun c17 => ?_) (fun c17 => absurd c17 (by decide))
  obtain ⟨hP, hD⟩ := fz_swapf (a := rd) (cD := cD) (n := 28) (g := fz_ends 0 false n dd) 1 rfl (fun i hi => by unfold fz_ends vf_upd; repeat (first | rfl | (split <;> try (subst_vars; simp_all) <;> try omega))) hP hD
  have hP : va_P D vwCl [(r, .inr (1, [.ref rd, .ref rm, .int (nI n)])), (rd, fz_da cD 28 (fz_ends 0 false n dd)), (rm, fz_da cD 28 (vf_upd (vf_upd (vf_upd (vf_upd mm 1 (mm (n + 1))) (n + 2) ((vf_upd mm 1 (mm (n + 1))) 2)) 0 ((vf_upd (vf_upd mm 1 (mm (n + 1))) (n + 2) ((vf_upd mm 1 (mm (n + 1))) 2)) n)) (n + 3) ((vf_upd (vf_upd (vf_upd mm 1 (mm (n + 1))) (n + 2) ((vf_upd mm 1 (mm (n + 1))) 2)) 0 ((vf_upd (vf_upd mm 1 (mm (n + 1))) (n + 2) ((vf_upd mm 1 (mm (n + 1))) 2)) n)) 3)))] H := hP
  have hD : va_D A [(r, .inr (1, [.ref rd, .ref rm, .int (nI n)])), (rd, fz_da cD 28 (fz_ends 0 false n dd)), (rm, fz_da cD 28 (vf_upd (vf_upd (vf_upd (vf_upd mm 1 (mm (n + 1))) (n + 2) ((vf_upd mm 1 (mm (n + 1))) 2)) 0 ((vf_upd (vf_upd mm 1 (mm (n + 1))) (n + 2) ((vf_upd mm 1 (mm (n + 1))) 2)) n)) (n + 3) ((vf_upd (vf_upd (vf_upd mm 1 (mm (n + 1))) (n + 2) ((vf_upd mm 1 (mm (n + 1))) 2)) 0 ((vf_upd (vf_upd mm 1 (mm (n + 1))) (n + 2) ((vf_upd mm 1 (mm (n + 1))) 2)) n)) 3)))] := hD
  obtain ⟨hP, hD⟩ := fz_swapf (a := rm) (cD := cD) (n := 28) (g := fz_ends 0 true n mm) 2 rfl (fun i hi => by unfold fz_ends vf_upd; repeat (first | rfl | (split <;> try (subst_vars; simp_all) <;> try omega))) hP hD
  have hP : va_P D vwCl [(r, .inr (1, [.ref rd, .ref rm, .int (nI n)])), (rd, fz_da cD 28 (fz_ends 0 false n dd)), (rm, fz_da cD 28 (fz_ends 0 true n mm))] H := hP
  have hD : va_D A [(r, .inr (1, [.ref rd, .ref rm, .int (nI n)])), (rd, fz_da cD 28 (fz_ends 0 false n dd)), (rm, fz_da cD 28 (fz_ends 0 true n mm))] := hD
  exact fz_vret hx hb hr hlocks (rfl) hP hK hD hS dX1_fillEnds_134

set_option maxHeartbeats 4000000 in
set_option maxRecDepth 100000 in
theorem c_X1_fillEnds1 (l : Launch) (D : va_G) (cD : ClassId) (r rd rm n : Nat) (dd mm : Nat → UInt64) (hn4 : 4 ≤ n) (hn : n ≤ 24) : fz_C l D [(cD, .double)] yX1_fillEnds wsX1_fillEnds ({ frames := 1, cells := 0, slots := 0, locals := 30 }) [.ref r, .int (nI 1)] [(r, .inr (1, [.ref rd, .ref rm, .int (nI n)])), (rd, fz_da cD 28 dd), (rm, fz_da cD 28 mm)] [(r, .inr (1, [.ref rd, .ref rm, .int (nI n)])), (rd, fz_da cD 28 (fz_ends 1 false n dd)), (rm, fz_da cD 28 (fz_ends 1 true n mm))] (none) := by
  refine fz_start (cc := cX1_fillEnds) (maxL := 5) (ret := none) (by decide) rfl (Nat.le_of_ble_eq_true rfl) ?_
  intro p e s m below meth c A hx hb hr hlocks hml hown hts hK hA hNW H locs hP hD hS ls hl
  have hl : lv_has ls 5 [(0, .ref r), (1, .int (nI 1))] := hl
  have hown : s.vm.findClass RX1 = some m.cls := hown
  have hw_fieldLink_RX1_18_FlowGrid_Row_size_I := hts (.fieldLink RX1 18 "FlowGrid$Row" "size" "I") (by decide +kernel)
  have hin_X1 : ∀ w ∈ u_ws RX1 TX1 3, w ∈ wsX1_fillEnds := by decide +kernel
  refine lv_iconst (v := nI 2) hx hb dX1_fillEnds_0 (by decide) ?_
  refine lv_istore_n (lv' := [(2, .int (nI 2)), (0, .ref r), (1, .int (nI 1))]) hx hb dX1_fillEnds_1 rfl hl (by decide) rfl (fun ls hl => ?_)
  refine lv_iconst (v := nI 2) hx hb dX1_fillEnds_2 (by decide) ?_
  refine lv_aload_n hx hb dX1_fillEnds_3 rfl (lv_at hl 1 rfl) ?_
  refine va_get (D := D) (ci := 1) (v := .int (nI n)) (C := RX1) (T := TX1) (N := 3) hx hb hts hin_X1 hown hK hP 0 rfl rfl 2 (by decide) hw_fieldLink_RX1_18_FlowGrid_Row_size_I (fun _ h9 => h9) rfl dX1_fillEnds_4 ?_
  refine fz_iaddN hx hb dX1_fillEnds_7 ?_
  refine fz_topn (b := n + 2) (by omega) ?_
  refine lv_iconst (v := nI 1) hx hb dX1_fillEnds_8 (by decide) ?_
  refine fz_isubN hx hb (by omega) dX1_fillEnds_9 ?_
  refine fz_topn (b := n + 1) (by omega) ?_
  refine lv_istore_n (lv' := [(3, .int (nI (n + 1))), (2, .int (nI 2)), (0, .ref r), (1, .int (nI 1))]) hx hb dX1_fillEnds_10 rfl hl (by decide) rfl (fun ls hl => ?_)
  refine lv_iconst (v := nI 1) hx hb dX1_fillEnds_11 (by decide) ?_
  refine lv_istore (lv' := [(4, .int (nI 1)), (3, .int (nI (n + 1))), (2, .int (nI 2)), (0, .ref r), (1, .int (nI 1))]) hx hb dX1_fillEnds_12 hl (by decide) rfl (fun ls hl => ?_)
  refine lv_iload hx hb dX1_fillEnds_14 (lv_at hl 0 rfl) ?_
  refine lv_iconst (v := nI 2) hx hb dX1_fillEnds_16 (by decide) ?_
  refine fz_icmp_gtN (tgt := 134) hx hb (by omega) (by omega) dX1_fillEnds_17 (by decide) (fun c17 => absurd c17 (by decide)) (fun c17 => ?_)
  refine lv_iload_n hx hb dX1_fillEnds_20 rfl (lv_at hl 4 rfl) ?_
  refine lv_lookup (off := 58) (tgt := 79) hx hb dX1_fillEnds_21 (by decide) (by decide) (by decide) ?_
  refine lv_aload_n hx hb dX1_fillEnds_79 rfl (lv_at hl 3 rfl) ?_
  refine lv_iload_n hx hb dX1_fillEnds_80 rfl (lv_at hl 2 rfl) ?_
  refine lv_iconst (v := nI 1) hx hb dX1_fillEnds_81 (by decide) ?_
  refine fz_isubN hx hb (by omega) dX1_fillEnds_82 ?_
  refine fz_topn (b := 1) (by omega) ?_
  refine lv_iload hx hb dX1_fillEnds_83 (lv_at hl 0 rfl) ?_
  refine fz_iaddN hx hb dX1_fillEnds_85 ?_
  refine fz_topn (b := 2) (by omega) ?_
  refine lv_iload_n hx hb dX1_fillEnds_86 rfl (lv_at hl 2 rfl) ?_
  refine lv_iload hx hb dX1_fillEnds_87 (lv_at hl 0 rfl) ?_
  refine fz_isubN hx hb (by omega) dX1_fillEnds_89 ?_
  refine fz_topn (b := 1) (by omega) ?_
  refine fz_callV (ws' := [(r, .inr (1, [.ref rd, .ref rm, .int (nI n)])), (rd, fz_da cD 28 (vf_upd dd 1 (dd 2))), (rm, fz_da cD 28 (vf_upd mm 1 (FP.dneg (mm 2))))]) (wr := []) (As := [.int (nI 2), .int (nI 1)]) (rest := []) ⟨hx, hb, hml, hown, hts⟩ (c_X1_mirror l D cD r rd rm n dd mm 2 1 (by omega) (by omega)) (cwV 2 hts gX1_fillEnds_X1_mirror rfl rfl rfl (by decide +kernel) ⟨Nat.le_of_ble_eq_true rfl, Nat.le_of_ble_eq_true rfl⟩) hK hNW hP hD hS hA [0, 1, 2] [] [0, 1, 2] rfl rfl rfl rfl (by decide) rfl rfl (q0 := 0) (ci := 1) rfl rfl rfl rfl hl.1 rfl (Nat.le_of_ble_eq_true rfl) dX1_fillEnds_90 ⟨Nat.zero_le _, Nat.zero_le _⟩ (fun H locs hP hD hS => ?_)
  refine lv_aload_n hx hb dX1_fillEnds_93 rfl (lv_at hl 3 rfl) ?_
  refine lv_iload_n hx hb dX1_fillEnds_94 rfl (lv_at hl 1 rfl) ?_
  refine lv_iconst (v := nI 1) hx hb dX1_fillEnds_95 (by decide) ?_
  refine fz_iaddN hx hb dX1_fillEnds_96 ?_
  refine fz_topn (b := n + 2) (by omega) ?_
  refine lv_iload hx hb dX1_fillEnds_97 (lv_at hl 0 rfl) ?_
  refine fz_isubN hx hb (by omega) dX1_fillEnds_99 ?_
  refine fz_topn (b := n + 1) (by omega) ?_
  refine lv_iload_n hx hb dX1_fillEnds_100 rfl (lv_at hl 1 rfl) ?_
  refine lv_iload hx hb dX1_fillEnds_101 (lv_at hl 0 rfl) ?_
  refine fz_iaddN hx hb dX1_fillEnds_103 ?_
  refine fz_topn (b := n + 2) (by omega) ?_
  refine fz_callV (ws' := [(r, .inr (1, [.ref rd, .ref rm, .int (nI n)])), (rd, fz_da cD 28 (vf_upd (vf_upd dd 1 (dd 2)) (n + 2) ((vf_upd dd 1 (dd 2)) (n + 1)))), (rm, fz_da cD 28 (vf_upd (vf_upd mm 1 (FP.dneg (mm 2))) (n + 2) (FP.dneg ((vf_upd mm 1 (FP.dneg (mm 2))) (n + 1)))))]) (wr := []) (As := [.int (nI (n + 1)), .int (nI (n + 2))]) (rest := []) ⟨hx, hb, hml, hown, hts⟩ (c_X1_mirror l D cD r rd rm n (vf_upd dd 1 (dd 2)) (vf_upd mm 1 (FP.dneg (mm 2))) (n + 1) (n + 2) (by omega) (by omega)) (cwV 2 hts gX1_fillEnds_X1_mirror rfl rfl rfl (by decide +kernel) ⟨Nat.le_of_ble_eq_true rfl, Nat.le_of_ble_eq_true rfl⟩) hK hNW hP hD hS hA [0, 1, 2] [] [0, 1, 2] rfl rfl rfl rfl (by decide) rfl rfl (q0 := 0) (ci := 1) rfl rfl rfl rfl hl.1 rfl (Nat.le_of_ble_eq_true rfl) dX1_fillEnds_104 ⟨Nat.zero_le _, Nat.zero_le _⟩ (fun H locs hP hD hS => ?_)
  refine lv_goto (tgt := 128) hx hb dX1_fillEnds_107 (by decide) ?_
  refine lv_iinc (v := nI (2)) (lv' := [(4, .int (nI 2)), (3, .int (nI (n + 1))), (2, .int (nI 2)), (0, .ref r), (1, .int (nI 1))]) hx hb dX1_fillEnds_128 hl (k := 0) rfl (nI_1 _) (by decide) rfl (fun ls hl => ?_)
  refine lv_goto (tgt := 14) hx hb dX1_fillEnds_131 (by decide) ?_
  refine lv_iload hx hb dX1_fillEnds_14 (lv_at hl 0 rfl) ?_
  refine lv_iconst (v := nI 2) hx hb dX1_fillEnds_16 (by decide) ?_
  refine fz_icmp_gtN (tgt := 134) hx hb (by omega) (by omega) dX1_fillEnds_17 (by decide) (fun c17 => absurd c17 (by decide)) (fun c17 => ?_)
  refine lv_iload_n hx hb dX1_fillEnds_20 rfl (lv_at hl 4 rfl) ?_
  refine lv_lookup (off := 58) (tgt := 79) hx hb dX1_fillEnds_21 (by decide) (by decide) (by decide) ?_
  refine lv_aload_n hx hb dX1_fillEnds_79 rfl (lv_at hl 3 rfl) ?_
  refine lv_iload_n hx hb dX1_fillEnds_80 rfl (lv_at hl 2 rfl) ?_
  refine lv_iconst (v := nI 1) hx hb dX1_fillEnds_81 (by decide) ?_
  refine fz_isubN hx hb (by omega) dX1_fillEnds_82 ?_
  refine fz_topn (b := 1) (by omega) ?_
  refine lv_iload hx hb dX1_fillEnds_83 (lv_at hl 0 rfl) ?_
  refine fz_iaddN hx hb dX1_fillEnds_85 ?_
  refine fz_topn (b := 3) (by omega) ?_
  refine lv_iload_n hx hb dX1_fillEnds_86 rfl (lv_at hl 2 rfl) ?_
  refine lv_iload hx hb dX1_fillEnds_87 (lv_at hl 0 rfl) ?_
  refine fz_isubN hx hb (by omega) dX1_fillEnds_89 ?_
  refine fz_topn (b := 0) (by omega) ?_
  refine fz_callV (ws' := [(r, .inr (1, [.ref rd, .ref rm, .int (nI n)])), (rd, fz_da cD 28 (vf_upd (vf_upd (vf_upd dd 1 (dd 2)) (n + 2) ((vf_upd dd 1 (dd 2)) (n + 1))) 0 ((vf_upd (vf_upd dd 1 (dd 2)) (n + 2) ((vf_upd dd 1 (dd 2)) (n + 1))) 3))), (rm, fz_da cD 28 (vf_upd (vf_upd (vf_upd mm 1 (FP.dneg (mm 2))) (n + 2) (FP.dneg ((vf_upd mm 1 (FP.dneg (mm 2))) (n + 1)))) 0 (FP.dneg ((vf_upd (vf_upd mm 1 (FP.dneg (mm 2))) (n + 2) (FP.dneg ((vf_upd mm 1 (FP.dneg (mm 2))) (n + 1)))) 3))))]) (wr := []) (As := [.int (nI 3), .int (nI 0)]) (rest := []) ⟨hx, hb, hml, hown, hts⟩ (c_X1_mirror l D cD r rd rm n (vf_upd (vf_upd dd 1 (dd 2)) (n + 2) ((vf_upd dd 1 (dd 2)) (n + 1))) (vf_upd (vf_upd mm 1 (FP.dneg (mm 2))) (n + 2) (FP.dneg ((vf_upd mm 1 (FP.dneg (mm 2))) (n + 1)))) 3 0 (by omega) (by omega)) (cwV 2 hts gX1_fillEnds_X1_mirror rfl rfl rfl (by decide +kernel) ⟨Nat.le_of_ble_eq_true rfl, Nat.le_of_ble_eq_true rfl⟩) hK hNW hP hD hS hA [0, 1, 2] [] [0, 1, 2] rfl rfl rfl rfl (by decide) rfl rfl (q0 := 0) (ci := 1) rfl rfl rfl rfl hl.1 rfl (Nat.le_of_ble_eq_true rfl) dX1_fillEnds_90 ⟨Nat.zero_le _, Nat.zero_le _⟩ (fun H locs hP hD hS => ?_)
  refine lv_aload_n hx hb dX1_fillEnds_93 rfl (lv_at hl 3 rfl) ?_
  refine lv_iload_n hx hb dX1_fillEnds_94 rfl (lv_at hl 1 rfl) ?_
  refine lv_iconst (v := nI 1) hx hb dX1_fillEnds_95 (by decide) ?_
  refine fz_iaddN hx hb dX1_fillEnds_96 ?_
  refine fz_topn (b := n + 2) (by omega) ?_
  refine lv_iload hx hb dX1_fillEnds_97 (lv_at hl 0 rfl) ?_
  refine fz_isubN hx hb (by omega) dX1_fillEnds_99 ?_
  refine fz_topn (b := n) (by omega) ?_
  refine lv_iload_n hx hb dX1_fillEnds_100 rfl (lv_at hl 1 rfl) ?_
  refine lv_iload hx hb dX1_fillEnds_101 (lv_at hl 0 rfl) ?_
  refine fz_iaddN hx hb dX1_fillEnds_103 ?_
  refine fz_topn (b := n + 3) (by omega) ?_
  refine fz_callV (ws' := [(r, .inr (1, [.ref rd, .ref rm, .int (nI n)])), (rd, fz_da cD 28 (vf_upd (vf_upd (vf_upd (vf_upd dd 1 (dd 2)) (n + 2) ((vf_upd dd 1 (dd 2)) (n + 1))) 0 ((vf_upd (vf_upd dd 1 (dd 2)) (n + 2) ((vf_upd dd 1 (dd 2)) (n + 1))) 3)) (n + 3) ((vf_upd (vf_upd (vf_upd dd 1 (dd 2)) (n + 2) ((vf_upd dd 1 (dd 2)) (n + 1))) 0 ((vf_upd (vf_upd dd 1 (dd 2)) (n + 2) ((vf_upd dd 1 (dd 2)) (n + 1))) 3)) n))), (rm, fz_da cD 28 (vf_upd (vf_upd (vf_upd (vf_upd mm 1 (FP.dneg (mm 2))) (n + 2) (FP.dneg ((vf_upd mm 1 (FP.dneg (mm 2))) (n + 1)))) 0 (FP.dneg ((vf_upd (vf_upd mm 1 (FP.dneg (mm 2))) (n + 2) (FP.dneg ((vf_upd mm 1 (FP.dneg (mm 2))) (n + 1)))) 3))) (n + 3) (FP.dneg ((vf_upd (vf_upd (vf_upd mm 1 (FP.dneg (mm 2))) (n + 2) (FP.dneg ((vf_upd mm 1 (FP.dneg (mm 2))) (n + 1)))) 0 (FP.dneg ((vf_upd (vf_upd mm 1 (FP.dneg (mm 2))) (n + 2) (FP.dneg ((vf_upd mm 1 (FP.dneg (mm 2))) (n + 1)))) 3))) n))))]) (wr := []) (As := [.int (nI n), .int (nI (n + 3))]) (rest := []) ⟨hx, hb, hml, hown, hts⟩ (c_X1_mirror l D cD r rd rm n (vf_upd (vf_upd (vf_upd dd 1 (dd 2)) (n + 2) ((vf_upd dd 1 (dd 2)) (n + 1))) 0 ((vf_upd (vf_upd dd 1 (dd 2)) (n + 2) ((vf_upd dd 1 (dd 2)) (n + 1))) 3)) (vf_upd (vf_upd (vf_upd mm 1 (FP.dneg (mm 2))) (n + 2) (FP.dneg ((vf_upd mm 1 (FP.dneg (mm 2))) (n + 1)))) 0 (FP.dneg ((vf_upd (vf_upd mm 1 (FP.dneg (mm 2))) (n + 2) (FP.dneg ((vf_upd mm 1 (FP.dneg (mm 2))) (n + 1)))) 3))) n (n + 3) (by omega) (by omega)) (cwV 2 hts gX1_fillEnds_X1_mirror rfl rfl rfl (by decide +kernel) ⟨Nat.le_of_ble_eq_true rfl, Nat.le_of_ble_eq_true rfl⟩) hK hNW hP hD hS hA [0, 1, 2] [] [0, 1, 2] rfl rfl rfl rfl (by decide) rfl rfl (q0 := 0) (ci := 1) rfl rfl rfl rfl hl.1 rfl (Nat.le_of_ble_eq_true rfl) dX1_fillEnds_104 ⟨Nat.zero_le _, Nat.zero_le _⟩ (fun H locs hP hD hS => ?_)
  refine lv_goto (tgt := 128) hx hb dX1_fillEnds_107 (by decide) ?_
  refine lv_iinc (v := nI (3)) (lv' := [(4, .int (nI 3)), (3, .int (nI (n + 1))), (2, .int (nI 2)), (0, .ref r), (1, .int (nI 1))]) hx hb dX1_fillEnds_128 hl (k := 0) rfl (nI_1 _) (by decide) rfl (fun ls hl => ?_)
  refine lv_goto (tgt := 14) hx hb dX1_fillEnds_131 (by decide) ?_
  refine lv_iload hx hb dX1_fillEnds_14 (lv_at hl 0 rfl) ?_
  refine lv_iconst (v := nI 2) hx hb dX1_fillEnds_16 (by decide) ?_
  refine fz_icmp_gtN (tgt := 134) hx hb (by omega) (by omega) dX1_fillEnds_17 (by decide) (fun c17 => ?_) (fun c17 => absurd c17 (by decide))
  obtain ⟨hP, hD⟩ := fz_swapf (a := rd) (cD := cD) (n := 28) (g := fz_ends 1 false n dd) 1 rfl (fun i hi => by unfold fz_ends vf_upd; repeat (first | rfl | (split <;> try (subst_vars; simp_all) <;> try omega))) hP hD
  have hP : va_P D vwCl [(r, .inr (1, [.ref rd, .ref rm, .int (nI n)])), (rd, fz_da cD 28 (fz_ends 1 false n dd)), (rm, fz_da cD 28 (vf_upd (vf_upd (vf_upd (vf_upd mm 1 (FP.dneg (mm 2))) (n + 2) (FP.dneg ((vf_upd mm 1 (FP.dneg (mm 2))) (n + 1)))) 0 (FP.dneg ((vf_upd (vf_upd mm 1 (FP.dneg (mm 2))) (n + 2) (FP.dneg ((vf_upd mm 1 (FP.dneg (mm 2))) (n + 1)))) 3))) (n + 3) (FP.dneg ((vf_upd (vf_upd (vf_upd mm 1 (FP.dneg (mm 2))) (n + 2) (FP.dneg ((vf_upd mm 1 (FP.dneg (mm 2))) (n + 1)))) 0 (FP.dneg ((vf_upd (vf_upd mm 1 (FP.dneg (mm 2))) (n + 2) (FP.dneg ((vf_upd mm 1 (FP.dneg (mm 2))) (n + 1)))) 3))) n))))] H := hP
  have hD : va_D A [(r, .inr (1, [.ref rd, .ref rm, .int (nI n)])), (rd, fz_da cD 28 (fz_ends 1 false n dd)), (rm, fz_da cD 28 (vf_upd (vf_upd (vf_upd (vf_upd mm 1 (FP.dneg (mm 2))) (n + 2) (FP.dneg ((vf_upd mm 1 (FP.dneg (mm 2))) (n + 1)))) 0 (FP.dneg ((vf_upd (vf_upd mm 1 (FP.dneg (mm 2))) (n + 2) (FP.dneg ((vf_upd mm 1 (FP.dneg (mm 2))) (n + 1)))) 3))) (n + 3) (FP.dneg ((vf_upd (vf_upd (vf_upd mm 1 (FP.dneg (mm 2))) (n + 2) (FP.dneg ((vf_upd mm 1 (FP.dneg (mm 2))) (n + 1)))) 0 (FP.dneg ((vf_upd (vf_upd mm 1 (FP.dneg (mm 2))) (n + 2) (FP.dneg ((vf_upd mm 1 (FP.dneg (mm 2))) (n + 1)))) 3))) n))))] := hD
  obtain ⟨hP, hD⟩ := fz_swapf (a := rm) (cD := cD) (n := 28) (g := fz_ends 1 true n mm) 2 rfl (fun i hi => by unfold fz_ends vf_upd; repeat (first | rfl | (split <;> try (subst_vars; simp_all) <;> try omega))) hP hD
  have hP : va_P D vwCl [(r, .inr (1, [.ref rd, .ref rm, .int (nI n)])), (rd, fz_da cD 28 (fz_ends 1 false n dd)), (rm, fz_da cD 28 (fz_ends 1 true n mm))] H := hP
  have hD : va_D A [(r, .inr (1, [.ref rd, .ref rm, .int (nI n)])), (rd, fz_da cD 28 (fz_ends 1 false n dd)), (rm, fz_da cD 28 (fz_ends 1 true n mm))] := hD
  exact fz_vret hx hb hr hlocks (rfl) hP hK hD hS dX1_fillEnds_134

set_option maxHeartbeats 4000000 in
set_option maxRecDepth 100000 in
theorem c_X1_fillEnds2 (l : Launch) (D : va_G) (cD : ClassId) (r rd rm n : Nat) (dd mm : Nat → UInt64) (hn4 : 4 ≤ n) (hn : n ≤ 24) : fz_C l D [(cD, .double)] yX1_fillEnds wsX1_fillEnds ({ frames := 1, cells := 0, slots := 0, locals := 30 }) [.ref r, .int (nI 2)] [(r, .inr (1, [.ref rd, .ref rm, .int (nI n)])), (rd, fz_da cD 28 dd), (rm, fz_da cD 28 mm)] [(r, .inr (1, [.ref rd, .ref rm, .int (nI n)])), (rd, fz_da cD 28 (fz_ends 2 false n dd)), (rm, fz_da cD 28 (fz_ends 2 true n mm))] (none) := by
  refine fz_start (cc := cX1_fillEnds) (maxL := 5) (ret := none) (by decide) rfl (Nat.le_of_ble_eq_true rfl) ?_
  intro p e s m below meth c A hx hb hr hlocks hml hown hts hK hA hNW H locs hP hD hS ls hl
  have hl : lv_has ls 5 [(0, .ref r), (1, .int (nI 2))] := hl
  have hown : s.vm.findClass RX1 = some m.cls := hown
  have hw_fieldLink_RX1_18_FlowGrid_Row_size_I := hts (.fieldLink RX1 18 "FlowGrid$Row" "size" "I") (by decide +kernel)
  have hin_X1 : ∀ w ∈ u_ws RX1 TX1 3, w ∈ wsX1_fillEnds := by decide +kernel
  refine lv_iconst (v := nI 2) hx hb dX1_fillEnds_0 (by decide) ?_
  refine lv_istore_n (lv' := [(2, .int (nI 2)), (0, .ref r), (1, .int (nI 2))]) hx hb dX1_fillEnds_1 rfl hl (by decide) rfl (fun ls hl => ?_)
  refine lv_iconst (v := nI 2) hx hb dX1_fillEnds_2 (by decide) ?_
  refine lv_aload_n hx hb dX1_fillEnds_3 rfl (lv_at hl 1 rfl) ?_
  refine va_get (D := D) (ci := 1) (v := .int (nI n)) (C := RX1) (T := TX1) (N := 3) hx hb hts hin_X1 hown hK hP 0 rfl rfl 2 (by decide) hw_fieldLink_RX1_18_FlowGrid_Row_size_I (fun _ h9 => h9) rfl dX1_fillEnds_4 ?_
  refine fz_iaddN hx hb dX1_fillEnds_7 ?_
  refine fz_topn (b := n + 2) (by omega) ?_
  refine lv_iconst (v := nI 1) hx hb dX1_fillEnds_8 (by decide) ?_
  refine fz_isubN hx hb (by omega) dX1_fillEnds_9 ?_
  refine fz_topn (b := n + 1) (by omega) ?_
  refine lv_istore_n (lv' := [(3, .int (nI (n + 1))), (2, .int (nI 2)), (0, .ref r), (1, .int (nI 2))]) hx hb dX1_fillEnds_10 rfl hl (by decide) rfl (fun ls hl => ?_)
  refine lv_iconst (v := nI 1) hx hb dX1_fillEnds_11 (by decide) ?_
  refine lv_istore (lv' := [(4, .int (nI 1)), (3, .int (nI (n + 1))), (2, .int (nI 2)), (0, .ref r), (1, .int (nI 2))]) hx hb dX1_fillEnds_12 hl (by decide) rfl (fun ls hl => ?_)
  refine lv_iload hx hb dX1_fillEnds_14 (lv_at hl 0 rfl) ?_
  refine lv_iconst (v := nI 2) hx hb dX1_fillEnds_16 (by decide) ?_
  refine fz_icmp_gtN (tgt := 134) hx hb (by omega) (by omega) dX1_fillEnds_17 (by decide) (fun c17 => absurd c17 (by decide)) (fun c17 => ?_)
  refine lv_iload_n hx hb dX1_fillEnds_20 rfl (lv_at hl 4 rfl) ?_
  refine lv_lookup (off := 89) (tgt := 110) hx hb dX1_fillEnds_21 (by decide) (by decide) (by decide) ?_
  refine lv_aload_n hx hb dX1_fillEnds_110 rfl (lv_at hl 3 rfl) ?_
  refine lv_iload_n hx hb dX1_fillEnds_111 rfl (lv_at hl 2 rfl) ?_
  refine lv_iload_n hx hb dX1_fillEnds_112 rfl (lv_at hl 2 rfl) ?_
  refine lv_iload hx hb dX1_fillEnds_113 (lv_at hl 0 rfl) ?_
  refine fz_isubN hx hb (by omega) dX1_fillEnds_115 ?_
  refine fz_topn (b := 1) (by omega) ?_
  refine fz_callV (ws' := [(r, .inr (1, [.ref rd, .ref rm, .int (nI n)])), (rd, fz_da cD 28 (vf_upd dd 1 (dd 2))), (rm, fz_da cD 28 (vf_upd mm 1 (mm 2)))]) (wr := []) (As := [.int (nI 2), .int (nI 1)]) (rest := []) ⟨hx, hb, hml, hown, hts⟩ (c_X1_copy l D cD r rd rm n dd mm 2 1 (by omega) (by omega)) (cwV 2 hts gX1_fillEnds_X1_copy rfl rfl rfl (by decide +kernel) ⟨Nat.le_of_ble_eq_true rfl, Nat.le_of_ble_eq_true rfl⟩) hK hNW hP hD hS hA [0, 1, 2] [] [0, 1, 2] rfl rfl rfl rfl (by decide) rfl rfl (q0 := 0) (ci := 1) rfl rfl rfl rfl hl.1 rfl (Nat.le_of_ble_eq_true rfl) dX1_fillEnds_116 ⟨Nat.zero_le _, Nat.zero_le _⟩ (fun H locs hP hD hS => ?_)
  refine lv_aload_n hx hb dX1_fillEnds_119 rfl (lv_at hl 3 rfl) ?_
  refine lv_iload_n hx hb dX1_fillEnds_120 rfl (lv_at hl 1 rfl) ?_
  refine lv_iload_n hx hb dX1_fillEnds_121 rfl (lv_at hl 1 rfl) ?_
  refine lv_iload hx hb dX1_fillEnds_122 (lv_at hl 0 rfl) ?_
  refine fz_iaddN hx hb dX1_fillEnds_124 ?_
  refine fz_topn (b := n + 2) (by omega) ?_
  refine fz_callV (ws' := [(r, .inr (1, [.ref rd, .ref rm, .int (nI n)])), (rd, fz_da cD 28 (vf_upd (vf_upd dd 1 (dd 2)) (n + 2) ((vf_upd dd 1 (dd 2)) (n + 1)))), (rm, fz_da cD 28 (vf_upd (vf_upd mm 1 (mm 2)) (n + 2) ((vf_upd mm 1 (mm 2)) (n + 1))))]) (wr := []) (As := [.int (nI (n + 1)), .int (nI (n + 2))]) (rest := []) ⟨hx, hb, hml, hown, hts⟩ (c_X1_copy l D cD r rd rm n (vf_upd dd 1 (dd 2)) (vf_upd mm 1 (mm 2)) (n + 1) (n + 2) (by omega) (by omega)) (cwV 2 hts gX1_fillEnds_X1_copy rfl rfl rfl (by decide +kernel) ⟨Nat.le_of_ble_eq_true rfl, Nat.le_of_ble_eq_true rfl⟩) hK hNW hP hD hS hA [0, 1, 2] [] [0, 1, 2] rfl rfl rfl rfl (by decide) rfl rfl (q0 := 0) (ci := 1) rfl rfl rfl rfl hl.1 rfl (Nat.le_of_ble_eq_true rfl) dX1_fillEnds_125 ⟨Nat.zero_le _, Nat.zero_le _⟩ (fun H locs hP hD hS => ?_)
  refine lv_iinc (v := nI (2)) (lv' := [(4, .int (nI 2)), (3, .int (nI (n + 1))), (2, .int (nI 2)), (0, .ref r), (1, .int (nI 2))]) hx hb dX1_fillEnds_128 hl (k := 0) rfl (nI_1 _) (by decide) rfl (fun ls hl => ?_)
  refine lv_goto (tgt := 14) hx hb dX1_fillEnds_131 (by decide) ?_
  refine lv_iload hx hb dX1_fillEnds_14 (lv_at hl 0 rfl) ?_
  refine lv_iconst (v := nI 2) hx hb dX1_fillEnds_16 (by decide) ?_
  refine fz_icmp_gtN (tgt := 134) hx hb (by omega) (by omega) dX1_fillEnds_17 (by decide) (fun c17 => absurd c17 (by decide)) (fun c17 => ?_)
  refine lv_iload_n hx hb dX1_fillEnds_20 rfl (lv_at hl 4 rfl) ?_
  refine lv_lookup (off := 89) (tgt := 110) hx hb dX1_fillEnds_21 (by decide) (by decide) (by decide) ?_
  refine lv_aload_n hx hb dX1_fillEnds_110 rfl (lv_at hl 3 rfl) ?_
  refine lv_iload_n hx hb dX1_fillEnds_111 rfl (lv_at hl 2 rfl) ?_
  refine lv_iload_n hx hb dX1_fillEnds_112 rfl (lv_at hl 2 rfl) ?_
  refine lv_iload hx hb dX1_fillEnds_113 (lv_at hl 0 rfl) ?_
  refine fz_isubN hx hb (by omega) dX1_fillEnds_115 ?_
  refine fz_topn (b := 0) (by omega) ?_
  refine fz_callV (ws' := [(r, .inr (1, [.ref rd, .ref rm, .int (nI n)])), (rd, fz_da cD 28 (vf_upd (vf_upd (vf_upd dd 1 (dd 2)) (n + 2) ((vf_upd dd 1 (dd 2)) (n + 1))) 0 ((vf_upd (vf_upd dd 1 (dd 2)) (n + 2) ((vf_upd dd 1 (dd 2)) (n + 1))) 2))), (rm, fz_da cD 28 (vf_upd (vf_upd (vf_upd mm 1 (mm 2)) (n + 2) ((vf_upd mm 1 (mm 2)) (n + 1))) 0 ((vf_upd (vf_upd mm 1 (mm 2)) (n + 2) ((vf_upd mm 1 (mm 2)) (n + 1))) 2)))]) (wr := []) (As := [.int (nI 2), .int (nI 0)]) (rest := []) ⟨hx, hb, hml, hown, hts⟩ (c_X1_copy l D cD r rd rm n (vf_upd (vf_upd dd 1 (dd 2)) (n + 2) ((vf_upd dd 1 (dd 2)) (n + 1))) (vf_upd (vf_upd mm 1 (mm 2)) (n + 2) ((vf_upd mm 1 (mm 2)) (n + 1))) 2 0 (by omega) (by omega)) (cwV 2 hts gX1_fillEnds_X1_copy rfl rfl rfl (by decide +kernel) ⟨Nat.le_of_ble_eq_true rfl, Nat.le_of_ble_eq_true rfl⟩) hK hNW hP hD hS hA [0, 1, 2] [] [0, 1, 2] rfl rfl rfl rfl (by decide) rfl rfl (q0 := 0) (ci := 1) rfl rfl rfl rfl hl.1 rfl (Nat.le_of_ble_eq_true rfl) dX1_fillEnds_116 ⟨Nat.zero_le _, Nat.zero_le _⟩ (fun H locs hP hD hS => ?_)
  refine lv_aload_n hx hb dX1_fillEnds_119 rfl (lv_at hl 3 rfl) ?_
  refine lv_iload_n hx hb dX1_fillEnds_120 rfl (lv_at hl 1 rfl) ?_
  refine lv_iload_n hx hb dX1_fillEnds_121 rfl (lv_at hl 1 rfl) ?_
  refine lv_iload hx hb dX1_fillEnds_122 (lv_at hl 0 rfl) ?_
  refine fz_iaddN hx hb dX1_fillEnds_124 ?_
  refine fz_topn (b := n + 3) (by omega) ?_
  refine fz_callV (ws' := [(r, .inr (1, [.ref rd, .ref rm, .int (nI n)])), (rd, fz_da cD 28 (vf_upd (vf_upd (vf_upd (vf_upd dd 1 (dd 2)) (n + 2) ((vf_upd dd 1 (dd 2)) (n + 1))) 0 ((vf_upd (vf_upd dd 1 (dd 2)) (n + 2) ((vf_upd dd 1 (dd 2)) (n + 1))) 2)) (n + 3) ((vf_upd (vf_upd (vf_upd dd 1 (dd 2)) (n + 2) ((vf_upd dd 1 (dd 2)) (n + 1))) 0 ((vf_upd (vf_upd dd 1 (dd 2)) (n + 2) ((vf_upd dd 1 (dd 2)) (n + 1))) 2)) (n + 1)))), (rm, fz_da cD 28 (vf_upd (vf_upd (vf_upd (vf_upd mm 1 (mm 2)) (n + 2) ((vf_upd mm 1 (mm 2)) (n + 1))) 0 ((vf_upd (vf_upd mm 1 (mm 2)) (n + 2) ((vf_upd mm 1 (mm 2)) (n + 1))) 2)) (n + 3) ((vf_upd (vf_upd (vf_upd mm 1 (mm 2)) (n + 2) ((vf_upd mm 1 (mm 2)) (n + 1))) 0 ((vf_upd (vf_upd mm 1 (mm 2)) (n + 2) ((vf_upd mm 1 (mm 2)) (n + 1))) 2)) (n + 1))))]) (wr := []) (As := [.int (nI (n + 1)), .int (nI (n + 3))]) (rest := []) ⟨hx, hb, hml, hown, hts⟩ (c_X1_copy l D cD r rd rm n (vf_upd (vf_upd (vf_upd dd 1 (dd 2)) (n + 2) ((vf_upd dd 1 (dd 2)) (n + 1))) 0 ((vf_upd (vf_upd dd 1 (dd 2)) (n + 2) ((vf_upd dd 1 (dd 2)) (n + 1))) 2)) (vf_upd (vf_upd (vf_upd mm 1 (mm 2)) (n + 2) ((vf_upd mm 1 (mm 2)) (n + 1))) 0 ((vf_upd (vf_upd mm 1 (mm 2)) (n + 2) ((vf_upd mm 1 (mm 2)) (n + 1))) 2)) (n + 1) (n + 3) (by omega) (by omega)) (cwV 2 hts gX1_fillEnds_X1_copy rfl rfl rfl (by decide +kernel) ⟨Nat.le_of_ble_eq_true rfl, Nat.le_of_ble_eq_true rfl⟩) hK hNW hP hD hS hA [0, 1, 2] [] [0, 1, 2] rfl rfl rfl rfl (by decide) rfl rfl (q0 := 0) (ci := 1) rfl rfl rfl rfl hl.1 rfl (Nat.le_of_ble_eq_true rfl) dX1_fillEnds_125 ⟨Nat.zero_le _, Nat.zero_le _⟩ (fun H locs hP hD hS => ?_)
  refine lv_iinc (v := nI (3)) (lv' := [(4, .int (nI 3)), (3, .int (nI (n + 1))), (2, .int (nI 2)), (0, .ref r), (1, .int (nI 2))]) hx hb dX1_fillEnds_128 hl (k := 0) rfl (nI_1 _) (by decide) rfl (fun ls hl => ?_)
  refine lv_goto (tgt := 14) hx hb dX1_fillEnds_131 (by decide) ?_
  refine lv_iload hx hb dX1_fillEnds_14 (lv_at hl 0 rfl) ?_
  refine lv_iconst (v := nI 2) hx hb dX1_fillEnds_16 (by decide) ?_
  refine fz_icmp_gtN (tgt := 134) hx hb (by omega) (by omega) dX1_fillEnds_17 (by decide) (fun c17 => ?_) (fun c17 => absurd c17 (by decide))
  obtain ⟨hP, hD⟩ := fz_swapf (a := rd) (cD := cD) (n := 28) (g := fz_ends 2 false n dd) 1 rfl (fun i hi => by unfold fz_ends vf_upd; repeat (first | rfl | (split <;> try (subst_vars; simp_all) <;> try omega))) hP hD
  have hP : va_P D vwCl [(r, .inr (1, [.ref rd, .ref rm, .int (nI n)])), (rd, fz_da cD 28 (fz_ends 2 false n dd)), (rm, fz_da cD 28 (vf_upd (vf_upd (vf_upd (vf_upd mm 1 (mm 2)) (n + 2) ((vf_upd mm 1 (mm 2)) (n + 1))) 0 ((vf_upd (vf_upd mm 1 (mm 2)) (n + 2) ((vf_upd mm 1 (mm 2)) (n + 1))) 2)) (n + 3) ((vf_upd (vf_upd (vf_upd mm 1 (mm 2)) (n + 2) ((vf_upd mm 1 (mm 2)) (n + 1))) 0 ((vf_upd (vf_upd mm 1 (mm 2)) (n + 2) ((vf_upd mm 1 (mm 2)) (n + 1))) 2)) (n + 1))))] H := hP
  have hD : va_D A [(r, .inr (1, [.ref rd, .ref rm, .int (nI n)])), (rd, fz_da cD 28 (fz_ends 2 false n dd)), (rm, fz_da cD 28 (vf_upd (vf_upd (vf_upd (vf_upd mm 1 (mm 2)) (n + 2) ((vf_upd mm 1 (mm 2)) (n + 1))) 0 ((vf_upd (vf_upd mm 1 (mm 2)) (n + 2) ((vf_upd mm 1 (mm 2)) (n + 1))) 2)) (n + 3) ((vf_upd (vf_upd (vf_upd mm 1 (mm 2)) (n + 2) ((vf_upd mm 1 (mm 2)) (n + 1))) 0 ((vf_upd (vf_upd mm 1 (mm 2)) (n + 2) ((vf_upd mm 1 (mm 2)) (n + 1))) 2)) (n + 1))))] := hD
  obtain ⟨hP, hD⟩ := fz_swapf (a := rm) (cD := cD) (n := 28) (g := fz_ends 2 true n mm) 2 rfl (fun i hi => by unfold fz_ends vf_upd; repeat (first | rfl | (split <;> try (subst_vars; simp_all) <;> try omega))) hP hD
  have hP : va_P D vwCl [(r, .inr (1, [.ref rd, .ref rm, .int (nI n)])), (rd, fz_da cD 28 (fz_ends 2 false n dd)), (rm, fz_da cD 28 (fz_ends 2 true n mm))] H := hP
  have hD : va_D A [(r, .inr (1, [.ref rd, .ref rm, .int (nI n)])), (rd, fz_da cD 28 (fz_ends 2 false n dd)), (rm, fz_da cD 28 (fz_ends 2 true n mm))] := hD
  exact fz_vret hx hb hr hlocks (rfl) hP hK hD hS dX1_fillEnds_134

set_option maxHeartbeats 4000000 in
set_option maxRecDepth 100000 in
theorem c_X1_move (l : Launch) (D : va_G) (cD : ClassId) (r rd rm n : Nat) (dd mm : Nat → UInt64) (f s1 s2 f1 f2 lf rt : Nat) (FH FM : Nat → UInt64) (t : UInt64) (hn : n ≤ 24) (hH : fz_mvOk t dd FH n) (hM : fz_mvOk t mm FM n) : fz_C l D [(cD, .double)] yX1_move wsX1_move ({ frames := 0, cells := 0, slots := 0, locals := 0 }) [.ref r, .double t, .ref f] [(r, .inr (1, [.ref rd, .ref rm, .int (nI n)])), (rd, fz_da cD 28 dd), (rm, fz_da cD 28 mm), (f, .inr (0, [.ref s1, .ref s2, .ref f1, .ref f2, .ref lf, .ref rt])), (f1, fz_da cD 25 FH), (f2, fz_da cD 25 FM)] [(r, .inr (1, [.ref rd, .ref rm, .int (nI n)])), (rd, fz_da cD 28 (fz_pre 2 n (fz_mvG t dd FH) dd)), (rm, fz_da cD 28 (fz_pre 2 n (fz_mvG t mm FM) mm)), (f, .inr (0, [.ref s1, .ref s2, .ref f1, .ref f2, .ref lf, .ref rt])), (f1, fz_da cD 25 FH), (f2, fz_da cD 25 FM)] (none) := by
  refine fz_start (cc := cX1_move) (maxL := 6) (ret := none) (by decide) rfl (Nat.le_of_ble_eq_true rfl) ?_
  intro p e s m below meth c A hx hb hr hlocks hml hown hts hK hA hNW H locs hP hD hS ls hl
  have hl : lv_has ls 6 [(0, .ref r), (1, .double t), (3, .ref f)] := hl
  have hown : s.vm.findClass RX1 = some m.cls := hown
  have hw_fieldLink_RX1_18_FlowGrid_Row_size_I := hts (.fieldLink RX1 18 "FlowGrid$Row" "size" "I") (by decide +kernel)
  have hin_X1 : ∀ w ∈ u_ws RX1 TX1 3, w ∈ wsX1_move := by decide +kernel
  have hw_fieldLink_RX1_9_FlowGrid_Row_depths_D := hts (.fieldLink RX1 9 "FlowGrid$Row" "depths" "[D") (by decide +kernel)
  have hw_fieldLink_RX1_35_FlowGrid_Faces_depthFluxes_D := hts (.fieldLink RX1 35 "FlowGrid$Faces" "depthFluxes" "[D") (by decide +kernel)
  have hin_X0 : ∀ w ∈ u_ws RX0 TX0 6, w ∈ wsX1_move := by decide +kernel
  have hw_fieldLink_RX1_15_FlowGrid_Row_momenta_D := hts (.fieldLink RX1 15 "FlowGrid$Row" "momenta" "[D") (by decide +kernel)
  have hw_fieldLink_RX1_40_FlowGrid_Faces_momentumFluxes_D := hts (.fieldLink RX1 40 "FlowGrid$Faces" "momentumFluxes" "[D") (by decide +kernel)
  refine lv_iconst (v := nI 0) hx hb dX1_move_0 (by decide) ?_
  refine lv_istore (lv' := [(4, .int (nI 0)), (0, .ref r), (1, .double t), (3, .ref f)]) hx hb dX1_move_1 hl (by decide) rfl (fun ls hl => ?_)
  have loop3 : ∀ (it k : Nat), k ≤ n → n < k + it → ∀ (H : Heap) (locs : List Loc) (ls : Array Slot), va_P D vwCl [(r, .inr (1, [.ref rd, .ref rm, .int (nI n)])), (rd, fz_da cD 28 (fz_pre 2 k (fz_mvG t dd FH) dd)), (rm, fz_da cD 28 (fz_pre 2 k (fz_mvG t mm FM) mm)), (f, .inr (0, [.ref s1, .ref s2, .ref f1, .ref f2, .ref lf, .ref rt])), (f1, fz_da cD 25 FH), (f2, fz_da cD 25 FM)] H → va_D A [(r, .inr (1, [.ref rd, .ref rm, .int (nI n)])), (rd, fz_da cD 28 (fz_pre 2 k (fz_mvG t dd FH) dd)), (rm, fz_da cD 28 (fz_pre 2 k (fz_mvG t mm FM) mm)), (f, .inr (0, [.ref s1, .ref s2, .ref f1, .ref f2, .ref lf, .ref rt])), (f1, fz_da cD 25 FH), (f2, fz_da cD 25 FM)] → va_S A s.heap H locs → lv_has ls 6 [(0, .ref r), (1, .double t), (3, .ref f), (4, .int (nI k))] → W p l e ({ frames := 0, cells := 0, slots := 0, locals := 0 }) s m ([.ref r, .double t, .ref f] : List Value).toArray below meth c H locs 0 0 (MQ below (fz_O D [(cD, .double)] [(r, .inr (1, [.ref rd, .ref rm, .int (nI n)])), (rd, fz_da cD 28 (fz_pre 2 n (fz_mvG t dd FH) dd)), (rm, fz_da cD 28 (fz_pre 2 n (fz_mvG t mm FM) mm)), (f, .inr (0, [.ref s1, .ref s2, .ref f1, .ref f2, .ref lf, .ref rt])), (f1, fz_da cD 25 FH), (f2, fz_da cD 25 FM)] (none) A) ([.ref r, .double t, .ref f] : List Value).toArray s 0 0 A) (F0 m 3 ls []) := by
    intro it
    induction it with
    | zero => intro k h1 h2; exact absurd h2 (by omega)
    | succ it ih =>
      intro k hkk hnk H locs ls hP hD hS hl
      refine lv_iload hx hb dX1_move_3 (lv_at hl 3 rfl) ?_
      refine lv_aload_n hx hb dX1_move_5 rfl (lv_at hl 0 rfl) ?_
      refine va_get (D := D) (ci := 1) (v := .int (nI n)) (C := RX1) (T := TX1) (N := 3) hx hb hts hin_X1 hown hK hP 0 rfl rfl 2 (by decide) hw_fieldLink_RX1_18_FlowGrid_Row_size_I (fun _ h9 => h9) rfl dX1_move_6 ?_
      refine fz_icmp_geN (tgt := 92) hx hb (by omega) (by omega) dX1_move_9 (by decide) (fun c9 => ?_) (fun c9 => ?_)
      · have hkz : n = k := by omega
        subst hkz
        exact fz_vret hx hb hr hlocks (rfl) hP hK hD hS dX1_move_92
      · refine lv_iconst (v := nI 2) hx hb dX1_move_12 (by decide) ?_
        refine lv_iload hx hb dX1_move_13 (lv_at hl 3 rfl) ?_
        refine fz_iaddN hx hb dX1_move_15 ?_
        refine fz_topn (b := k + 2) (by omega) ?_
        refine lv_istore (lv' := [(5, .int (nI (k + 2))), (0, .ref r), (1, .double t), (3, .ref f), (4, .int (nI k))]) hx hb dX1_move_16 hl (by decide) rfl (fun ls hl => ?_)
        refine lv_aload_n hx hb dX1_move_18 rfl (lv_at hl 1 rfl) ?_
        refine va_get (D := D) (ci := 1) (v := .ref rd) (C := RX1) (T := TX1) (N := 3) hx hb hts hin_X1 hown hK hP 0 rfl rfl 0 (by decide) hw_fieldLink_RX1_9_FlowGrid_Row_depths_D (fun _ h9 => h9) rfl dX1_move_19 ?_
        refine lv_iload hx hb dX1_move_22 (lv_at hl 0 rfl) ?_
        refine lv_aload_n hx hb dX1_move_24 rfl (lv_at hl 1 rfl) ?_
        refine va_get (D := D) (ci := 1) (v := .ref rd) (C := RX1) (T := TX1) (N := 3) hx hb hts hin_X1 hown hK hP 0 rfl rfl 0 (by decide) hw_fieldLink_RX1_9_FlowGrid_Row_depths_D (fun _ h9 => h9) rfl dX1_move_25 ?_
        refine lv_iload hx hb dX1_move_28 (lv_at hl 0 rfl) ?_
        refine fz_dald (i := k + 2) hx hb hK hP 1 0 rfl rfl (by omega) (by decide) dX1_move_30 ?_
        rw [fz_pre_at (lo := 2) (k := k) (q := (k + 2)) _ _ (by omega)]
        refine lv_dload_n hx hb dX1_move_31 rfl (lv_at hl 2 rfl) ?_
        refine lv_aload_n hx hb dX1_move_32 rfl (lv_at hl 3 rfl) ?_
        refine va_get (D := D) (ci := 0) (v := .ref f1) (C := RX0) (T := TX0) (N := 6) hx hb hts hin_X0 hown hK hP 3 rfl rfl 2 (by decide) hw_fieldLink_RX1_35_FlowGrid_Faces_depthFluxes_D (fun _ h9 => h9) rfl dX1_move_33 ?_
        refine lv_iload hx hb dX1_move_36 (lv_at hl 4 rfl) ?_
        refine lv_iconst (v := nI 1) hx hb dX1_move_38 (by decide) ?_
        refine fz_iaddN hx hb dX1_move_39 ?_
        refine fz_topn (b := k + 1) (by omega) ?_
        refine fz_dald (i := k + 1) hx hb hK hP 4 0 rfl rfl (by omega) (by decide) dX1_move_40 ?_
        refine lv_aload_n hx hb dX1_move_41 rfl (lv_at hl 3 rfl) ?_
        refine va_get (D := D) (ci := 0) (v := .ref f1) (C := RX0) (T := TX0) (N := 6) hx hb hts hin_X0 hown hK hP 3 rfl rfl 2 (by decide) hw_fieldLink_RX1_35_FlowGrid_Faces_depthFluxes_D (fun _ h9 => h9) rfl dX1_move_42 ?_
        refine lv_iload hx hb dX1_move_45 (lv_at hl 4 rfl) ?_
        refine fz_dald (i := k) hx hb hK hP 4 0 rfl rfl (by omega) (by decide) dX1_move_47 ?_
        refine lv_dsub hx hb dX1_move_48 ((hH k (by omega)).1) ?_
        refine lv_dmul hx hb dX1_move_49 ((hH k (by omega)).2.1) ?_
        refine lv_dsub hx hb dX1_move_50 ((hH k (by omega)).2.2) ?_
        refine fz_dast (i := k + 2) hx hb hK hP hD hS 1 0 rfl rfl (by omega) (by decide) dX1_move_51 (fun H locs hP hD hS => ?_)
        have hP : va_P D vwCl [(r, .inr (1, [.ref rd, .ref rm, .int (nI n)])), (rd, fz_da cD 28 (vf_upd (fz_pre 2 k (fz_mvG t dd FH) dd) (k + 2) (FP.dsub (dd (k + 2)) (FP.dmul t (FP.dsub (FH (k + 1)) (FH k)))))), (rm, fz_da cD 28 (fz_pre 2 k (fz_mvG t mm FM) mm)), (f, .inr (0, [.ref s1, .ref s2, .ref f1, .ref f2, .ref lf, .ref rt])), (f1, fz_da cD 25 FH), (f2, fz_da cD 25 FM)] H := hP
        have hD : va_D A [(r, .inr (1, [.ref rd, .ref rm, .int (nI n)])), (rd, fz_da cD 28 (vf_upd (fz_pre 2 k (fz_mvG t dd FH) dd) (k + 2) (FP.dsub (dd (k + 2)) (FP.dmul t (FP.dsub (FH (k + 1)) (FH k)))))), (rm, fz_da cD 28 (fz_pre 2 k (fz_mvG t mm FM) mm)), (f, .inr (0, [.ref s1, .ref s2, .ref f1, .ref f2, .ref lf, .ref rt])), (f1, fz_da cD 25 FH), (f2, fz_da cD 25 FM)] := hD
        have hP : va_P D vwCl [(r, .inr (1, [.ref rd, .ref rm, .int (nI n)])), (rd, fz_da cD 28 (fz_pre 2 (k + 1) (fz_mvG t dd FH) dd)), (rm, fz_da cD 28 (fz_pre 2 k (fz_mvG t mm FM) mm)), (f, .inr (0, [.ref s1, .ref s2, .ref f1, .ref f2, .ref lf, .ref rt])), (f1, fz_da cD 25 FH), (f2, fz_da cD 25 FM)] H := by rw [← fz_pre_s 2 k (fz_mvG t dd FH) dd]; exact hP
        have hD : va_D A [(r, .inr (1, [.ref rd, .ref rm, .int (nI n)])), (rd, fz_da cD 28 (fz_pre 2 (k + 1) (fz_mvG t dd FH) dd)), (rm, fz_da cD 28 (fz_pre 2 k (fz_mvG t mm FM) mm)), (f, .inr (0, [.ref s1, .ref s2, .ref f1, .ref f2, .ref lf, .ref rt])), (f1, fz_da cD 25 FH), (f2, fz_da cD 25 FM)] := by rw [← fz_pre_s 2 k (fz_mvG t dd FH) dd]; exact hD
        refine lv_aload_n hx hb dX1_move_52 rfl (lv_at hl 1 rfl) ?_
        refine va_get (D := D) (ci := 1) (v := .ref rm) (C := RX1) (T := TX1) (N := 3) hx hb hts hin_X1 hown hK hP 0 rfl rfl 1 (by decide) hw_fieldLink_RX1_15_FlowGrid_Row_momenta_D (fun _ h9 => h9) rfl dX1_move_53 ?_
        refine lv_iload hx hb dX1_move_56 (lv_at hl 0 rfl) ?_
        refine lv_aload_n hx hb dX1_move_58 rfl (lv_at hl 1 rfl) ?_
        refine va_get (D := D) (ci := 1) (v := .ref rm) (C := RX1) (T := TX1) (N := 3) hx hb hts hin_X1 hown hK hP 0 rfl rfl 1 (by decide) hw_fieldLink_RX1_15_FlowGrid_Row_momenta_D (fun _ h9 => h9) rfl dX1_move_59 ?_
        refine lv_iload hx hb dX1_move_62 (lv_at hl 0 rfl) ?_
        refine fz_dald (i := k + 2) hx hb hK hP 2 0 rfl rfl (by omega) (by decide) dX1_move_64 ?_
        rw [fz_pre_at (lo := 2) (k := k) (q := (k + 2)) _ _ (by omega)]
        refine lv_dload_n hx hb dX1_move_65 rfl (lv_at hl 2 rfl) ?_
        refine lv_aload_n hx hb dX1_move_66 rfl (lv_at hl 3 rfl) ?_
        refine va_get (D := D) (ci := 0) (v := .ref f2) (C := RX0) (T := TX0) (N := 6) hx hb hts hin_X0 hown hK hP 3 rfl rfl 3 (by decide) hw_fieldLink_RX1_40_FlowGrid_Faces_momentumFluxes_D (fun _ h9 => h9) rfl dX1_move_67 ?_
        refine lv_iload hx hb dX1_move_70 (lv_at hl 4 rfl) ?_
        refine lv_iconst (v := nI 1) hx hb dX1_move_72 (by decide) ?_
        refine fz_iaddN hx hb dX1_move_73 ?_
        refine fz_topn (b := k + 1) (by omega) ?_
        refine fz_dald (i := k + 1) hx hb hK hP 5 0 rfl rfl (by omega) (by decide) dX1_move_74 ?_
        refine lv_aload_n hx hb dX1_move_75 rfl (lv_at hl 3 rfl) ?_
        refine va_get (D := D) (ci := 0) (v := .ref f2) (C := RX0) (T := TX0) (N := 6) hx hb hts hin_X0 hown hK hP 3 rfl rfl 3 (by decide) hw_fieldLink_RX1_40_FlowGrid_Faces_momentumFluxes_D (fun _ h9 => h9) rfl dX1_move_76 ?_
        refine lv_iload hx hb dX1_move_79 (lv_at hl 4 rfl) ?_
        refine fz_dald (i := k) hx hb hK hP 5 0 rfl rfl (by omega) (by decide) dX1_move_81 ?_
        refine lv_dsub hx hb dX1_move_82 ((hM k (by omega)).1) ?_
        refine lv_dmul hx hb dX1_move_83 ((hM k (by omega)).2.1) ?_
        refine lv_dsub hx hb dX1_move_84 ((hM k (by omega)).2.2) ?_
        refine fz_dast (i := k + 2) hx hb hK hP hD hS 2 0 rfl rfl (by omega) (by decide) dX1_move_85 (fun H locs hP hD hS => ?_)
        have hP : va_P D vwCl [(r, .inr (1, [.ref rd, .ref rm, .int (nI n)])), (rd, fz_da cD 28 (fz_pre 2 (k + 1) (fz_mvG t dd FH) dd)), (rm, fz_da cD 28 (vf_upd (fz_pre 2 k (fz_mvG t mm FM) mm) (k + 2) (FP.dsub (mm (k + 2)) (FP.dmul t (FP.dsub (FM (k + 1)) (FM k)))))), (f, .inr (0, [.ref s1, .ref s2, .ref f1, .ref f2, .ref lf, .ref rt])), (f1, fz_da cD 25 FH), (f2, fz_da cD 25 FM)] H := hP
        have hD : va_D A [(r, .inr (1, [.ref rd, .ref rm, .int (nI n)])), (rd, fz_da cD 28 (fz_pre 2 (k + 1) (fz_mvG t dd FH) dd)), (rm, fz_da cD 28 (vf_upd (fz_pre 2 k (fz_mvG t mm FM) mm) (k + 2) (FP.dsub (mm (k + 2)) (FP.dmul t (FP.dsub (FM (k + 1)) (FM k)))))), (f, .inr (0, [.ref s1, .ref s2, .ref f1, .ref f2, .ref lf, .ref rt])), (f1, fz_da cD 25 FH), (f2, fz_da cD 25 FM)] := hD
        have hP : va_P D vwCl [(r, .inr (1, [.ref rd, .ref rm, .int (nI n)])), (rd, fz_da cD 28 (fz_pre 2 (k + 1) (fz_mvG t dd FH) dd)), (rm, fz_da cD 28 (fz_pre 2 (k + 1) (fz_mvG t mm FM) mm)), (f, .inr (0, [.ref s1, .ref s2, .ref f1, .ref f2, .ref lf, .ref rt])), (f1, fz_da cD 25 FH), (f2, fz_da cD 25 FM)] H := by rw [← fz_pre_s 2 k (fz_mvG t mm FM) mm]; exact hP
        have hD : va_D A [(r, .inr (1, [.ref rd, .ref rm, .int (nI n)])), (rd, fz_da cD 28 (fz_pre 2 (k + 1) (fz_mvG t dd FH) dd)), (rm, fz_da cD 28 (fz_pre 2 (k + 1) (fz_mvG t mm FM) mm)), (f, .inr (0, [.ref s1, .ref s2, .ref f1, .ref f2, .ref lf, .ref rt])), (f1, fz_da cD 25 FH), (f2, fz_da cD 25 FM)] := by rw [← fz_pre_s 2 k (fz_mvG t mm FM) mm]; exact hD
        refine lv_iinc (v := nI (k + 1)) (lv' := [(4, .int (nI (k + 1))), (5, .int (nI (k + 2))), (0, .ref r), (1, .double t), (3, .ref f)]) hx hb dX1_move_86 hl (k := 4) rfl (nI_1 _) (by decide) rfl (fun ls hl => ?_)
        refine lv_goto (tgt := 3) hx hb dX1_move_89 (by decide) ?_
        exact ih (k + 1) (by omega) (by omega) H locs ls (hP) (hD) hS (lv_sub hl [2, 3, 4, 0] rfl)
  exact loop3 (n + 1) 0 (by omega) (by omega) H locs ls (by rw [fz_pre_0, fz_pre_0]; exact hP) (by rw [fz_pre_0, fz_pre_0]; exact hD) hS (lv_sub hl [1, 2, 3, 0] rfl)

set_option maxHeartbeats 4000000 in
set_option maxRecDepth 100000 in
theorem c_X1_hasFailed (l : Launch) (D : va_G) (cD : ClassId) (r rd rm n : Nat) (dd mm : Nat → UInt64) (hn : n ≤ 24) : fz_C l D [(cD, .double)] yX1_hasFailed wsX1_hasFailed ({ frames := 0, cells := 0, slots := 0, locals := 0 }) [.ref r] [(r, .inr (1, [.ref rd, .ref rm, .int (nI n)])), (rd, fz_da cD 28 dd), (rm, fz_da cD 28 mm)] [(r, .inr (1, [.ref rd, .ref rm, .int (nI n)])), (rd, fz_da cD 28 dd), (rm, fz_da cD 28 mm)] (some (.int (fz_b (fz_anyBad dd mm n)))) := by
  refine fz_start (cc := cX1_hasFailed) (maxL := 2) (ret := (some .boolean)) (by decide) rfl (Nat.le_of_ble_eq_true rfl) ?_
  intro p e s m below meth c A hx hb hr hlocks hml hown hts hK hA hNW H locs hP hD hS ls hl
  have hl : lv_has ls 2 [(0, .ref r)] := hl
  have hown : s.vm.findClass RX1 = some m.cls := hown
  have hw_fieldLink_RX1_18_FlowGrid_Row_size_I := hts (.fieldLink RX1 18 "FlowGrid$Row" "size" "I") (by decide +kernel)
  have hin_X1 : ∀ w ∈ u_ws RX1 TX1 3, w ∈ wsX1_hasFailed := by decide +kernel
  have hw_fieldLink_RX1_9_FlowGrid_Row_depths_D := hts (.fieldLink RX1 9 "FlowGrid$Row" "depths" "[D") (by decide +kernel)
  have hw_constantDouble_RX1_43_4576918229304087675 := hts (.constantDouble RX1 43 (4576918229304087675)) (by decide +kernel)
  have hw_fieldLink_RX1_15_FlowGrid_Row_momenta_D := hts (.fieldLink RX1 15 "FlowGrid$Row" "momenta" "[D") (by decide +kernel)
  have hw_constantDouble_RX1_45_4652007308841189376 := hts (.constantDouble RX1 45 (4652007308841189376)) (by decide +kernel)
  have hw_constantDouble_RX1_47_13875379345695965184 := hts (.constantDouble RX1 47 (13875379345695965184)) (by decide +kernel)
  refine lv_iconst (v := nI 2) hx hb dX1_hasFailed_0 (by decide) ?_
  refine lv_istore_n (lv' := [(1, .int (nI 2)), (0, .ref r)]) hx hb dX1_hasFailed_1 rfl hl (by decide) rfl (fun ls hl => ?_)
  have loop2 : ∀ (it k : Nat), k ≤ n → n < k + it → fz_anyBad dd mm k = false → ∀ (H : Heap) (locs : List Loc) (ls : Array Slot), va_P D vwCl [(r, .inr (1, [.ref rd, .ref rm, .int (nI n)])), (rd, fz_da cD 28 dd), (rm, fz_da cD 28 mm)] H → va_D A [(r, .inr (1, [.ref rd, .ref rm, .int (nI n)])), (rd, fz_da cD 28 dd), (rm, fz_da cD 28 mm)] → va_S A s.heap H locs → lv_has ls 2 [(0, .ref r), (1, .int (nI (k + 2)))] → W p l e ({ frames := 0, cells := 0, slots := 0, locals := 0 }) s m ([.ref r] : List Value).toArray below meth c H locs 0 0 (MQ below (fz_O D [(cD, .double)] [(r, .inr (1, [.ref rd, .ref rm, .int (nI n)])), (rd, fz_da cD 28 dd), (rm, fz_da cD 28 mm)] (some (.int (fz_b (fz_anyBad dd mm n)))) A) ([.ref r] : List Value).toArray s 0 0 A) (F0 m 2 ls []) := by
    intro it
    induction it with
    | zero => intro k h1 h2; exact absurd h2 (by omega)
    | succ it ih =>
      intro k hkk hnk hb0 H locs ls hP hD hS hl
      refine lv_iload_n hx hb dX1_hasFailed_2 rfl (lv_at hl 1 rfl) ?_
      refine lv_iconst (v := nI 2) hx hb dX1_hasFailed_3 (by decide) ?_
      refine lv_aload_n hx hb dX1_hasFailed_4 rfl (lv_at hl 0 rfl) ?_
      refine va_get (D := D) (ci := 1) (v := .int (nI n)) (C := RX1) (T := TX1) (N := 3) hx hb hts hin_X1 hown hK hP 0 rfl rfl 2 (by decide) hw_fieldLink_RX1_18_FlowGrid_Row_size_I (fun _ h9 => h9) rfl dX1_hasFailed_5 ?_
      refine fz_iaddN hx hb dX1_hasFailed_8 ?_
      refine fz_topn (b := n + 2) (by omega) ?_
      refine fz_icmp_geN (tgt := 59) hx hb (by omega) (by omega) dX1_hasFailed_9 (by decide) (fun c9 => ?_) (fun c9 => ?_)
      · refine lv_iconst (v := nI 0) hx hb dX1_hasFailed_59 (by decide) ?_
        have hkz : n = k := by omega
        subst hkz
        exact fz_zret hx hb hr hlocks rfl (by rw [hb0]; rfl) hP hK hD hS dX1_hasFailed_60
      · refine lv_aload_n hx hb dX1_hasFailed_12 rfl (lv_at hl 0 rfl) ?_
        refine va_get (D := D) (ci := 1) (v := .ref rd) (C := RX1) (T := TX1) (N := 3) hx hb hts hin_X1 hown hK hP 0 rfl rfl 0 (by decide) hw_fieldLink_RX1_9_FlowGrid_Row_depths_D (fun _ h9 => h9) rfl dX1_hasFailed_13 ?_
        refine lv_iload_n hx hb dX1_hasFailed_16 rfl (lv_at hl 1 rfl) ?_
        refine fz_dald (i := k + 2) hx hb hK hP 1 0 rfl rfl (by omega) (by decide) dX1_hasFailed_17 ?_
        refine lv_ldc2d hx hb hown hw_constantDouble_RX1_43_4576918229304087675 dX1_hasFailed_18 ?_
        refine fz_dg_lt (tgt := 51) hx hb dX1_hasFailed_21 dX1_hasFailed_22 (by decide) (fun c21 => ?_) (fun c21 => ?_)
        · refine lv_iconst (v := nI 1) hx hb dX1_hasFailed_51 (by decide) ?_
          exact fz_zret hx hb hr hlocks rfl (by rw [fz_anyBad_of (k := k) (by omega) (by simp [fz_bad, c21])]; rfl) hP hK hD hS dX1_hasFailed_52
        · refine lv_aload_n hx hb dX1_hasFailed_25 rfl (lv_at hl 0 rfl) ?_
          refine va_get (D := D) (ci := 1) (v := .ref rm) (C := RX1) (T := TX1) (N := 3) hx hb hts hin_X1 hown hK hP 0 rfl rfl 1 (by decide) hw_fieldLink_RX1_15_FlowGrid_Row_momenta_D (fun _ h9 => h9) rfl dX1_hasFailed_26 ?_
          refine lv_iload_n hx hb dX1_hasFailed_29 rfl (lv_at hl 1 rfl) ?_
          refine fz_dald (i := k + 2) hx hb hK hP 2 0 rfl rfl (by omega) (by decide) dX1_hasFailed_30 ?_
          refine lv_ldc2d hx hb hown hw_constantDouble_RX1_45_4652007308841189376 dX1_hasFailed_31 ?_
          refine fz_dl_gt (tgt := 51) hx hb dX1_hasFailed_34 dX1_hasFailed_35 (by decide) (fun c34 => ?_) (fun c34 => ?_)
          · refine lv_iconst (v := nI 1) hx hb dX1_hasFailed_51 (by decide) ?_
            exact fz_zret hx hb hr hlocks rfl (by rw [fz_anyBad_of (k := k) (by omega) (by simp [fz_bad, c21, c34])]; rfl) hP hK hD hS dX1_hasFailed_52
          · refine lv_aload_n hx hb dX1_hasFailed_38 rfl (lv_at hl 0 rfl) ?_
            refine va_get (D := D) (ci := 1) (v := .ref rm) (C := RX1) (T := TX1) (N := 3) hx hb hts hin_X1 hown hK hP 0 rfl rfl 1 (by decide) hw_fieldLink_RX1_15_FlowGrid_Row_momenta_D (fun _ h9 => h9) rfl dX1_hasFailed_39 ?_
            refine lv_iload_n hx hb dX1_hasFailed_42 rfl (lv_at hl 1 rfl) ?_
            refine fz_dald (i := k + 2) hx hb hK hP 2 0 rfl rfl (by omega) (by decide) dX1_hasFailed_43 ?_
            refine lv_ldc2d hx hb hown hw_constantDouble_RX1_47_13875379345695965184 dX1_hasFailed_44 ?_
            refine fz_dg_ge (tgt := 53) hx hb dX1_hasFailed_47 dX1_hasFailed_48 (by decide) (fun c47 => ?_) (fun c47 => ?_)
            · refine lv_iinc (v := nI (k + 3)) (lv' := [(1, .int (nI (k + 3))), (0, .ref r)]) hx hb dX1_hasFailed_53 hl (k := 1) rfl (nI_1 _) (by decide) rfl (fun ls hl => ?_)
              refine lv_goto (tgt := 2) hx hb dX1_hasFailed_56 (by decide) ?_
              exact ih (k + 1) (by omega) (by omega) (by unfold fz_anyBad; rw [hb0]; simp [fz_bad, c21, c34, c47]) H locs ls (hP) (hD) hS (lv_sub hl [1, 0] rfl)
            · refine lv_iconst (v := nI 1) hx hb dX1_hasFailed_51 (by decide) ?_
              exact fz_zret hx hb hr hlocks rfl (by rw [fz_anyBad_of (k := k) (by omega) (by simp [fz_bad, c21, c34, c47])]; rfl) hP hK hD hS dX1_hasFailed_52
  exact loop2 (n + 1) 0 (by omega) (by omega) rfl H locs ls (hP) (hD) hS (lv_sub hl [1, 0] rfl)

set_option maxHeartbeats 4000000 in
set_option maxRecDepth 100000 in
theorem c_X1_meet (l : Launch) (D : va_G) (cD : ClassId) (r rd rm n : Nat) (dd mm : Nat → UInt64) (q qd qm n2 : Nat) (ee ff : Nat → UInt64) (hn : n ≤ 24) (hH : fz_mtOk ee dd n) (hM : fz_mtOk ff mm n) : fz_C l D [(cD, .double)] yX1_meet wsX1_meet ({ frames := 0, cells := 0, slots := 0, locals := 0 }) [.ref r, .ref q] [(r, .inr (1, [.ref rd, .ref rm, .int (nI n)])), (rd, fz_da cD 28 dd), (rm, fz_da cD 28 mm), (q, .inr (1, [.ref qd, .ref qm, .int (nI n2)])), (qd, fz_da cD 28 ee), (qm, fz_da cD 28 ff)] [(r, .inr (1, [.ref rd, .ref rm, .int (nI n)])), (rd, fz_da cD 28 (fz_pre 2 n (fz_mtG ee dd) dd)), (rm, fz_da cD 28 (fz_pre 2 n (fz_mtG ff mm) mm)), (q, .inr (1, [.ref qd, .ref qm, .int (nI n2)])), (qd, fz_da cD 28 ee), (qm, fz_da cD 28 ff)] (none) := by
  refine fz_start (cc := cX1_meet) (maxL := 3) (ret := none) (by decide) rfl (Nat.le_of_ble_eq_true rfl) ?_
  intro p e s m below meth c A hx hb hr hlocks hml hown hts hK hA hNW H locs hP hD hS ls hl
  have hl : lv_has ls 3 [(0, .ref r), (1, .ref q)] := hl
  have hown : s.vm.findClass RX1 = some m.cls := hown
  have hw_fieldLink_RX1_18_FlowGrid_Row_size_I := hts (.fieldLink RX1 18 "FlowGrid$Row" "size" "I") (by decide +kernel)
  have hin_X1 : ∀ w ∈ u_ws RX1 TX1 3, w ∈ wsX1_meet := by decide +kernel
  have hw_fieldLink_RX1_9_FlowGrid_Row_depths_D := hts (.fieldLink RX1 9 "FlowGrid$Row" "depths" "[D") (by decide +kernel)
  have hw_constantDouble_RX1_49_4602678819172646912 := hts (.constantDouble RX1 49 (4602678819172646912)) (by decide +kernel)
  have hw_fieldLink_RX1_15_FlowGrid_Row_momenta_D := hts (.fieldLink RX1 15 "FlowGrid$Row" "momenta" "[D") (by decide +kernel)
  refine lv_iconst (v := nI 2) hx hb dX1_meet_0 (by decide) ?_
  refine lv_istore_n (lv' := [(2, .int (nI 2)), (0, .ref r), (1, .ref q)]) hx hb dX1_meet_1 rfl hl (by decide) rfl (fun ls hl => ?_)
  have loop2 : ∀ (it k : Nat), k ≤ n → n < k + it → ∀ (H : Heap) (locs : List Loc) (ls : Array Slot), va_P D vwCl [(r, .inr (1, [.ref rd, .ref rm, .int (nI n)])), (rd, fz_da cD 28 (fz_pre 2 k (fz_mtG ee dd) dd)), (rm, fz_da cD 28 (fz_pre 2 k (fz_mtG ff mm) mm)), (q, .inr (1, [.ref qd, .ref qm, .int (nI n2)])), (qd, fz_da cD 28 ee), (qm, fz_da cD 28 ff)] H → va_D A [(r, .inr (1, [.ref rd, .ref rm, .int (nI n)])), (rd, fz_da cD 28 (fz_pre 2 k (fz_mtG ee dd) dd)), (rm, fz_da cD 28 (fz_pre 2 k (fz_mtG ff mm) mm)), (q, .inr (1, [.ref qd, .ref qm, .int (nI n2)])), (qd, fz_da cD 28 ee), (qm, fz_da cD 28 ff)] → va_S A s.heap H locs → lv_has ls 3 [(0, .ref r), (1, .ref q), (2, .int (nI (k + 2)))] → W p l e ({ frames := 0, cells := 0, slots := 0, locals := 0 }) s m ([.ref r, .ref q] : List Value).toArray below meth c H locs 0 0 (MQ below (fz_O D [(cD, .double)] [(r, .inr (1, [.ref rd, .ref rm, .int (nI n)])), (rd, fz_da cD 28 (fz_pre 2 n (fz_mtG ee dd) dd)), (rm, fz_da cD 28 (fz_pre 2 n (fz_mtG ff mm) mm)), (q, .inr (1, [.ref qd, .ref qm, .int (nI n2)])), (qd, fz_da cD 28 ee), (qm, fz_da cD 28 ff)] (none) A) ([.ref r, .ref q] : List Value).toArray s 0 0 A) (F0 m 2 ls []) := by
    intro it
    induction it with
    | zero => intro k h1 h2; exact absurd h2 (by omega)
    | succ it ih =>
      intro k hkk hnk H locs ls hP hD hS hl
      refine lv_iload_n hx hb dX1_meet_2 rfl (lv_at hl 2 rfl) ?_
      refine lv_iconst (v := nI 2) hx hb dX1_meet_3 (by decide) ?_
      refine lv_aload_n hx hb dX1_meet_4 rfl (lv_at hl 0 rfl) ?_
      refine va_get (D := D) (ci := 1) (v := .int (nI n)) (C := RX1) (T := TX1) (N := 3) hx hb hts hin_X1 hown hK hP 0 rfl rfl 2 (by decide) hw_fieldLink_RX1_18_FlowGrid_Row_size_I (fun _ h9 => h9) rfl dX1_meet_5 ?_
      refine fz_iaddN hx hb dX1_meet_8 ?_
      refine fz_topn (b := n + 2) (by omega) ?_
      refine fz_icmp_geN (tgt := 64) hx hb (by omega) (by omega) dX1_meet_9 (by decide) (fun c9 => ?_) (fun c9 => ?_)
      · have hkz : n = k := by omega
        subst hkz
        exact fz_vret hx hb hr hlocks (rfl) hP hK hD hS dX1_meet_64
      · refine lv_aload_n hx hb dX1_meet_12 rfl (lv_at hl 0 rfl) ?_
        refine va_get (D := D) (ci := 1) (v := .ref rd) (C := RX1) (T := TX1) (N := 3) hx hb hts hin_X1 hown hK hP 0 rfl rfl 0 (by decide) hw_fieldLink_RX1_9_FlowGrid_Row_depths_D (fun _ h9 => h9) rfl dX1_meet_13 ?_
        refine lv_iload_n hx hb dX1_meet_16 rfl (lv_at hl 2 rfl) ?_
        refine lv_ldc2d hx hb hown hw_constantDouble_RX1_49_4602678819172646912 dX1_meet_17 ?_
        refine lv_aload_n hx hb dX1_meet_20 rfl (lv_at hl 1 rfl) ?_
        refine va_get (D := D) (ci := 1) (v := .ref qd) (C := RX1) (T := TX1) (N := 3) hx hb hts hin_X1 hown hK hP 3 rfl rfl 0 (by decide) hw_fieldLink_RX1_9_FlowGrid_Row_depths_D (fun _ h9 => h9) rfl dX1_meet_21 ?_
        refine lv_iload_n hx hb dX1_meet_24 rfl (lv_at hl 2 rfl) ?_
        refine fz_dald (i := k + 2) hx hb hK hP 4 0 rfl rfl (by omega) (by decide) dX1_meet_25 ?_
        refine lv_aload_n hx hb dX1_meet_26 rfl (lv_at hl 0 rfl) ?_
        refine va_get (D := D) (ci := 1) (v := .ref rd) (C := RX1) (T := TX1) (N := 3) hx hb hts hin_X1 hown hK hP 0 rfl rfl 0 (by decide) hw_fieldLink_RX1_9_FlowGrid_Row_depths_D (fun _ h9 => h9) rfl dX1_meet_27 ?_
        refine lv_iload_n hx hb dX1_meet_30 rfl (lv_at hl 2 rfl) ?_
        refine fz_dald (i := k + 2) hx hb hK hP 1 0 rfl rfl (by omega) (by decide) dX1_meet_31 ?_
        rw [fz_pre_at (lo := 2) (k := k) (q := (k + 2)) _ _ (by omega)]
        refine lv_dadd hx hb dX1_meet_32 ((hH k (by omega)).1) ?_
        refine lv_dmul hx hb dX1_meet_33 ((hH k (by omega)).2) ?_
        refine fz_dast (i := k + 2) hx hb hK hP hD hS 1 0 rfl rfl (by omega) (by decide) dX1_meet_34 (fun H locs hP hD hS => ?_)
        have hP : va_P D vwCl [(r, .inr (1, [.ref rd, .ref rm, .int (nI n)])), (rd, fz_da cD 28 (vf_upd (fz_pre 2 k (fz_mtG ee dd) dd) (k + 2) (FP.dmul 4602678819172646912 (FP.dadd (ee (k + 2)) (dd (k + 2)))))), (rm, fz_da cD 28 (fz_pre 2 k (fz_mtG ff mm) mm)), (q, .inr (1, [.ref qd, .ref qm, .int (nI n2)])), (qd, fz_da cD 28 ee), (qm, fz_da cD 28 ff)] H := hP
        have hD : va_D A [(r, .inr (1, [.ref rd, .ref rm, .int (nI n)])), (rd, fz_da cD 28 (vf_upd (fz_pre 2 k (fz_mtG ee dd) dd) (k + 2) (FP.dmul 4602678819172646912 (FP.dadd (ee (k + 2)) (dd (k + 2)))))), (rm, fz_da cD 28 (fz_pre 2 k (fz_mtG ff mm) mm)), (q, .inr (1, [.ref qd, .ref qm, .int (nI n2)])), (qd, fz_da cD 28 ee), (qm, fz_da cD 28 ff)] := hD
        have hP : va_P D vwCl [(r, .inr (1, [.ref rd, .ref rm, .int (nI n)])), (rd, fz_da cD 28 (fz_pre 2 (k + 1) (fz_mtG ee dd) dd)), (rm, fz_da cD 28 (fz_pre 2 k (fz_mtG ff mm) mm)), (q, .inr (1, [.ref qd, .ref qm, .int (nI n2)])), (qd, fz_da cD 28 ee), (qm, fz_da cD 28 ff)] H := by rw [← fz_pre_s 2 k (fz_mtG ee dd) dd]; exact hP
        have hD : va_D A [(r, .inr (1, [.ref rd, .ref rm, .int (nI n)])), (rd, fz_da cD 28 (fz_pre 2 (k + 1) (fz_mtG ee dd) dd)), (rm, fz_da cD 28 (fz_pre 2 k (fz_mtG ff mm) mm)), (q, .inr (1, [.ref qd, .ref qm, .int (nI n2)])), (qd, fz_da cD 28 ee), (qm, fz_da cD 28 ff)] := by rw [← fz_pre_s 2 k (fz_mtG ee dd) dd]; exact hD
        refine lv_aload_n hx hb dX1_meet_35 rfl (lv_at hl 0 rfl) ?_
        refine va_get (D := D) (ci := 1) (v := .ref rm) (C := RX1) (T := TX1) (N := 3) hx hb hts hin_X1 hown hK hP 0 rfl rfl 1 (by decide) hw_fieldLink_RX1_15_FlowGrid_Row_momenta_D (fun _ h9 => h9) rfl dX1_meet_36 ?_
        refine lv_iload_n hx hb dX1_meet_39 rfl (lv_at hl 2 rfl) ?_
        refine lv_ldc2d hx hb hown hw_constantDouble_RX1_49_4602678819172646912 dX1_meet_40 ?_
        refine lv_aload_n hx hb dX1_meet_43 rfl (lv_at hl 1 rfl) ?_
        refine va_get (D := D) (ci := 1) (v := .ref qm) (C := RX1) (T := TX1) (N := 3) hx hb hts hin_X1 hown hK hP 3 rfl rfl 1 (by decide) hw_fieldLink_RX1_15_FlowGrid_Row_momenta_D (fun _ h9 => h9) rfl dX1_meet_44 ?_
        refine lv_iload_n hx hb dX1_meet_47 rfl (lv_at hl 2 rfl) ?_
        refine fz_dald (i := k + 2) hx hb hK hP 5 0 rfl rfl (by omega) (by decide) dX1_meet_48 ?_
        refine lv_aload_n hx hb dX1_meet_49 rfl (lv_at hl 0 rfl) ?_
        refine va_get (D := D) (ci := 1) (v := .ref rm) (C := RX1) (T := TX1) (N := 3) hx hb hts hin_X1 hown hK hP 0 rfl rfl 1 (by decide) hw_fieldLink_RX1_15_FlowGrid_Row_momenta_D (fun _ h9 => h9) rfl dX1_meet_50 ?_
        refine lv_iload_n hx hb dX1_meet_53 rfl (lv_at hl 2 rfl) ?_
        refine fz_dald (i := k + 2) hx hb hK hP 2 0 rfl rfl (by omega) (by decide) dX1_meet_54 ?_
        rw [fz_pre_at (lo := 2) (k := k) (q := (k + 2)) _ _ (by omega)]
        refine lv_dadd hx hb dX1_meet_55 ((hM k (by omega)).1) ?_
        refine lv_dmul hx hb dX1_meet_56 ((hM k (by omega)).2) ?_
        refine fz_dast (i := k + 2) hx hb hK hP hD hS 2 0 rfl rfl (by omega) (by decide) dX1_meet_57 (fun H locs hP hD hS => ?_)
        have hP : va_P D vwCl [(r, .inr (1, [.ref rd, .ref rm, .int (nI n)])), (rd, fz_da cD 28 (fz_pre 2 (k + 1) (fz_mtG ee dd) dd)), (rm, fz_da cD 28 (vf_upd (fz_pre 2 k (fz_mtG ff mm) mm) (k + 2) (FP.dmul 4602678819172646912 (FP.dadd (ff (k + 2)) (mm (k + 2)))))), (q, .inr (1, [.ref qd, .ref qm, .int (nI n2)])), (qd, fz_da cD 28 ee), (qm, fz_da cD 28 ff)] H := hP
        have hD : va_D A [(r, .inr (1, [.ref rd, .ref rm, .int (nI n)])), (rd, fz_da cD 28 (fz_pre 2 (k + 1) (fz_mtG ee dd) dd)), (rm, fz_da cD 28 (vf_upd (fz_pre 2 k (fz_mtG ff mm) mm) (k + 2) (FP.dmul 4602678819172646912 (FP.dadd (ff (k + 2)) (mm (k + 2)))))), (q, .inr (1, [.ref qd, .ref qm, .int (nI n2)])), (qd, fz_da cD 28 ee), (qm, fz_da cD 28 ff)] := hD
        have hP : va_P D vwCl [(r, .inr (1, [.ref rd, .ref rm, .int (nI n)])), (rd, fz_da cD 28 (fz_pre 2 (k + 1) (fz_mtG ee dd) dd)), (rm, fz_da cD 28 (fz_pre 2 (k + 1) (fz_mtG ff mm) mm)), (q, .inr (1, [.ref qd, .ref qm, .int (nI n2)])), (qd, fz_da cD 28 ee), (qm, fz_da cD 28 ff)] H := by rw [← fz_pre_s 2 k (fz_mtG ff mm) mm]; exact hP
        have hD : va_D A [(r, .inr (1, [.ref rd, .ref rm, .int (nI n)])), (rd, fz_da cD 28 (fz_pre 2 (k + 1) (fz_mtG ee dd) dd)), (rm, fz_da cD 28 (fz_pre 2 (k + 1) (fz_mtG ff mm) mm)), (q, .inr (1, [.ref qd, .ref qm, .int (nI n2)])), (qd, fz_da cD 28 ee), (qm, fz_da cD 28 ff)] := by rw [← fz_pre_s 2 k (fz_mtG ff mm) mm]; exact hD
        refine lv_iinc (v := nI (k + 3)) (lv' := [(2, .int (nI (k + 3))), (0, .ref r), (1, .ref q)]) hx hb dX1_meet_58 hl (k := 2) rfl (nI_1 _) (by decide) rfl (fun ls hl => ?_)
        refine lv_goto (tgt := 2) hx hb dX1_meet_61 (by decide) ?_
        exact ih (k + 1) (by omega) (by omega) H locs ls (hP) (hD) hS (lv_sub hl [1, 2, 0] rfl)
  exact loop2 (n + 1) 0 (by omega) (by omega) H locs ls (by rw [fz_pre_0, fz_pre_0]; exact hP) (by rw [fz_pre_0, fz_pre_0]; exact hD) hS (lv_sub hl [1, 2, 0] rfl)

set_option maxHeartbeats 4000000 in
set_option maxRecDepth 100000 in
theorem c_X1_longestTime (l : Launch) (D : va_G) (cD : ClassId) (r rd rm n : Nat) (dd mm : Nat → UInt64) (t : UInt64) (hn : n ≤ 24) (hw : fz_wOk dd mm n) (hq : fz_lt FP.dconst0 (fz_wC dd mm n) = true → vf_n64 (FP.ddiv 4600877379321698714 (fz_wC dd mm n))) : fz_C l D [(cD, .double)] yX1_longestTime wsX1_longestTime ({ frames := 1, cells := 0, slots := 0, locals := 30 }) [.ref r, .double t] [(r, .inr (1, [.ref rd, .ref rm, .int (nI n)])), (rd, fz_da cD 28 dd), (rm, fz_da cD 28 mm)] [(r, .inr (1, [.ref rd, .ref rm, .int (nI n)])), (rd, fz_da cD 28 dd), (rm, fz_da cD 28 mm)] (some (.double (fz_longC t (fz_wC dd mm n)))) := by
  refine fz_start (cc := cX1_longestTime) (maxL := 8) (ret := (some .double)) (by decide) rfl (Nat.le_of_ble_eq_true rfl) ?_
  intro p e s m below meth c A hx hb hr hlocks hml hown hts hK hA hNW H locs hP hD hS ls hl
  have hl : lv_has ls 8 [(0, .ref r), (1, .double t)] := hl
  have hown : s.vm.findClass RX1 = some m.cls := hown
  have hw_fieldLink_RX1_18_FlowGrid_Row_size_I := hts (.fieldLink RX1 18 "FlowGrid$Row" "size" "I") (by decide +kernel)
  have hin_X1 : ∀ w ∈ u_ws RX1 TX1 3, w ∈ wsX1_longestTime := by decide +kernel
  have hw_constantDouble_RX1_65_4600877379321698714 := hts (.constantDouble RX1 65 (4600877379321698714)) (by decide +kernel)
  have hw_initialized_RX3 := hts (.initialized RX3) (by decide +kernel)
  have hw_static_yX3_lesser := hts (.static yX3_lesser) (by decide +kernel)
  have hw_fieldLink_RX1_9_FlowGrid_Row_depths_D := hts (.fieldLink RX1 9 "FlowGrid$Row" "depths" "[D") (by decide +kernel)
  have hw_fieldLink_RX1_15_FlowGrid_Row_momenta_D := hts (.fieldLink RX1 15 "FlowGrid$Row" "momenta" "[D") (by decide +kernel)
  have hw_static_yX3_speedOf := hts (.static yX3_speedOf) (by decide +kernel)
  have hw_static_yX3_absolute := hts (.static yX3_absolute) (by decide +kernel)
  have hw_static_yX3_root := hts (.static yX3_root) (by decide +kernel)
  have hw_static_yX3_greater := hts (.static yX3_greater) (by decide +kernel)
  refine lv_dconst0 hx hb dX1_longestTime_0 ?_
  refine lv_dstore_n (lv' := [(3, .double FP.dconst0), (0, .ref r), (1, .double t)]) hx hb dX1_longestTime_1 rfl hl (by decide) rfl (fun ls hl => ?_)
  refine lv_iconst (v := nI 2) hx hb dX1_longestTime_2 (by decide) ?_
  refine lv_istore (lv' := [(5, .int (nI 2)), (3, .double FP.dconst0), (0, .ref r), (1, .double t)]) hx hb dX1_longestTime_3 hl (by decide) rfl (fun ls hl => ?_)
  have loop5 : ∀ (it k : Nat), k ≤ n → n < k + it → ∀ (H : Heap) (locs : List Loc) (ls : Array Slot), va_P D vwCl [(r, .inr (1, [.ref rd, .ref rm, .int (nI n)])), (rd, fz_da cD 28 dd), (rm, fz_da cD 28 mm)] H → va_D A [(r, .inr (1, [.ref rd, .ref rm, .int (nI n)])), (rd, fz_da cD 28 dd), (rm, fz_da cD 28 mm)] → va_S A s.heap H locs → lv_has ls 8 [(0, .ref r), (1, .double t), (3, .double (fz_wC dd mm k)), (5, .int (nI (k + 2)))] → W p l e ({ frames := 1, cells := 0, slots := 0, locals := 30 }) s m ([.ref r, .double t] : List Value).toArray below meth c H locs 0 0 (MQ below (fz_O D [(cD, .double)] [(r, .inr (1, [.ref rd, .ref rm, .int (nI n)])), (rd, fz_da cD 28 dd), (rm, fz_da cD 28 mm)] (some (.double (fz_longC t (fz_wC dd mm n)))) A) ([.ref r, .double t] : List Value).toArray s 0 0 A) (F0 m 5 ls []) := by
    intro it
    induction it with
    | zero => intro k h1 h2; exact absurd h2 (by omega)
    | succ it ih =>
      intro k hkk hnk H locs ls hP hD hS hl
      refine lv_iload hx hb dX1_longestTime_5 (lv_at hl 3 rfl) ?_
      refine lv_iconst (v := nI 2) hx hb dX1_longestTime_7 (by decide) ?_
      refine lv_aload_n hx hb dX1_longestTime_8 rfl (lv_at hl 0 rfl) ?_
      refine va_get (D := D) (ci := 1) (v := .int (nI n)) (C := RX1) (T := TX1) (N := 3) hx hb hts hin_X1 hown hK hP 0 rfl rfl 2 (by decide) hw_fieldLink_RX1_18_FlowGrid_Row_size_I (fun _ h9 => h9) rfl dX1_longestTime_9 ?_
      refine fz_iaddN hx hb dX1_longestTime_12 ?_
      refine fz_topn (b := n + 2) (by omega) ?_
      refine fz_icmp_geN (tgt := 57) hx hb (by omega) (by omega) dX1_longestTime_13 (by decide) (fun c13 => ?_) (fun c13 => ?_)
      · have hkz : n = k := by omega
        subst hkz
        refine lv_dload_n hx hb dX1_longestTime_57 rfl (lv_at hl 2 rfl) ?_
        refine lv_dconst0 hx hb dX1_longestTime_58 ?_
        refine fz_dl_le (tgt := 75) hx hb dX1_longestTime_59 dX1_longestTime_60 (by decide) (fun c59 => ?_) (fun c59 => ?_)
        · refine lv_dload_n hx hb dX1_longestTime_75 rfl (lv_at hl 1 rfl) ?_
          exact fz_dret hx hb hr hlocks (by unfold fz_longC; rw [if_neg (by rw [c59]; decide)]) hP hK hD hS dX1_longestTime_76
        · refine lv_dload_n hx hb dX1_longestTime_63 rfl (lv_at hl 1 rfl) ?_
          refine lv_ldc2d hx hb hown hw_constantDouble_RX1_65_4600877379321698714 dX1_longestTime_64 ?_
          refine lv_dload_n hx hb dX1_longestTime_67 rfl (lv_at hl 2 rfl) ?_
          refine lv_ddiv hx hb dX1_longestTime_68 (hq (by assumption)) ?_
          refine fz_callN (ws' := [(r, .inr (1, [.ref rd, .ref rm, .int (nI n)])), (rd, fz_da cD 28 dd), (rm, fz_da cD 28 mm)]) (wr := [(r, .inr (1, [.ref rd, .ref rm, .int (nI n)])), (rd, fz_da cD 28 dd), (rm, fz_da cD 28 mm)]) (As := [.double t, .double (FP.ddiv 4600877379321698714 (fz_wC dd mm n))]) (rest := []) ⟨hx, hb, hml, hown, hts⟩ (c_X3_lesser l D cD t (FP.ddiv 4600877379321698714 (fz_wC dd mm n))) ⟨va_cnB 2 hts gX1_longestTime_X3_lesser_n67 rfl rfl rfl (hNW ("FlowGrid$Row", 67, ⟨"FlowGrid", "lesser", "(DD)D"⟩) (by decide +kernel)) hw_initialized_RX3 (by decide +kernel) ⟨Nat.le_of_ble_eq_true rfl, Nat.le_of_ble_eq_true rfl⟩, hw_static_yX3_lesser, trivial⟩ hK hNW hP hD hS hA [] [0, 1, 2] [0, 1, 2] rfl rfl rfl rfl (by decide) rfl rfl rfl hl.1 rfl (Nat.le_of_ble_eq_true rfl) dX1_longestTime_69 ⟨Nat.zero_le _, Nat.zero_le _⟩ (fun H locs hP hD hS => ?_)
          refine lv_goto (tgt := 76) hx hb dX1_longestTime_72 (by decide) ?_
          exact fz_dret hx hb hr hlocks (by unfold fz_longC; rw [if_pos c59]) hP hK hD hS dX1_longestTime_76
      · refine lv_aload_n hx hb dX1_longestTime_16 rfl (lv_at hl 0 rfl) ?_
        refine va_get (D := D) (ci := 1) (v := .ref rd) (C := RX1) (T := TX1) (N := 3) hx hb hts hin_X1 hown hK hP 0 rfl rfl 0 (by decide) hw_fieldLink_RX1_9_FlowGrid_Row_depths_D (fun _ h9 => h9) rfl dX1_longestTime_17 ?_
        refine lv_iload hx hb dX1_longestTime_20 (lv_at hl 3 rfl) ?_
        refine fz_dald (i := k + 2) hx hb hK hP 1 0 rfl rfl (by omega) (by decide) dX1_longestTime_22 ?_
        refine lv_dstore (lv' := [(6, .double (dd (k + 2))), (0, .ref r), (1, .double t), (3, .double (fz_wC dd mm k)), (5, .int (nI (k + 2)))]) hx hb dX1_longestTime_23 hl (by decide) rfl (fun ls hl => ?_)
        refine lv_dload_n hx hb dX1_longestTime_25 rfl (lv_at hl 3 rfl) ?_
        refine lv_dload hx hb dX1_longestTime_26 (lv_at hl 0 rfl) ?_
        refine lv_aload_n hx hb dX1_longestTime_28 rfl (lv_at hl 1 rfl) ?_
        refine va_get (D := D) (ci := 1) (v := .ref rm) (C := RX1) (T := TX1) (N := 3) hx hb hts hin_X1 hown hK hP 0 rfl rfl 1 (by decide) hw_fieldLink_RX1_15_FlowGrid_Row_momenta_D (fun _ h9 => h9) rfl dX1_longestTime_29 ?_
        refine lv_iload hx hb dX1_longestTime_32 (lv_at hl 4 rfl) ?_
        refine fz_dald (i := k + 2) hx hb hK hP 2 0 rfl rfl (by omega) (by decide) dX1_longestTime_34 ?_
        refine fz_callN (ws' := [(r, .inr (1, [.ref rd, .ref rm, .int (nI n)])), (rd, fz_da cD 28 dd), (rm, fz_da cD 28 mm)]) (wr := [(r, .inr (1, [.ref rd, .ref rm, .int (nI n)])), (rd, fz_da cD 28 dd), (rm, fz_da cD 28 mm)]) (As := [.double (dd (k + 2)), .double (mm (k + 2))]) (rest := [.double (fz_wC dd mm k)]) ⟨hx, hb, hml, hown, hts⟩ (c_X3_speedOf l D cD (dd (k + 2)) (mm (k + 2)) ((hw k (by omega)).1.1) ((hw k (by omega)).1.2.1)) ⟨va_cnB 2 hts gX1_longestTime_X3_speedOf_n51 rfl rfl rfl (hNW ("FlowGrid$Row", 51, ⟨"FlowGrid", "speedOf", "(DD)D"⟩) (by decide +kernel)) hw_initialized_RX3 (by decide +kernel) ⟨Nat.le_of_ble_eq_true rfl, Nat.le_of_ble_eq_true rfl⟩, hw_static_yX3_speedOf, trivial⟩ hK hNW hP hD hS hA [] [0, 1, 2] [0, 1, 2] rfl rfl rfl rfl (by decide) rfl rfl rfl hl.1 rfl (Nat.le_of_ble_eq_true rfl) dX1_longestTime_35 ⟨Nat.zero_le _, Nat.zero_le _⟩ (fun H locs hP hD hS => ?_)
        refine fz_callN (ws' := [(r, .inr (1, [.ref rd, .ref rm, .int (nI n)])), (rd, fz_da cD 28 dd), (rm, fz_da cD 28 mm)]) (wr := [(r, .inr (1, [.ref rd, .ref rm, .int (nI n)])), (rd, fz_da cD 28 dd), (rm, fz_da cD 28 mm)]) (As := [.double (FP.ddiv (mm (k + 2)) (dd (k + 2)))]) (rest := [.double (fz_wC dd mm k)]) ⟨hx, hb, hml, hown, hts⟩ (c_X3_absolute l D cD (FP.ddiv (mm (k + 2)) (dd (k + 2)))) ⟨va_cnB 1 hts gX1_longestTime_X3_absolute_n55 rfl rfl rfl (hNW ("FlowGrid$Row", 55, ⟨"FlowGrid", "absolute", "(D)D"⟩) (by decide +kernel)) hw_initialized_RX3 (by decide +kernel) ⟨Nat.le_of_ble_eq_true rfl, Nat.le_of_ble_eq_true rfl⟩, hw_static_yX3_absolute, trivial⟩ hK hNW hP hD hS hA [] [0, 1, 2] [0, 1, 2] rfl rfl rfl rfl (by decide) rfl rfl rfl hl.1 rfl (Nat.le_of_ble_eq_true rfl) dX1_longestTime_38 ⟨Nat.zero_le _, Nat.zero_le _⟩ (fun H locs hP hD hS => ?_)
        refine lv_dload hx hb dX1_longestTime_41 (lv_at hl 0 rfl) ?_
        refine fz_callN (ws' := [(r, .inr (1, [.ref rd, .ref rm, .int (nI n)])), (rd, fz_da cD 28 dd), (rm, fz_da cD 28 mm)]) (wr := [(r, .inr (1, [.ref rd, .ref rm, .int (nI n)])), (rd, fz_da cD 28 dd), (rm, fz_da cD 28 mm)]) (As := [.double (dd (k + 2))]) (rest := [.double (fz_abs (FP.ddiv (mm (k + 2)) (dd (k + 2)))), .double (fz_wC dd mm k)]) ⟨hx, hb, hml, hown, hts⟩ (c_X3_root l D cD (dd (k + 2)) ((hw k (by omega)).1.2.2)) ⟨va_cnB 1 hts gX1_longestTime_X3_root_n59 rfl rfl rfl (hNW ("FlowGrid$Row", 59, ⟨"FlowGrid", "root", "(D)D"⟩) (by decide +kernel)) hw_initialized_RX3 (by decide +kernel) ⟨Nat.le_of_ble_eq_true rfl, Nat.le_of_ble_eq_true rfl⟩, hw_static_yX3_root, trivial⟩ hK hNW hP hD hS hA [] [0, 1, 2] [0, 1, 2] rfl rfl rfl rfl (by decide) rfl rfl rfl hl.1 rfl (Nat.le_of_ble_eq_true rfl) dX1_longestTime_43 ⟨Nat.zero_le _, Nat.zero_le _⟩ (fun H locs hP hD hS => ?_)
        refine lv_dadd hx hb dX1_longestTime_46 ((hw k (by omega)).2) ?_
        refine fz_callN (ws' := [(r, .inr (1, [.ref rd, .ref rm, .int (nI n)])), (rd, fz_da cD 28 dd), (rm, fz_da cD 28 mm)]) (wr := [(r, .inr (1, [.ref rd, .ref rm, .int (nI n)])), (rd, fz_da cD 28 dd), (rm, fz_da cD 28 mm)]) (As := [.double (fz_wC dd mm k), .double (FP.dadd (fz_abs (FP.ddiv (mm (k + 2)) (dd (k + 2)))) (fz_root (dd (k + 2))))]) (rest := []) ⟨hx, hb, hml, hown, hts⟩ (c_X3_greater l D cD (fz_wC dd mm k) (FP.dadd (fz_abs (FP.ddiv (mm (k + 2)) (dd (k + 2)))) (fz_root (dd (k + 2))))) ⟨va_cnB 2 hts gX1_longestTime_X3_greater_n62 rfl rfl rfl (hNW ("FlowGrid$Row", 62, ⟨"FlowGrid", "greater", "(DD)D"⟩) (by decide +kernel)) hw_initialized_RX3 (by decide +kernel) ⟨Nat.le_of_ble_eq_true rfl, Nat.le_of_ble_eq_true rfl⟩, hw_static_yX3_greater, trivial⟩ hK hNW hP hD hS hA [] [0, 1, 2] [0, 1, 2] rfl rfl rfl rfl (by decide) rfl rfl rfl hl.1 rfl (Nat.le_of_ble_eq_true rfl) dX1_longestTime_47 ⟨Nat.zero_le _, Nat.zero_le _⟩ (fun H locs hP hD hS => ?_)
        refine lv_dstore_n (lv' := [(3, .double (fz_gtrC (fz_wC dd mm k) (FP.dadd (fz_abs (FP.ddiv (mm (k + 2)) (dd (k + 2)))) (fz_root (dd (k + 2)))))), (6, .double (dd (k + 2))), (0, .ref r), (1, .double t), (5, .int (nI (k + 2)))]) hx hb dX1_longestTime_50 rfl hl (by decide) rfl (fun ls hl => ?_)
        refine lv_iinc (v := nI (k + 3)) (lv' := [(5, .int (nI (k + 3))), (3, .double (fz_gtrC (fz_wC dd mm k) (FP.dadd (fz_abs (FP.ddiv (mm (k + 2)) (dd (k + 2)))) (fz_root (dd (k + 2)))))), (6, .double (dd (k + 2))), (0, .ref r), (1, .double t)]) hx hb dX1_longestTime_51 hl (k := 4) rfl (nI_1 _) (by decide) rfl (fun ls hl => ?_)
        refine lv_goto (tgt := 5) hx hb dX1_longestTime_54 (by decide) ?_
        exact ih (k + 1) (by omega) (by omega) H locs ls (hP) (hD) hS (lv_sub hl [3, 4, 1, 0] rfl)
  exact loop5 (n + 1) 0 (by omega) (by omega) H locs ls (hP) (hD) hS (lv_sub hl [2, 3, 1, 0] rfl)

set_option maxHeartbeats 4000000 in
set_option maxRecDepth 100000 in
theorem c_X1_total_d (l : Launch) (D : va_G) (cD : ClassId) (r rd rm n : Nat) (dd mm : Nat → UInt64) (hn : n ≤ 24) (hk0 : fz_kahOk dd n) : fz_C l D [(cD, .double)] yX1_total wsX1_total ({ frames := 0, cells := 0, slots := 0, locals := 0 }) [.ref r, .ref rd] [(r, .inr (1, [.ref rd, .ref rm, .int (nI n)])), (rd, fz_da cD 28 dd), (rm, fz_da cD 28 mm)] [(r, .inr (1, [.ref rd, .ref rm, .int (nI n)])), (rd, fz_da cD 28 dd), (rm, fz_da cD 28 mm)] (some (.double (fz_kah dd n).1)) := by
  refine fz_start (cc := cX1_total) (maxL := 11) (ret := (some .double)) (by decide) rfl (Nat.le_of_ble_eq_true rfl) ?_
  intro p e s m below meth c A hx hb hr hlocks hml hown hts hK hA hNW H locs hP hD hS ls hl
  have hl : lv_has ls 11 [(0, .ref r), (1, .ref rd)] := hl
  have hown : s.vm.findClass RX1 = some m.cls := hown
  have hw_fieldLink_RX1_18_FlowGrid_Row_size_I := hts (.fieldLink RX1 18 "FlowGrid$Row" "size" "I") (by decide +kernel)
  have hin_X1 : ∀ w ∈ u_ws RX1 TX1 3, w ∈ wsX1_total := by decide +kernel
  refine lv_dconst0 hx hb dX1_total_0 ?_
  refine lv_dstore_n (lv' := [(2, .double FP.dconst0), (0, .ref r), (1, .ref rd)]) hx hb dX1_total_1 rfl hl (by decide) rfl (fun ls hl => ?_)
  refine lv_dconst0 hx hb dX1_total_2 ?_
  refine lv_dstore (lv' := [(4, .double FP.dconst0), (2, .double FP.dconst0), (0, .ref r), (1, .ref rd)]) hx hb dX1_total_3 hl (by decide) rfl (fun ls hl => ?_)
  refine lv_iconst (v := nI 2) hx hb dX1_total_5 (by decide) ?_
  refine lv_istore (lv' := [(6, .int (nI 2)), (4, .double FP.dconst0), (2, .double FP.dconst0), (0, .ref r), (1, .ref rd)]) hx hb dX1_total_6 hl (by decide) rfl (fun ls hl => ?_)
  have loop8 : ∀ (it k : Nat), k ≤ n → n < k + it → ∀ (H : Heap) (locs : List Loc) (ls : Array Slot), va_P D vwCl [(r, .inr (1, [.ref rd, .ref rm, .int (nI n)])), (rd, fz_da cD 28 dd), (rm, fz_da cD 28 mm)] H → va_D A [(r, .inr (1, [.ref rd, .ref rm, .int (nI n)])), (rd, fz_da cD 28 dd), (rm, fz_da cD 28 mm)] → va_S A s.heap H locs → lv_has ls 11 [(0, .ref r), (1, .ref rd), (2, .double ((fz_kah dd k).1)), (4, .double ((fz_kah dd k).2)), (6, .int (nI (k + 2)))] → W p l e ({ frames := 0, cells := 0, slots := 0, locals := 0 }) s m ([.ref r, .ref rd] : List Value).toArray below meth c H locs 0 0 (MQ below (fz_O D [(cD, .double)] [(r, .inr (1, [.ref rd, .ref rm, .int (nI n)])), (rd, fz_da cD 28 dd), (rm, fz_da cD 28 mm)] (some (.double (fz_kah dd n).1)) A) ([.ref r, .ref rd] : List Value).toArray s 0 0 A) (F0 m 8 ls []) := by
    intro it
    induction it with
    | zero => intro k h1 h2; exact absurd h2 (by omega)
    | succ it ih =>
      intro k hkk hnk H locs ls hP hD hS hl
      refine lv_iload hx hb dX1_total_8 (lv_at hl 4 rfl) ?_
      refine lv_iconst (v := nI 2) hx hb dX1_total_10 (by decide) ?_
      refine lv_aload_n hx hb dX1_total_11 rfl (lv_at hl 0 rfl) ?_
      refine va_get (D := D) (ci := 1) (v := .int (nI n)) (C := RX1) (T := TX1) (N := 3) hx hb hts hin_X1 hown hK hP 0 rfl rfl 2 (by decide) hw_fieldLink_RX1_18_FlowGrid_Row_size_I (fun _ h9 => h9) rfl dX1_total_12 ?_
      refine fz_iaddN hx hb dX1_total_15 ?_
      refine fz_topn (b := n + 2) (by omega) ?_
      refine fz_icmp_geN (tgt := 52) hx hb (by omega) (by omega) dX1_total_16 (by decide) (fun c16 => ?_) (fun c16 => ?_)
      · refine lv_dload_n hx hb dX1_total_52 rfl (lv_at hl 2 rfl) ?_
        have hkz : n = k := by omega
        subst hkz
        exact fz_dret hx hb hr hlocks (rfl) hP hK hD hS dX1_total_53
      · refine lv_aload_n hx hb dX1_total_19 rfl (lv_at hl 1 rfl) ?_
        refine lv_iload hx hb dX1_total_20 (lv_at hl 4 rfl) ?_
        refine fz_dald (i := k + 2) hx hb hK hP 1 0 rfl rfl (by omega) (by decide) dX1_total_22 ?_
        refine lv_dload hx hb dX1_total_23 (lv_at hl 3 rfl) ?_
        refine lv_dsub hx hb dX1_total_25 ((hk0 k (by omega)).1) ?_
        refine lv_dstore (lv' := [(7, .double (FP.dsub (dd (k + 2)) ((fz_kah dd k).2))), (0, .ref r), (1, .ref rd), (2, .double ((fz_kah dd k).1)), (4, .double ((fz_kah dd k).2)), (6, .int (nI (k + 2)))]) hx hb dX1_total_26 hl (by decide) rfl (fun ls hl => ?_)
        refine lv_dload_n hx hb dX1_total_28 rfl (lv_at hl 3 rfl) ?_
        refine lv_dload hx hb dX1_total_29 (lv_at hl 0 rfl) ?_
        refine lv_dadd hx hb dX1_total_31 ((hk0 k (by omega)).2.1) ?_
        refine lv_dstore (lv' := [(9, .double (FP.dadd ((fz_kah dd k).1) (FP.dsub (dd (k + 2)) ((fz_kah dd k).2)))), (7, .double (FP.dsub (dd (k + 2)) ((fz_kah dd k).2))), (0, .ref r), (1, .ref rd), (2, .double ((fz_kah dd k).1)), (4, .double ((fz_kah dd k).2)), (6, .int (nI (k + 2)))]) hx hb dX1_total_32 hl (by decide) rfl (fun ls hl => ?_)
        refine lv_dload hx hb dX1_total_34 (lv_at hl 0 rfl) ?_
        refine lv_dload_n hx hb dX1_total_36 rfl (lv_at hl 4 rfl) ?_
        refine lv_dsub hx hb dX1_total_37 ((hk0 k (by omega)).2.2.1) ?_
        refine lv_dload hx hb dX1_total_38 (lv_at hl 1 rfl) ?_
        refine lv_dsub hx hb dX1_total_40 ((hk0 k (by omega)).2.2.2) ?_
        refine lv_dstore (lv' := [(4, .double (FP.dsub (FP.dsub (FP.dadd ((fz_kah dd k).1) (FP.dsub (dd (k + 2)) ((fz_kah dd k).2))) ((fz_kah dd k).1)) (FP.dsub (dd (k + 2)) ((fz_kah dd k).2)))), (9, .double (FP.dadd ((fz_kah dd k).1) (FP.dsub (dd (k + 2)) ((fz_kah dd k).2)))), (7, .double (FP.dsub (dd (k + 2)) ((fz_kah dd k).2))), (0, .ref r), (1, .ref rd), (2, .double ((fz_kah dd k).1)), (6, .int (nI (k + 2)))]) hx hb dX1_total_41 hl (by decide) rfl (fun ls hl => ?_)
        refine lv_dload hx hb dX1_total_43 (lv_at hl 1 rfl) ?_
        refine lv_dstore_n (lv' := [(2, .double (FP.dadd ((fz_kah dd k).1) (FP.dsub (dd (k + 2)) ((fz_kah dd k).2)))), (4, .double (FP.dsub (FP.dsub (FP.dadd ((fz_kah dd k).1) (FP.dsub (dd (k + 2)) ((fz_kah dd k).2))) ((fz_kah dd k).1)) (FP.dsub (dd (k + 2)) ((fz_kah dd k).2)))), (9, .double (FP.dadd ((fz_kah dd k).1) (FP.dsub (dd (k + 2)) ((fz_kah dd k).2)))), (7, .double (FP.dsub (dd (k + 2)) ((fz_kah dd k).2))), (0, .ref r), (1, .ref rd), (6, .int (nI (k + 2)))]) hx hb dX1_total_45 rfl hl (by decide) rfl (fun ls hl => ?_)
        refine lv_iinc (v := nI (k + 3)) (lv' := [(6, .int (nI (k + 3))), (2, .double (FP.dadd ((fz_kah dd k).1) (FP.dsub (dd (k + 2)) ((fz_kah dd k).2)))), (4, .double (FP.dsub (FP.dsub (FP.dadd ((fz_kah dd k).1) (FP.dsub (dd (k + 2)) ((fz_kah dd k).2))) ((fz_kah dd k).1)) (FP.dsub (dd (k + 2)) ((fz_kah dd k).2)))), (9, .double (FP.dadd ((fz_kah dd k).1) (FP.dsub (dd (k + 2)) ((fz_kah dd k).2)))), (7, .double (FP.dsub (dd (k + 2)) ((fz_kah dd k).2))), (0, .ref r), (1, .ref rd)]) hx hb dX1_total_46 hl (k := 6) rfl (nI_1 _) (by decide) rfl (fun ls hl => ?_)
        refine lv_goto (tgt := 8) hx hb dX1_total_49 (by decide) ?_
        exact ih (k + 1) (by omega) (by omega) H locs ls (hP) (hD) hS (lv_sub hl [5, 6, 1, 2, 0] rfl)
  exact loop8 (n + 1) 0 (by omega) (by omega) H locs ls (hP) (hD) hS (lv_sub hl [3, 4, 2, 1, 0] rfl)

set_option maxHeartbeats 4000000 in
set_option maxRecDepth 100000 in
theorem c_X1_total_m (l : Launch) (D : va_G) (cD : ClassId) (r rd rm n : Nat) (dd mm : Nat → UInt64) (hn : n ≤ 24) (hk0 : fz_kahOk mm n) : fz_C l D [(cD, .double)] yX1_total wsX1_total ({ frames := 0, cells := 0, slots := 0, locals := 0 }) [.ref r, .ref rm] [(r, .inr (1, [.ref rd, .ref rm, .int (nI n)])), (rd, fz_da cD 28 dd), (rm, fz_da cD 28 mm)] [(r, .inr (1, [.ref rd, .ref rm, .int (nI n)])), (rd, fz_da cD 28 dd), (rm, fz_da cD 28 mm)] (some (.double (fz_kah mm n).1)) := by
  refine fz_start (cc := cX1_total) (maxL := 11) (ret := (some .double)) (by decide) rfl (Nat.le_of_ble_eq_true rfl) ?_
  intro p e s m below meth c A hx hb hr hlocks hml hown hts hK hA hNW H locs hP hD hS ls hl
  have hl : lv_has ls 11 [(0, .ref r), (1, .ref rm)] := hl
  have hown : s.vm.findClass RX1 = some m.cls := hown
  have hw_fieldLink_RX1_18_FlowGrid_Row_size_I := hts (.fieldLink RX1 18 "FlowGrid$Row" "size" "I") (by decide +kernel)
  have hin_X1 : ∀ w ∈ u_ws RX1 TX1 3, w ∈ wsX1_total := by decide +kernel
  refine lv_dconst0 hx hb dX1_total_0 ?_
  refine lv_dstore_n (lv' := [(2, .double FP.dconst0), (0, .ref r), (1, .ref rm)]) hx hb dX1_total_1 rfl hl (by decide) rfl (fun ls hl => ?_)
  refine lv_dconst0 hx hb dX1_total_2 ?_
  refine lv_dstore (lv' := [(4, .double FP.dconst0), (2, .double FP.dconst0), (0, .ref r), (1, .ref rm)]) hx hb dX1_total_3 hl (by decide) rfl (fun ls hl => ?_)
  refine lv_iconst (v := nI 2) hx hb dX1_total_5 (by decide) ?_
  refine lv_istore (lv' := [(6, .int (nI 2)), (4, .double FP.dconst0), (2, .double FP.dconst0), (0, .ref r), (1, .ref rm)]) hx hb dX1_total_6 hl (by decide) rfl (fun ls hl => ?_)
  have loop8 : ∀ (it k : Nat), k ≤ n → n < k + it → ∀ (H : Heap) (locs : List Loc) (ls : Array Slot), va_P D vwCl [(r, .inr (1, [.ref rd, .ref rm, .int (nI n)])), (rd, fz_da cD 28 dd), (rm, fz_da cD 28 mm)] H → va_D A [(r, .inr (1, [.ref rd, .ref rm, .int (nI n)])), (rd, fz_da cD 28 dd), (rm, fz_da cD 28 mm)] → va_S A s.heap H locs → lv_has ls 11 [(0, .ref r), (1, .ref rm), (2, .double ((fz_kah mm k).1)), (4, .double ((fz_kah mm k).2)), (6, .int (nI (k + 2)))] → W p l e ({ frames := 0, cells := 0, slots := 0, locals := 0 }) s m ([.ref r, .ref rm] : List Value).toArray below meth c H locs 0 0 (MQ below (fz_O D [(cD, .double)] [(r, .inr (1, [.ref rd, .ref rm, .int (nI n)])), (rd, fz_da cD 28 dd), (rm, fz_da cD 28 mm)] (some (.double (fz_kah mm n).1)) A) ([.ref r, .ref rm] : List Value).toArray s 0 0 A) (F0 m 8 ls []) := by
    intro it
    induction it with
    | zero => intro k h1 h2; exact absurd h2 (by omega)
    | succ it ih =>
      intro k hkk hnk H locs ls hP hD hS hl
      refine lv_iload hx hb dX1_total_8 (lv_at hl 4 rfl) ?_
      refine lv_iconst (v := nI 2) hx hb dX1_total_10 (by decide) ?_
      refine lv_aload_n hx hb dX1_total_11 rfl (lv_at hl 0 rfl) ?_
      refine va_get (D := D) (ci := 1) (v := .int (nI n)) (C := RX1) (T := TX1) (N := 3) hx hb hts hin_X1 hown hK hP 0 rfl rfl 2 (by decide) hw_fieldLink_RX1_18_FlowGrid_Row_size_I (fun _ h9 => h9) rfl dX1_total_12 ?_
      refine fz_iaddN hx hb dX1_total_15 ?_
      refine fz_topn (b := n + 2) (by omega) ?_
      refine fz_icmp_geN (tgt := 52) hx hb (by omega) (by omega) dX1_total_16 (by decide) (fun c16 => ?_) (fun c16 => ?_)
      · refine lv_dload_n hx hb dX1_total_52 rfl (lv_at hl 2 rfl) ?_
        have hkz : n = k := by omega
        subst hkz
        exact fz_dret hx hb hr hlocks (rfl) hP hK hD hS dX1_total_53
      · refine lv_aload_n hx hb dX1_total_19 rfl (lv_at hl 1 rfl) ?_
        refine lv_iload hx hb dX1_total_20 (lv_at hl 4 rfl) ?_
        refine fz_dald (i := k + 2) hx hb hK hP 2 0 rfl rfl (by omega) (by decide) dX1_total_22 ?_
        refine lv_dload hx hb dX1_total_23 (lv_at hl 3 rfl) ?_
        refine lv_dsub hx hb dX1_total_25 ((hk0 k (by omega)).1) ?_
        refine lv_dstore (lv' := [(7, .double (FP.dsub (mm (k + 2)) ((fz_kah mm k).2))), (0, .ref r), (1, .ref rm), (2, .double ((fz_kah mm k).1)), (4, .double ((fz_kah mm k).2)), (6, .int (nI (k + 2)))]) hx hb dX1_total_26 hl (by decide) rfl (fun ls hl => ?_)
        refine lv_dload_n hx hb dX1_total_28 rfl (lv_at hl 3 rfl) ?_
        refine lv_dload hx hb dX1_total_29 (lv_at hl 0 rfl) ?_
        refine lv_dadd hx hb dX1_total_31 ((hk0 k (by omega)).2.1) ?_
        refine lv_dstore (lv' := [(9, .double (FP.dadd ((fz_kah mm k).1) (FP.dsub (mm (k + 2)) ((fz_kah mm k).2)))), (7, .double (FP.dsub (mm (k + 2)) ((fz_kah mm k).2))), (0, .ref r), (1, .ref rm), (2, .double ((fz_kah mm k).1)), (4, .double ((fz_kah mm k).2)), (6, .int (nI (k + 2)))]) hx hb dX1_total_32 hl (by decide) rfl (fun ls hl => ?_)
        refine lv_dload hx hb dX1_total_34 (lv_at hl 0 rfl) ?_
        refine lv_dload_n hx hb dX1_total_36 rfl (lv_at hl 4 rfl) ?_
        refine lv_dsub hx hb dX1_total_37 ((hk0 k (by omega)).2.2.1) ?_
        refine lv_dload hx hb dX1_total_38 (lv_at hl 1 rfl) ?_
        refine lv_dsub hx hb dX1_total_40 ((hk0 k (by omega)).2.2.2) ?_
        refine lv_dstore (lv' := [(4, .double (FP.dsub (FP.dsub (FP.dadd ((fz_kah mm k).1) (FP.dsub (mm (k + 2)) ((fz_kah mm k).2))) ((fz_kah mm k).1)) (FP.dsub (mm (k + 2)) ((fz_kah mm k).2)))), (9, .double (FP.dadd ((fz_kah mm k).1) (FP.dsub (mm (k + 2)) ((fz_kah mm k).2)))), (7, .double (FP.dsub (mm (k + 2)) ((fz_kah mm k).2))), (0, .ref r), (1, .ref rm), (2, .double ((fz_kah mm k).1)), (6, .int (nI (k + 2)))]) hx hb dX1_total_41 hl (by decide) rfl (fun ls hl => ?_)
        refine lv_dload hx hb dX1_total_43 (lv_at hl 1 rfl) ?_
        refine lv_dstore_n (lv' := [(2, .double (FP.dadd ((fz_kah mm k).1) (FP.dsub (mm (k + 2)) ((fz_kah mm k).2)))), (4, .double (FP.dsub (FP.dsub (FP.dadd ((fz_kah mm k).1) (FP.dsub (mm (k + 2)) ((fz_kah mm k).2))) ((fz_kah mm k).1)) (FP.dsub (mm (k + 2)) ((fz_kah mm k).2)))), (9, .double (FP.dadd ((fz_kah mm k).1) (FP.dsub (mm (k + 2)) ((fz_kah mm k).2)))), (7, .double (FP.dsub (mm (k + 2)) ((fz_kah mm k).2))), (0, .ref r), (1, .ref rm), (6, .int (nI (k + 2)))]) hx hb dX1_total_45 rfl hl (by decide) rfl (fun ls hl => ?_)
        refine lv_iinc (v := nI (k + 3)) (lv' := [(6, .int (nI (k + 3))), (2, .double (FP.dadd ((fz_kah mm k).1) (FP.dsub (mm (k + 2)) ((fz_kah mm k).2)))), (4, .double (FP.dsub (FP.dsub (FP.dadd ((fz_kah mm k).1) (FP.dsub (mm (k + 2)) ((fz_kah mm k).2))) ((fz_kah mm k).1)) (FP.dsub (mm (k + 2)) ((fz_kah mm k).2)))), (9, .double (FP.dadd ((fz_kah mm k).1) (FP.dsub (mm (k + 2)) ((fz_kah mm k).2)))), (7, .double (FP.dsub (mm (k + 2)) ((fz_kah mm k).2))), (0, .ref r), (1, .ref rm)]) hx hb dX1_total_46 hl (k := 6) rfl (nI_1 _) (by decide) rfl (fun ls hl => ?_)
        refine lv_goto (tgt := 8) hx hb dX1_total_49 (by decide) ?_
        exact ih (k + 1) (by omega) (by omega) H locs ls (hP) (hD) hS (lv_sub hl [5, 6, 1, 2, 0] rfl)
  exact loop8 (n + 1) 0 (by omega) (by omega) H locs ls (hP) (hD) hS (lv_sub hl [3, 4, 2, 1, 0] rfl)
end
section
/-! FlowGrid$Faces -/
abbrev fz_two : UInt64 := 4611686018427387904
abbrev fz_c01 : UInt64 := 4576918229304087675
def fz_slopeC (lim : Nat) (a b : UInt64) : UInt64 := if lim = 0 then FP.dconst0 else if fz_lt FP.dconst0 (FP.dmul a b) = true then (if lim = 1 then fz_near a b else if lim = 2 then fz_farr (fz_near (FP.dmul fz_two a) b) (fz_near a (FP.dmul fz_two b)) else FP.ddiv (FP.dmul (FP.dmul fz_two a) b) (FP.dadd a b)) else FP.dconst0
def fz_slcOk (a b : UInt64) : Prop := vf_n64 a ∧ vf_n64 b ∧ vf_n64 (FP.dmul a b) ∧ vf_n64 (FP.dmul fz_two a) ∧ vf_n64 (FP.dmul fz_two b) ∧ vf_n64 (FP.dmul (FP.dmul fz_two a) b) ∧ vf_n64 (FP.dadd a b) ∧ (fz_lt FP.dconst0 (FP.dmul a b) = true → vf_n64 (FP.ddiv (FP.dmul (FP.dmul fz_two a) b) (FP.dadd a b)))
abbrev fz_dA (f : Nat → UInt64) (j : Nat) : UInt64 := FP.dsub (f (j + 1)) (f j)
abbrev fz_dB (f : Nat → UInt64) (j : Nat) : UInt64 := FP.dsub (f (j + 2)) (f (j + 1))
def fz_slAt (lim : Nat) (f : Nat → UInt64) (j : Nat) : UInt64 := fz_slopeC lim (fz_dA f j) (fz_dB f j)
def fz_dry (lim : Nat) (d : Nat → UInt64) (j : Nat) : Bool := fz_lt (FP.dadd (d (j + 1)) (FP.dmul fz_half (fz_slAt lim d j))) fz_c01 || fz_lt (FP.dsub (d (j + 1)) (FP.dmul fz_half (fz_slAt lim d j))) fz_c01
def fz_sHg (lim : Nat) (d : Nat → UInt64) (j : Nat) : UInt64 := if fz_dry lim d j = true then FP.dconst0 else fz_slAt lim d j
def fz_sMg (lim : Nat) (d m : Nat → UInt64) (j : Nat) : UInt64 := if fz_dry lim d j = true then FP.dconst0 else fz_slAt lim m j
def fz_fsOk (lim : Nat) (d m : Nat → UInt64) (n : Nat) : Prop := ∀ j, j < n + 2 → fz_slcOk (fz_dA d j) (fz_dB d j) ∧ fz_slcOk (fz_dA m j) (fz_dB m j) ∧ vf_n64 (FP.dmul fz_half (fz_slAt lim d j)) ∧ vf_n64 (FP.dadd (d (j + 1)) (FP.dmul fz_half (fz_slAt lim d j))) ∧ vf_n64 (FP.dsub (d (j + 1)) (FP.dmul fz_half (fz_slAt lim d j)))
abbrev fz_L (d s : Nat → UInt64) (k : Nat) : UInt64 := FP.dadd (d (k + 1)) (FP.dmul fz_half (s (k + 1)))
abbrev fz_R (d s : Nat → UInt64) (k : Nat) : UInt64 := FP.dsub (d (k + 2)) (FP.dmul fz_half (s (k + 2)))
def fz_gsOk (d m sH sM : Nat → UInt64) (k : Nat) : Prop := vf_n64 (FP.dmul fz_half (sH (k + 1))) ∧ vf_n64 (fz_L d sH k) ∧ vf_n64 (FP.dmul fz_half (sM (k + 1))) ∧ vf_n64 (fz_L m sM k) ∧ vf_n64 (FP.dmul fz_half (sH (k + 2))) ∧ vf_n64 (fz_R d sH k) ∧ vf_n64 (FP.dmul fz_half (sM (k + 2))) ∧ vf_n64 (fz_R m sM k) ∧ fz_stOk (fz_L d sH k) (fz_L m sM k) ∧ fz_stOk (fz_R d sH k) (fz_R m sM k)
def fz_brd (s F G l r : UInt64) : UInt64 := FP.dsub (FP.dmul fz_half (FP.dadd F G)) (FP.dmul (FP.dmul fz_half s) (FP.dsub r l))
def fz_brdOk (s F G l r : UInt64) : Prop := vf_n64 (FP.dadd F G) ∧ vf_n64 (FP.dmul fz_half (FP.dadd F G)) ∧ vf_n64 (FP.dmul fz_half s) ∧ vf_n64 (FP.dsub r l) ∧ vf_n64 (FP.dmul (FP.dmul fz_half s) (FP.dsub r l)) ∧ vf_n64 (fz_brd s F G l r)
def fz_bld (x y f g j : UInt64) : UInt64 := if fz_lt x FP.dconst0 = true then (if fz_lt FP.dconst0 y = true then FP.ddiv (FP.dadd (FP.dsub (FP.dmul y f) (FP.dmul x g)) (FP.dmul (FP.dmul x y) j)) (FP.dsub y x) else g) else f
def fz_bldOk (x y f g j : UInt64) : Prop := fz_lt x FP.dconst0 = true → fz_lt FP.dconst0 y = true → vf_n64 (FP.dmul y f) ∧ vf_n64 (FP.dmul x g) ∧ vf_n64 (FP.dsub (FP.dmul y f) (FP.dmul x g)) ∧ vf_n64 (FP.dmul x y) ∧ vf_n64 (FP.dmul (FP.dmul x y) j) ∧ vf_n64 (FP.dadd (FP.dsub (FP.dmul y f) (FP.dmul x g)) (FP.dmul (FP.dmul x y) j)) ∧ vf_n64 (FP.dsub y x) ∧ vf_n64 (FP.ddiv (FP.dadd (FP.dsub (FP.dmul y f) (FP.dmul x g)) (FP.dmul (FP.dmul x y) j)) (FP.dsub y x))
def fz_mfOk (h m u : UInt64) : Prop := vf_n64 (FP.dmul m u) ∧ vf_n64 (FP.dmul fz_half h) ∧ vf_n64 (FP.dmul (FP.dmul fz_half h) h) ∧ vf_n64 (fz_mflux h m u)
abbrev fz_sB (u1 c1 u2 c2 : UInt64) : UInt64 := fz_gtrC (fz_reach u1 c1) (fz_reach u2 c2)
abbrev fz_xN (u1 c1 u2 c2 : UInt64) : UInt64 := fz_lesC (FP.dsub u1 c1) (FP.dsub u2 c2)
abbrev fz_yN (u1 c1 u2 c2 : UInt64) : UInt64 := fz_gtrC (FP.dadd u1 c1) (FP.dadd u2 c2)
def fz_bOk (h1 m1 u1 c1 h2 m2 u2 c2 : UInt64) : Prop := vf_n64 (fz_reach u1 c1) ∧ vf_n64 (fz_reach u2 c2) ∧ fz_mfOk h1 m1 u1 ∧ fz_mfOk h2 m2 u2 ∧ fz_brdOk (fz_sB u1 c1 u2 c2) m1 m2 h1 h2 ∧ fz_brdOk (fz_sB u1 c1 u2 c2) (fz_mflux h1 m1 u1) (fz_mflux h2 m2 u2) m1 m2
def fz_nOk (h1 m1 u1 c1 h2 m2 u2 c2 : UInt64) : Prop := vf_n64 (FP.dsub u1 c1) ∧ vf_n64 (FP.dsub u2 c2) ∧ vf_n64 (FP.dadd u1 c1) ∧ vf_n64 (FP.dadd u2 c2) ∧ fz_mfOk h1 m1 u1 ∧ fz_mfOk h2 m2 u2 ∧ vf_n64 (FP.dsub h2 h1) ∧ vf_n64 (FP.dsub m2 m1) ∧ fz_bldOk (fz_xN u1 c1 u2 c2) (fz_yN u1 c1 u2 c2) m1 m2 (FP.dsub h2 h1) ∧ fz_bldOk (fz_xN u1 c1 u2 c2) (fz_yN u1 c1 u2 c2) (fz_mflux h1 m1 u1) (fz_mflux h2 m2 u2) (FP.dsub m2 m1)
def fz_fluxH (sol : Nat) (h1 m1 h2 m2 : UInt64) : UInt64 := if sol = 1 then fz_bld (fz_xN (FP.ddiv m1 h1) (fz_root h1) (FP.ddiv m2 h2) (fz_root h2)) (fz_yN (FP.ddiv m1 h1) (fz_root h1) (FP.ddiv m2 h2) (fz_root h2)) m1 m2 (FP.dsub h2 h1) else fz_brd (fz_sB (FP.ddiv m1 h1) (fz_root h1) (FP.ddiv m2 h2) (fz_root h2)) m1 m2 h1 h2
def fz_fluxM (sol : Nat) (h1 m1 h2 m2 : UInt64) : UInt64 := if sol = 1 then fz_bld (fz_xN (FP.ddiv m1 h1) (fz_root h1) (FP.ddiv m2 h2) (fz_root h2)) (fz_yN (FP.ddiv m1 h1) (fz_root h1) (FP.ddiv m2 h2) (fz_root h2)) (fz_mflux h1 m1 (FP.ddiv m1 h1)) (fz_mflux h2 m2 (FP.ddiv m2 h2)) (FP.dsub m2 m1) else fz_brd (fz_sB (FP.ddiv m1 h1) (fz_root h1) (FP.ddiv m2 h2) (fz_root h2)) (fz_mflux h1 m1 (FP.ddiv m1 h1)) (fz_mflux h2 m2 (FP.ddiv m2 h2)) m1 m2
def fz_fxOk (sol : Nat) (h1 m1 h2 m2 : UInt64) : Prop := (sol = 1 → fz_nOk h1 m1 (FP.ddiv m1 h1) (fz_root h1) h2 m2 (FP.ddiv m2 h2) (fz_root h2)) ∧ (sol ≠ 1 → fz_bOk h1 m1 (FP.ddiv m1 h1) (fz_root h1) h2 m2 (FP.ddiv m2 h2) (fz_root h2))
def fz_FHg (sol : Nat) (d m sH sM : Nat → UInt64) (k : Nat) : UInt64 := fz_fluxH sol (fz_L d sH k) (fz_L m sM k) (fz_R d sH k) (fz_R m sM k)
def fz_FMg (sol : Nat) (d m sH sM : Nat → UInt64) (k : Nat) : UInt64 := fz_fluxM sol (fz_L d sH k) (fz_L m sM k) (fz_R d sH k) (fz_R m sM k)
/-- what a place held at first, or what round k - 1 left there -/
def fz_pk (a : UInt64) (g : Nat → UInt64) : Nat → UInt64
  | 0 => a
  | k + 1 => g k

set_option maxHeartbeats 4000000 in
set_option maxRecDepth 100000 in
theorem c_X0_slopeAt0 (l : Launch) (D : va_G) (cD : ClassId) (f ad j : Nat) (ff : Nat → UInt64) (hj : j < 26) (hok : fz_slcOk (fz_dA ff j) (fz_dB ff j)) : fz_C l D [(cD, .double)] yX0_slopeAt wsX0_slopeAt ({ frames := 1, cells := 0, slots := 0, locals := 30 }) [.ref f, .ref ad, .int (nI (j + 1)), .int (nI 0)] [(ad, fz_da cD 28 ff)] [(ad, fz_da cD 28 ff)] (some (.double (fz_slAt 0 ff j))) := by
  refine fz_start (cc := cX0_slopeAt) (maxL := 8) (ret := (some .double)) (by decide) rfl (Nat.le_of_ble_eq_true rfl) ?_
  intro p e s m below meth c A hx hb hr hlocks hml hown hts hK hA hNW H locs hP hD hS ls hl
  have hl : lv_has ls 8 [(0, .ref f), (1, .ref ad), (2, .int (nI (j + 1))), (3, .int (nI 0))] := hl
  have hown : s.vm.findClass RX0 = some m.cls := hown
  refine lv_aload_n hx hb dX0_slopeAt_0 rfl (lv_at hl 1 rfl) ?_
  refine lv_iload_n hx hb dX0_slopeAt_1 rfl (lv_at hl 2 rfl) ?_
  refine fz_dald (i := j + 1) hx hb hK hP 0 0 rfl rfl (by omega) (by decide) dX0_slopeAt_2 ?_
  refine lv_aload_n hx hb dX0_slopeAt_3 rfl (lv_at hl 1 rfl) ?_
  refine lv_iload_n hx hb dX0_slopeAt_4 rfl (lv_at hl 2 rfl) ?_
  refine lv_iconst (v := nI 1) hx hb dX0_slopeAt_5 (by decide) ?_
  refine fz_isubN hx hb (by omega) dX0_slopeAt_6 ?_
  refine fz_topn (b := j) (by omega) ?_
  refine fz_dald (i := j) hx hb hK hP 0 0 rfl rfl (by omega) (by decide) dX0_slopeAt_7 ?_
  refine lv_dsub hx hb dX0_slopeAt_8 (hok.1) ?_
  refine lv_dstore (lv' := [(4, .double (FP.dsub (ff (j + 1)) (ff j))), (0, .ref f), (1, .ref ad), (2, .int (nI (j + 1))), (3, .int (nI 0))]) hx hb dX0_slopeAt_9 hl (by decide) rfl (fun ls hl => ?_)
  refine lv_aload_n hx hb dX0_slopeAt_11 rfl (lv_at hl 2 rfl) ?_
  refine lv_iload_n hx hb dX0_slopeAt_12 rfl (lv_at hl 3 rfl) ?_
  refine lv_iconst (v := nI 1) hx hb dX0_slopeAt_13 (by decide) ?_
  refine fz_iaddN hx hb dX0_slopeAt_14 ?_
  refine fz_topn (b := j + 2) (by omega) ?_
  refine fz_dald (i := j + 2) hx hb hK hP 0 0 rfl rfl (by omega) (by decide) dX0_slopeAt_15 ?_
  refine lv_aload_n hx hb dX0_slopeAt_16 rfl (lv_at hl 2 rfl) ?_
  refine lv_iload_n hx hb dX0_slopeAt_17 rfl (lv_at hl 3 rfl) ?_
  refine fz_dald (i := j + 1) hx hb hK hP 0 0 rfl rfl (by omega) (by decide) dX0_slopeAt_18 ?_
  refine lv_dsub hx hb dX0_slopeAt_19 (hok.2.1) ?_
  refine lv_dstore (lv' := [(6, .double (FP.dsub (ff (j + 2)) (ff (j + 1)))), (4, .double (FP.dsub (ff (j + 1)) (ff j))), (0, .ref f), (1, .ref ad), (2, .int (nI (j + 1))), (3, .int (nI 0))]) hx hb dX0_slopeAt_20 hl (by decide) rfl (fun ls hl => ?_)
  refine lv_iload_n hx hb dX0_slopeAt_22 rfl (lv_at hl 5 rfl) ?_
  refine lv_if_eq (tgt := 36) hx hb dX0_slopeAt_23 (by decide) (fun c23 => ?_) (fun c23 => absurd c23 (by decide))
  refine lv_dconst0 hx hb dX0_slopeAt_36 ?_
  exact fz_dret hx hb hr hlocks (by simp [fz_slAt, fz_slopeC]) hP hK hD hS dX0_slopeAt_37

set_option maxHeartbeats 4000000 in
set_option maxRecDepth 100000 in
theorem c_X0_slopeAt1 (l : Launch) (D : va_G) (cD : ClassId) (f ad j : Nat) (ff : Nat → UInt64) (hj : j < 26) (hok : fz_slcOk (fz_dA ff j) (fz_dB ff j)) : fz_C l D [(cD, .double)] yX0_slopeAt wsX0_slopeAt ({ frames := 1, cells := 0, slots := 0, locals := 30 }) [.ref f, .ref ad, .int (nI (j + 1)), .int (nI 1)] [(ad, fz_da cD 28 ff)] [(ad, fz_da cD 28 ff)] (some (.double (fz_slAt 1 ff j))) := by
  refine fz_start (cc := cX0_slopeAt) (maxL := 8) (ret := (some .double)) (by decide) rfl (Nat.le_of_ble_eq_true rfl) ?_
  intro p e s m below meth c A hx hb hr hlocks hml hown hts hK hA hNW H locs hP hD hS ls hl
  have hl : lv_has ls 8 [(0, .ref f), (1, .ref ad), (2, .int (nI (j + 1))), (3, .int (nI 1))] := hl
  have hown : s.vm.findClass RX0 = some m.cls := hown
  refine lv_aload_n hx hb dX0_slopeAt_0 rfl (lv_at hl 1 rfl) ?_
  refine lv_iload_n hx hb dX0_slopeAt_1 rfl (lv_at hl 2 rfl) ?_
  refine fz_dald (i := j + 1) hx hb hK hP 0 0 rfl rfl (by omega) (by decide) dX0_slopeAt_2 ?_
  refine lv_aload_n hx hb dX0_slopeAt_3 rfl (lv_at hl 1 rfl) ?_
  refine lv_iload_n hx hb dX0_slopeAt_4 rfl (lv_at hl 2 rfl) ?_
  refine lv_iconst (v := nI 1) hx hb dX0_slopeAt_5 (by decide) ?_
  refine fz_isubN hx hb (by omega) dX0_slopeAt_6 ?_
  refine fz_topn (b := j) (by omega) ?_
  refine fz_dald (i := j) hx hb hK hP 0 0 rfl rfl (by omega) (by decide) dX0_slopeAt_7 ?_
  refine lv_dsub hx hb dX0_slopeAt_8 (hok.1) ?_
  refine lv_dstore (lv' := [(4, .double (FP.dsub (ff (j + 1)) (ff j))), (0, .ref f), (1, .ref ad), (2, .int (nI (j + 1))), (3, .int (nI 1))]) hx hb dX0_slopeAt_9 hl (by decide) rfl (fun ls hl => ?_)
  refine lv_aload_n hx hb dX0_slopeAt_11 rfl (lv_at hl 2 rfl) ?_
  refine lv_iload_n hx hb dX0_slopeAt_12 rfl (lv_at hl 3 rfl) ?_
  refine lv_iconst (v := nI 1) hx hb dX0_slopeAt_13 (by decide) ?_
  refine fz_iaddN hx hb dX0_slopeAt_14 ?_
  refine fz_topn (b := j + 2) (by omega) ?_
  refine fz_dald (i := j + 2) hx hb hK hP 0 0 rfl rfl (by omega) (by decide) dX0_slopeAt_15 ?_
  refine lv_aload_n hx hb dX0_slopeAt_16 rfl (lv_at hl 2 rfl) ?_
  refine lv_iload_n hx hb dX0_slopeAt_17 rfl (lv_at hl 3 rfl) ?_
  refine fz_dald (i := j + 1) hx hb hK hP 0 0 rfl rfl (by omega) (by decide) dX0_slopeAt_18 ?_
  refine lv_dsub hx hb dX0_slopeAt_19 (hok.2.1) ?_
  refine lv_dstore (lv' := [(6, .double (FP.dsub (ff (j + 2)) (ff (j + 1)))), (4, .double (FP.dsub (ff (j + 1)) (ff j))), (0, .ref f), (1, .ref ad), (2, .int (nI (j + 1))), (3, .int (nI 1))]) hx hb dX0_slopeAt_20 hl (by decide) rfl (fun ls hl => ?_)
  refine lv_iload_n hx hb dX0_slopeAt_22 rfl (lv_at hl 5 rfl) ?_
  refine lv_if_eq (tgt := 36) hx hb dX0_slopeAt_23 (by decide) (fun c23 => absurd c23 (by decide)) (fun c23 => ?_)
  refine lv_dload hx hb dX0_slopeAt_26 (lv_at hl 1 rfl) ?_
  refine lv_dload hx hb dX0_slopeAt_28 (lv_at hl 0 rfl) ?_
  refine lv_dmul hx hb dX0_slopeAt_30 (hok.2.2.1) ?_
  refine lv_dconst0 hx hb dX0_slopeAt_31 ?_
  refine fz_dl_gt (tgt := 38) hx hb dX0_slopeAt_32 dX0_slopeAt_33 (by decide) (fun c32 => ?_) (fun c32 => ?_)
  · refine lv_iload_n hx hb dX0_slopeAt_38 rfl (lv_at hl 5 rfl) ?_
    refine lv_lookup (off := 25) (tgt := 64) hx hb dX0_slopeAt_39 (by decide) (by decide) (by decide) ?_
    refine lv_dload hx hb dX0_slopeAt_64 (lv_at hl 1 rfl) ?_
    refine lv_dload hx hb dX0_slopeAt_66 (lv_at hl 0 rfl) ?_
    refine fz_callS (ws' := [(ad, fz_da cD 28 ff)]) (wr := [(ad, fz_da cD 28 ff)]) (As := [.double (FP.dsub (ff (j + 1)) (ff j)), .double (FP.dsub (ff (j + 2)) (ff (j + 1)))]) (rest := []) ⟨hx, hb, hml, hown, hts⟩ (c_X0_nearer l D cD (FP.dsub (ff (j + 1)) (ff j)) (FP.dsub (ff (j + 2)) (ff (j + 1)))) (va_cwS 2 hts gX0_slopeAt_X0_nearer rfl rfl rfl (by decide +kernel) ⟨Nat.le_of_ble_eq_true rfl, Nat.le_of_ble_eq_true rfl⟩) hK hNW hP hD hS hA [] [0] [0] rfl rfl rfl rfl (by decide) rfl rfl rfl hl.1 rfl (Nat.le_of_ble_eq_true rfl) dX0_slopeAt_68 ⟨Nat.zero_le _, Nat.zero_le _⟩ (fun H locs hP hD hS => ?_)
    exact fz_dret hx hb hr hlocks (by simp [fz_slAt, fz_slopeC, c32]) hP hK hD hS dX0_slopeAt_71
  · refine lv_dconst0 hx hb dX0_slopeAt_36 ?_
    exact fz_dret hx hb hr hlocks (by simp [fz_slAt, fz_slopeC, c32]) hP hK hD hS dX0_slopeAt_37

set_option maxHeartbeats 4000000 in
set_option maxRecDepth 100000 in
theorem c_X0_slopeAt2 (l : Launch) (D : va_G) (cD : ClassId) (f ad j : Nat) (ff : Nat → UInt64) (hj : j < 26) (hok : fz_slcOk (fz_dA ff j) (fz_dB ff j)) : fz_C l D [(cD, .double)] yX0_slopeAt wsX0_slopeAt ({ frames := 1, cells := 0, slots := 0, locals := 30 }) [.ref f, .ref ad, .int (nI (j + 1)), .int (nI 2)] [(ad, fz_da cD 28 ff)] [(ad, fz_da cD 28 ff)] (some (.double (fz_slAt 2 ff j))) := by
  refine fz_start (cc := cX0_slopeAt) (maxL := 8) (ret := (some .double)) (by decide) rfl (Nat.le_of_ble_eq_true rfl) ?_
  intro p e s m below meth c A hx hb hr hlocks hml hown hts hK hA hNW H locs hP hD hS ls hl
  have hl : lv_has ls 8 [(0, .ref f), (1, .ref ad), (2, .int (nI (j + 1))), (3, .int (nI 2))] := hl
  have hown : s.vm.findClass RX0 = some m.cls := hown
  have hw_constantDouble_RX0_72_4611686018427387904 := hts (.constantDouble RX0 72 (4611686018427387904)) (by decide +kernel)
  refine lv_aload_n hx hb dX0_slopeAt_0 rfl (lv_at hl 1 rfl) ?_
  refine lv_iload_n hx hb dX0_slopeAt_1 rfl (lv_at hl 2 rfl) ?_
  refine fz_dald (i := j + 1) hx hb hK hP 0 0 rfl rfl (by omega) (by decide) dX0_slopeAt_2 ?_
  refine lv_aload_n hx hb dX0_slopeAt_3 rfl (lv_at hl 1 rfl) ?_
  refine lv_iload_n hx hb dX0_slopeAt_4 rfl (lv_at hl 2 rfl) ?_
  refine lv_iconst (v := nI 1) hx hb dX0_slopeAt_5 (by decide) ?_
  refine fz_isubN hx hb (by omega) dX0_slopeAt_6 ?_
  refine fz_topn (b := j) (by omega) ?_
  refine fz_dald (i := j) hx hb hK hP 0 0 rfl rfl (by omega) (by decide) dX0_slopeAt_7 ?_
  refine lv_dsub hx hb dX0_slopeAt_8 (hok.1) ?_
  refine lv_dstore (lv' := [(4, .double (FP.dsub (ff (j + 1)) (ff j))), (0, .ref f), (1, .ref ad), (2, .int (nI (j + 1))), (3, .int (nI 2))]) hx hb dX0_slopeAt_9 hl (by decide) rfl (fun ls hl => ?_)
  refine lv_aload_n hx hb dX0_slopeAt_11 rfl (lv_at hl 2 rfl) ?_
  refine lv_iload_n hx hb dX0_slopeAt_12 rfl (lv_at hl 3 rfl) ?_
  refine lv_iconst (v := nI 1) hx hb dX0_slopeAt_13 (by decide) ?_
  refine fz_iaddN hx hb dX0_slopeAt_14 ?_
  refine fz_topn (b := j + 2) (by omega) ?_
  refine fz_dald (i := j + 2) hx hb hK hP 0 0 rfl rfl (by omega) (by decide) dX0_slopeAt_15 ?_
  refine lv_aload_n hx hb dX0_slopeAt_16 rfl (lv_at hl 2 rfl) ?_
  refine lv_iload_n hx hb dX0_slopeAt_17 rfl (lv_at hl 3 rfl) ?_
  refine fz_dald (i := j + 1) hx hb hK hP 0 0 rfl rfl (by omega) (by decide) dX0_slopeAt_18 ?_
  refine lv_dsub hx hb dX0_slopeAt_19 (hok.2.1) ?_
  refine lv_dstore (lv' := [(6, .double (FP.dsub (ff (j + 2)) (ff (j + 1)))), (4, .double (FP.dsub (ff (j + 1)) (ff j))), (0, .ref f), (1, .ref ad), (2, .int (nI (j + 1))), (3, .int (nI 2))]) hx hb dX0_slopeAt_20 hl (by decide) rfl (fun ls hl => ?_)
  refine lv_iload_n hx hb dX0_slopeAt_22 rfl (lv_at hl 5 rfl) ?_
  refine lv_if_eq (tgt := 36) hx hb dX0_slopeAt_23 (by decide) (fun c23 => absurd c23 (by decide)) (fun c23 => ?_)
  refine lv_dload hx hb dX0_slopeAt_26 (lv_at hl 1 rfl) ?_
  refine lv_dload hx hb dX0_slopeAt_28 (lv_at hl 0 rfl) ?_
  refine lv_dmul hx hb dX0_slopeAt_30 (hok.2.2.1) ?_
  refine lv_dconst0 hx hb dX0_slopeAt_31 ?_
  refine fz_dl_gt (tgt := 38) hx hb dX0_slopeAt_32 dX0_slopeAt_33 (by decide) (fun c32 => ?_) (fun c32 => ?_)
  · refine lv_iload_n hx hb dX0_slopeAt_38 rfl (lv_at hl 5 rfl) ?_
    refine lv_lookup (off := 33) (tgt := 72) hx hb dX0_slopeAt_39 (by decide) (by decide) (by decide) ?_
    refine lv_ldc2d hx hb hown hw_constantDouble_RX0_72_4611686018427387904 dX0_slopeAt_72 ?_
    refine lv_dload hx hb dX0_slopeAt_75 (lv_at hl 1 rfl) ?_
    refine lv_dmul hx hb dX0_slopeAt_77 (hok.2.2.2.1) ?_
    refine lv_dload hx hb dX0_slopeAt_78 (lv_at hl 0 rfl) ?_
    refine fz_callS (ws' := [(ad, fz_da cD 28 ff)]) (wr := [(ad, fz_da cD 28 ff)]) (As := [.double (FP.dmul 4611686018427387904 (FP.dsub (ff (j + 1)) (ff j))), .double (FP.dsub (ff (j + 2)) (ff (j + 1)))]) (rest := []) ⟨hx, hb, hml, hown, hts⟩ (c_X0_nearer l D cD (FP.dmul 4611686018427387904 (FP.dsub (ff (j + 1)) (ff j))) (FP.dsub (ff (j + 2)) (ff (j + 1)))) (va_cwS 2 hts gX0_slopeAt_X0_nearer rfl rfl rfl (by decide +kernel) ⟨Nat.le_of_ble_eq_true rfl, Nat.le_of_ble_eq_true rfl⟩) hK hNW hP hD hS hA [] [0] [0] rfl rfl rfl rfl (by decide) rfl rfl rfl hl.1 rfl (Nat.le_of_ble_eq_true rfl) dX0_slopeAt_80 ⟨Nat.zero_le _, Nat.zero_le _⟩ (fun H locs hP hD hS => ?_)
    refine lv_dload hx hb dX0_slopeAt_83 (lv_at hl 1 rfl) ?_
    refine lv_ldc2d hx hb hown hw_constantDouble_RX0_72_4611686018427387904 dX0_slopeAt_85 ?_
    refine lv_dload hx hb dX0_slopeAt_88 (lv_at hl 0 rfl) ?_
    refine lv_dmul hx hb dX0_slopeAt_90 (hok.2.2.2.2.1) ?_
    refine fz_callS (ws' := [(ad, fz_da cD 28 ff)]) (wr := [(ad, fz_da cD 28 ff)]) (As := [.double (FP.dsub (ff (j + 1)) (ff j)), .double (FP.dmul 4611686018427387904 (FP.dsub (ff (j + 2)) (ff (j + 1))))]) (rest := [.double (fz_near (FP.dmul 4611686018427387904 (FP.dsub (ff (j + 1)) (ff j))) (FP.dsub (ff (j + 2)) (ff (j + 1))))]) ⟨hx, hb, hml, hown, hts⟩ (c_X0_nearer l D cD (FP.dsub (ff (j + 1)) (ff j)) (FP.dmul 4611686018427387904 (FP.dsub (ff (j + 2)) (ff (j + 1))))) (va_cwS 2 hts gX0_slopeAt_X0_nearer rfl rfl rfl (by decide +kernel) ⟨Nat.le_of_ble_eq_true rfl, Nat.le_of_ble_eq_true rfl⟩) hK hNW hP hD hS hA [] [0] [0] rfl rfl rfl rfl (by decide) rfl rfl rfl hl.1 rfl (Nat.le_of_ble_eq_true rfl) dX0_slopeAt_91 ⟨Nat.zero_le _, Nat.zero_le _⟩ (fun H locs hP hD hS => ?_)
    refine fz_callS (ws' := [(ad, fz_da cD 28 ff)]) (wr := [(ad, fz_da cD 28 ff)]) (As := [.double (fz_near (FP.dmul 4611686018427387904 (FP.dsub (ff (j + 1)) (ff j))) (FP.dsub (ff (j + 2)) (ff (j + 1)))), .double (fz_near (FP.dsub (ff (j + 1)) (ff j)) (FP.dmul 4611686018427387904 (FP.dsub (ff (j + 2)) (ff (j + 1)))))]) (rest := []) ⟨hx, hb, hml, hown, hts⟩ (c_X0_farther l D cD (fz_near (FP.dmul 4611686018427387904 (FP.dsub (ff (j + 1)) (ff j))) (FP.dsub (ff (j + 2)) (ff (j + 1)))) (fz_near (FP.dsub (ff (j + 1)) (ff j)) (FP.dmul 4611686018427387904 (FP.dsub (ff (j + 2)) (ff (j + 1)))))) (va_cwS 2 hts gX0_slopeAt_X0_farther rfl rfl rfl (by decide +kernel) ⟨Nat.le_of_ble_eq_true rfl, Nat.le_of_ble_eq_true rfl⟩) hK hNW hP hD hS hA [] [0] [0] rfl rfl rfl rfl (by decide) rfl rfl rfl hl.1 rfl (Nat.le_of_ble_eq_true rfl) dX0_slopeAt_94 ⟨Nat.zero_le _, Nat.zero_le _⟩ (fun H locs hP hD hS => ?_)
    exact fz_dret hx hb hr hlocks (by simp [fz_slAt, fz_slopeC, c32]) hP hK hD hS dX0_slopeAt_97
  · refine lv_dconst0 hx hb dX0_slopeAt_36 ?_
    exact fz_dret hx hb hr hlocks (by simp [fz_slAt, fz_slopeC, c32]) hP hK hD hS dX0_slopeAt_37

set_option maxHeartbeats 4000000 in
set_option maxRecDepth 100000 in
theorem c_X0_slopeAt3 (l : Launch) (D : va_G) (cD : ClassId) (f ad j : Nat) (ff : Nat → UInt64) (hj : j < 26) (hok : fz_slcOk (fz_dA ff j) (fz_dB ff j)) : fz_C l D [(cD, .double)] yX0_slopeAt wsX0_slopeAt ({ frames := 1, cells := 0, slots := 0, locals := 30 }) [.ref f, .ref ad, .int (nI (j + 1)), .int (nI 3)] [(ad, fz_da cD 28 ff)] [(ad, fz_da cD 28 ff)] (some (.double (fz_slAt 3 ff j))) := by
  refine fz_start (cc := cX0_slopeAt) (maxL := 8) (ret := (some .double)) (by decide) rfl (Nat.le_of_ble_eq_true rfl) ?_
  intro p e s m below meth c A hx hb hr hlocks hml hown hts hK hA hNW H locs hP hD hS ls hl
  have hl : lv_has ls 8 [(0, .ref f), (1, .ref ad), (2, .int (nI (j + 1))), (3, .int (nI 3))] := hl
  have hown : s.vm.findClass RX0 = some m.cls := hown
  have hw_constantDouble_RX0_72_4611686018427387904 := hts (.constantDouble RX0 72 (4611686018427387904)) (by decide +kernel)
  refine lv_aload_n hx hb dX0_slopeAt_0 rfl (lv_at hl 1 rfl) ?_
  refine lv_iload_n hx hb dX0_slopeAt_1 rfl (lv_at hl 2 rfl) ?_
  refine fz_dald (i := j + 1) hx hb hK hP 0 0 rfl rfl (by omega) (by decide) dX0_slopeAt_2 ?_
  refine lv_aload_n hx hb dX0_slopeAt_3 rfl (lv_at hl 1 rfl) ?_
  refine lv_iload_n hx hb dX0_slopeAt_4 rfl (lv_at hl 2 rfl) ?_
  refine lv_iconst (v := nI 1) hx hb dX0_slopeAt_5 (by decide) ?_
  refine fz_isubN hx hb (by omega) dX0_slopeAt_6 ?_
  refine fz_topn (b := j) (by omega) ?_
  refine fz_dald (i := j) hx hb hK hP 0 0 rfl rfl (by omega) (by decide) dX0_slopeAt_7 ?_
  refine lv_dsub hx hb dX0_slopeAt_8 (hok.1) ?_
  refine lv_dstore (lv' := [(4, .double (FP.dsub (ff (j + 1)) (ff j))), (0, .ref f), (1, .ref ad), (2, .int (nI (j + 1))), (3, .int (nI 3))]) hx hb dX0_slopeAt_9 hl (by decide) rfl (fun ls hl => ?_)
  refine lv_aload_n hx hb dX0_slopeAt_11 rfl (lv_at hl 2 rfl) ?_
  refine lv_iload_n hx hb dX0_slopeAt_12 rfl (lv_at hl 3 rfl) ?_
  refine lv_iconst (v := nI 1) hx hb dX0_slopeAt_13 (by decide) ?_
  refine fz_iaddN hx hb dX0_slopeAt_14 ?_
  refine fz_topn (b := j + 2) (by omega) ?_
  refine fz_dald (i := j + 2) hx hb hK hP 0 0 rfl rfl (by omega) (by decide) dX0_slopeAt_15 ?_
  refine lv_aload_n hx hb dX0_slopeAt_16 rfl (lv_at hl 2 rfl) ?_
  refine lv_iload_n hx hb dX0_slopeAt_17 rfl (lv_at hl 3 rfl) ?_
  refine fz_dald (i := j + 1) hx hb hK hP 0 0 rfl rfl (by omega) (by decide) dX0_slopeAt_18 ?_
  refine lv_dsub hx hb dX0_slopeAt_19 (hok.2.1) ?_
  refine lv_dstore (lv' := [(6, .double (FP.dsub (ff (j + 2)) (ff (j + 1)))), (4, .double (FP.dsub (ff (j + 1)) (ff j))), (0, .ref f), (1, .ref ad), (2, .int (nI (j + 1))), (3, .int (nI 3))]) hx hb dX0_slopeAt_20 hl (by decide) rfl (fun ls hl => ?_)
  refine lv_iload_n hx hb dX0_slopeAt_22 rfl (lv_at hl 5 rfl) ?_
  refine lv_if_eq (tgt := 36) hx hb dX0_slopeAt_23 (by decide) (fun c23 => absurd c23 (by decide)) (fun c23 => ?_)
  refine lv_dload hx hb dX0_slopeAt_26 (lv_at hl 1 rfl) ?_
  refine lv_dload hx hb dX0_slopeAt_28 (lv_at hl 0 rfl) ?_
  refine lv_dmul hx hb dX0_slopeAt_30 (hok.2.2.1) ?_
  refine lv_dconst0 hx hb dX0_slopeAt_31 ?_
  refine fz_dl_gt (tgt := 38) hx hb dX0_slopeAt_32 dX0_slopeAt_33 (by decide) (fun c32 => ?_) (fun c32 => ?_)
  · refine lv_iload_n hx hb dX0_slopeAt_38 rfl (lv_at hl 5 rfl) ?_
    refine lv_lookup (off := 59) (tgt := 98) hx hb dX0_slopeAt_39 (by decide) (by decide) (by decide) ?_
    refine lv_ldc2d hx hb hown hw_constantDouble_RX0_72_4611686018427387904 dX0_slopeAt_98 ?_
    refine lv_dload hx hb dX0_slopeAt_101 (lv_at hl 1 rfl) ?_
    refine lv_dmul hx hb dX0_slopeAt_103 (hok.2.2.2.1) ?_
    refine lv_dload hx hb dX0_slopeAt_104 (lv_at hl 0 rfl) ?_
    refine lv_dmul hx hb dX0_slopeAt_106 (hok.2.2.2.2.2.1) ?_
    refine lv_dload hx hb dX0_slopeAt_107 (lv_at hl 1 rfl) ?_
    refine lv_dload hx hb dX0_slopeAt_109 (lv_at hl 0 rfl) ?_
    refine lv_dadd hx hb dX0_slopeAt_111 (hok.2.2.2.2.2.2.1) ?_
    refine lv_ddiv hx hb dX0_slopeAt_112 (hok.2.2.2.2.2.2.2 c32) ?_
    exact fz_dret hx hb hr hlocks (by simp [fz_slAt, fz_slopeC, c32]) hP hK hD hS dX0_slopeAt_113
  · refine lv_dconst0 hx hb dX0_slopeAt_36 ?_
    exact fz_dret hx hb hr hlocks (by simp [fz_slAt, fz_slopeC, c32]) hP hK hD hS dX0_slopeAt_37

theorem c_X0_slopeAt (l : Launch) (D : va_G) (cD : ClassId) (f ad j lim : Nat) (ff : Nat → UInt64) (hlim : lim ≤ 3) (hj : j < 26) (hok : fz_slcOk (fz_dA ff j) (fz_dB ff j)) : fz_C l D [(cD, .double)] yX0_slopeAt wsX0_slopeAt ({ frames := 1, cells := 0, slots := 0, locals := 30 }) [.ref f, .ref ad, .int (nI (j + 1)), .int (nI lim)] [(ad, fz_da cD 28 ff)] [(ad, fz_da cD 28 ff)] (some (.double (fz_slAt lim ff j))) := by
  rcases (show lim = 0 ∨ lim = 1 ∨ lim = 2 ∨ lim = 3 by omega) with rfl | rfl | rfl | rfl
  · exact c_X0_slopeAt0 l D cD f ad j ff hj hok
  · exact c_X0_slopeAt1 l D cD f ad j ff hj hok
  · exact c_X0_slopeAt2 l D cD f ad j ff hj hok
  · exact c_X0_slopeAt3 l D cD f ad j ff hj hok

set_option maxHeartbeats 4000000 in
set_option maxRecDepth 100000 in
theorem c_X0_fillSlopes (l : Launch) (D : va_G) (cD : ClassId) (r rd rm n : Nat) (dd mm : Nat → UInt64) (f s1 s2 f1 f2 lf rt lim : Nat) (sH sM : Nat → UInt64) (hn : n ≤ 24) (hlim : lim ≤ 3) (hok : fz_fsOk lim dd mm n) : fz_C l D [(cD, .double)] yX0_fillSlopes wsX0_fillSlopes ({ frames := 2, cells := 0, slots := 0, locals := 60 }) [.ref f, .ref r, .int (nI lim)] [(f, .inr (0, [.ref s1, .ref s2, .ref f1, .ref f2, .ref lf, .ref rt])), (s1, fz_da cD 28 sH), (s2, fz_da cD 28 sM), (r, .inr (1, [.ref rd, .ref rm, .int (nI n)])), (rd, fz_da cD 28 dd), (rm, fz_da cD 28 mm)] [(f, .inr (0, [.ref s1, .ref s2, .ref f1, .ref f2, .ref lf, .ref rt])), (s1, fz_da cD 28 (fz_pre 1 (n + 2) (fz_sHg lim dd) sH)), (s2, fz_da cD 28 (fz_pre 1 (n + 2) (fz_sMg lim dd mm) sM)), (r, .inr (1, [.ref rd, .ref rm, .int (nI n)])), (rd, fz_da cD 28 dd), (rm, fz_da cD 28 mm)] (none) := by
  refine fz_start (cc := cX0_fillSlopes) (maxL := 9) (ret := none) (by decide) rfl (Nat.le_of_ble_eq_true rfl) ?_
  intro p e s m below meth c A hx hb hr hlocks hml hown hts hK hA hNW H locs hP hD hS ls hl
  have hl : lv_has ls 9 [(0, .ref f), (1, .ref r), (2, .int (nI lim))] := hl
  have hown : s.vm.findClass RX0 = some m.cls := hown
  have hw_fieldLink_RX0_38_FlowGrid_Row_size_I := hts (.fieldLink RX0 38 "FlowGrid$Row" "size" "I") (by decide +kernel)
  have hin_X1 : ∀ w ∈ u_ws RX1 TX1 3, w ∈ wsX0_fillSlopes := by decide +kernel
  have hw_fieldLink_RX0_54_FlowGrid_Row_depths_D := hts (.fieldLink RX0 54 "FlowGrid$Row" "depths" "[D") (by decide +kernel)
  have hw_constantDouble_RX0_61_4602678819172646912 := hts (.constantDouble RX0 61 (4602678819172646912)) (by decide +kernel)
  have hw_constantDouble_RX0_63_4576918229304087675 := hts (.constantDouble RX0 63 (4576918229304087675)) (by decide +kernel)
  have hw_fieldLink_RX0_9_FlowGrid_Faces_depthSlopes_D := hts (.fieldLink RX0 9 "FlowGrid$Faces" "depthSlopes" "[D") (by decide +kernel)
  have hin_X0 : ∀ w ∈ u_ws RX0 TX0 6, w ∈ wsX0_fillSlopes := by decide +kernel
  have hw_fieldLink_RX0_15_FlowGrid_Faces_momentumSlopes_D := hts (.fieldLink RX0 15 "FlowGrid$Faces" "momentumSlopes" "[D") (by decide +kernel)
  have hw_fieldLink_RX0_65_FlowGrid_Row_momenta_D := hts (.fieldLink RX0 65 "FlowGrid$Row" "momenta" "[D") (by decide +kernel)
  refine lv_iconst (v := nI 1) hx hb dX0_fillSlopes_0 (by decide) ?_
  refine lv_istore_n (lv' := [(3, .int (nI 1)), (0, .ref f), (1, .ref r), (2, .int (nI lim))]) hx hb dX0_fillSlopes_1 rfl hl (by decide) rfl (fun ls hl => ?_)
  have loop2 : ∀ (it k : Nat), k ≤ n + 2 → n + 2 < k + it → ∀ (H : Heap) (locs : List Loc) (ls : Array Slot), va_P D vwCl [(f, .inr (0, [.ref s1, .ref s2, .ref f1, .ref f2, .ref lf, .ref rt])), (s1, fz_da cD 28 (fz_pre 1 k (fz_sHg lim dd) sH)), (s2, fz_da cD 28 (fz_pre 1 k (fz_sMg lim dd mm) sM)), (r, .inr (1, [.ref rd, .ref rm, .int (nI n)])), (rd, fz_da cD 28 dd), (rm, fz_da cD 28 mm)] H → va_D A [(f, .inr (0, [.ref s1, .ref s2, .ref f1, .ref f2, .ref lf, .ref rt])), (s1, fz_da cD 28 (fz_pre 1 k (fz_sHg lim dd) sH)), (s2, fz_da cD 28 (fz_pre 1 k (fz_sMg lim dd mm) sM)), (r, .inr (1, [.ref rd, .ref rm, .int (nI n)])), (rd, fz_da cD 28 dd), (rm, fz_da cD 28 mm)] → va_S A s.heap H locs → lv_has ls 9 [(0, .ref f), (1, .ref r), (2, .int (nI lim)), (3, .int (nI (k + 1)))] → W p l e ({ frames := 2, cells := 0, slots := 0, locals := 60 }) s m ([.ref f, .ref r, .int (nI lim)] : List Value).toArray below meth c H locs 0 0 (MQ below (fz_O D [(cD, .double)] [(f, .inr (0, [.ref s1, .ref s2, .ref f1, .ref f2, .ref lf, .ref rt])), (s1, fz_da cD 28 (fz_pre 1 (n + 2) (fz_sHg lim dd) sH)), (s2, fz_da cD 28 (fz_pre 1 (n + 2) (fz_sMg lim dd mm) sM)), (r, .inr (1, [.ref rd, .ref rm, .int (nI n)])), (rd, fz_da cD 28 dd), (rm, fz_da cD 28 mm)] (none) A) ([.ref f, .ref r, .int (nI lim)] : List Value).toArray s 0 0 A) (F0 m 2 ls []) := by
    intro it
    induction it with
    | zero => intro k h1 h2; exact absurd h2 (by omega)
    | succ it ih =>
      intro k hkk hnk H locs ls hP hD hS hl
      refine lv_iload_n hx hb dX0_fillSlopes_2 rfl (lv_at hl 3 rfl) ?_
      refine lv_iconst (v := nI 2) hx hb dX0_fillSlopes_3 (by decide) ?_
      refine lv_aload_n hx hb dX0_fillSlopes_4 rfl (lv_at hl 1 rfl) ?_
      refine va_get (D := D) (ci := 1) (v := .int (nI n)) (C := RX1) (T := TX1) (N := 3) hx hb hts hin_X1 hown hK hP 3 rfl rfl 2 (by decide) hw_fieldLink_RX0_38_FlowGrid_Row_size_I (fun _ h9 => h9) rfl dX0_fillSlopes_5 ?_
      refine fz_iaddN hx hb dX0_fillSlopes_8 ?_
      refine fz_topn (b := n + 2) (by omega) ?_
      refine fz_icmp_gtN (tgt := 119) hx hb (by omega) (by omega) dX0_fillSlopes_9 (by decide) (fun c9 => ?_) (fun c9 => ?_)
      · have hkz : n + 2 = k := by omega
        subst hkz
        exact fz_vret hx hb hr hlocks (rfl) hP hK hD hS dX0_fillSlopes_119
      · refine lv_aload_n hx hb dX0_fillSlopes_12 rfl (lv_at hl 1 rfl) ?_
        refine va_get (D := D) (ci := 1) (v := .ref rd) (C := RX1) (T := TX1) (N := 3) hx hb hts hin_X1 hown hK hP 3 rfl rfl 0 (by decide) hw_fieldLink_RX0_54_FlowGrid_Row_depths_D (fun _ h9 => h9) rfl dX0_fillSlopes_13 ?_
        refine lv_iload_n hx hb dX0_fillSlopes_16 rfl (lv_at hl 3 rfl) ?_
        refine fz_dald (i := k + 1) hx hb hK hP 4 0 rfl rfl (by omega) (by decide) dX0_fillSlopes_17 ?_
        refine lv_dstore (lv' := [(4, .double (dd (k + 1))), (0, .ref f), (1, .ref r), (2, .int (nI lim)), (3, .int (nI (k + 1)))]) hx hb dX0_fillSlopes_18 hl (by decide) rfl (fun ls hl => ?_)
        refine lv_aload_n hx hb dX0_fillSlopes_20 rfl (lv_at hl 1 rfl) ?_
        refine lv_aload_n hx hb dX0_fillSlopes_21 rfl (lv_at hl 2 rfl) ?_
        refine va_get (D := D) (ci := 1) (v := .ref rd) (C := RX1) (T := TX1) (N := 3) hx hb hts hin_X1 hown hK hP 3 rfl rfl 0 (by decide) hw_fieldLink_RX0_54_FlowGrid_Row_depths_D (fun _ h9 => h9) rfl dX0_fillSlopes_22 ?_
        refine lv_iload_n hx hb dX0_fillSlopes_25 rfl (lv_at hl 4 rfl) ?_
        refine lv_iload_n hx hb dX0_fillSlopes_26 rfl (lv_at hl 3 rfl) ?_
        refine fz_callV (ws' := [(f, .inr (0, [.ref s1, .ref s2, .ref f1, .ref f2, .ref lf, .ref rt])), (s1, fz_da cD 28 (fz_pre 1 k (fz_sHg lim dd) sH)), (s2, fz_da cD 28 (fz_pre 1 k (fz_sMg lim dd mm) sM)), (r, .inr (1, [.ref rd, .ref rm, .int (nI n)])), (rd, fz_da cD 28 dd), (rm, fz_da cD 28 mm)]) (wr := [(f, .inr (0, [.ref s1, .ref s2, .ref f1, .ref f2, .ref lf, .ref rt])), (s1, fz_da cD 28 (fz_pre 1 k (fz_sHg lim dd) sH)), (s2, fz_da cD 28 (fz_pre 1 k (fz_sMg lim dd mm) sM)), (r, .inr (1, [.ref rd, .ref rm, .int (nI n)])), (rm, fz_da cD 28 mm)]) (As := [.ref rd, .int (nI (k + 1)), .int (nI lim)]) (rest := []) ⟨hx, hb, hml, hown, hts⟩ (c_X0_slopeAt l D cD f rd k lim dd hlim (by omega) ((hok k (by omega)).1)) (cwV 3 hts gX0_fillSlopes_X0_slopeAt rfl rfl rfl (by decide +kernel) ⟨Nat.le_of_ble_eq_true rfl, Nat.le_of_ble_eq_true rfl⟩) hK hNW hP hD hS hA [4] [0, 1, 2, 3, 5] [0, 1, 2, 3, 5, 4] rfl rfl rfl rfl (by decide) rfl rfl (q0 := 0) (ci := 0) rfl rfl rfl rfl hl.1 rfl (Nat.le_of_ble_eq_true rfl) dX0_fillSlopes_27 ⟨Nat.zero_le _, Nat.zero_le _⟩ (fun H locs hP hD hS => ?_)
        refine lv_dstore (lv' := [(6, .double (fz_slAt lim dd k)), (4, .double (dd (k + 1))), (0, .ref f), (1, .ref r), (2, .int (nI lim)), (3, .int (nI (k + 1)))]) hx hb dX0_fillSlopes_30 hl (by decide) rfl (fun ls hl => ?_)
        refine lv_dload hx hb dX0_fillSlopes_32 (lv_at hl 1 rfl) ?_
        refine lv_ldc2d hx hb hown hw_constantDouble_RX0_61_4602678819172646912 dX0_fillSlopes_34 ?_
        refine lv_dload hx hb dX0_fillSlopes_37 (lv_at hl 0 rfl) ?_
        refine lv_dmul hx hb dX0_fillSlopes_39 ((hok k (by omega)).2.2.1) ?_
        refine lv_dadd hx hb dX0_fillSlopes_40 ((hok k (by omega)).2.2.2.1) ?_
        refine lv_ldc2d hx hb hown hw_constantDouble_RX0_63_4576918229304087675 dX0_fillSlopes_41 ?_
        have jn1 : ∀ v : Int32, v = fz_b (fz_dry lim dd k) → ∀ (H : Heap) (locs : List Loc), va_P D vwCl [(f, .inr (0, [.ref s1, .ref s2, .ref f1, .ref f2, .ref lf, .ref rt])), (s1, fz_da cD 28 (fz_pre 1 k (fz_sHg lim dd) sH)), (s2, fz_da cD 28 (fz_pre 1 k (fz_sMg lim dd mm) sM)), (r, .inr (1, [.ref rd, .ref rm, .int (nI n)])), (rd, fz_da cD 28 dd), (rm, fz_da cD 28 mm)] H → va_D A [(f, .inr (0, [.ref s1, .ref s2, .ref f1, .ref f2, .ref lf, .ref rt])), (s1, fz_da cD 28 (fz_pre 1 k (fz_sHg lim dd) sH)), (s2, fz_da cD 28 (fz_pre 1 k (fz_sMg lim dd mm) sM)), (r, .inr (1, [.ref rd, .ref rm, .int (nI n)])), (rd, fz_da cD 28 dd), (rm, fz_da cD 28 mm)] → va_S A s.heap H locs → W p l e ({ frames := 2, cells := 0, slots := 0, locals := 60 }) s m ([.ref f, .ref r, .int (nI lim)] : List Value).toArray below meth c H locs 0 0 (MQ below (fz_O D [(cD, .double)] [(f, .inr (0, [.ref s1, .ref s2, .ref f1, .ref f2, .ref lf, .ref rt])), (s1, fz_da cD 28 (fz_pre 1 (n + 2) (fz_sHg lim dd) sH)), (s2, fz_da cD 28 (fz_pre 1 (n + 2) (fz_sMg lim dd mm) sM)), (r, .inr (1, [.ref rd, .ref rm, .int (nI n)])), (rd, fz_da cD 28 dd), (rm, fz_da cD 28 mm)] (none) A) ([.ref f, .ref r, .int (nI lim)] : List Value).toArray s 0 0 A) (F0 m 69 ls [.int v]) := by
          intro v ev H locs hP hD hS
          subst ev
          refine lv_istore (lv' := [(8, .int (fz_b (fz_dry lim dd k))), (6, .double (fz_slAt lim dd k)), (4, .double (dd (k + 1))), (0, .ref f), (1, .ref r), (2, .int (nI lim)), (3, .int (nI (k + 1)))]) hx hb dX0_fillSlopes_69 hl (by decide) rfl (fun ls hl => ?_)
          refine lv_aload_n hx hb dX0_fillSlopes_71 rfl (lv_at hl 3 rfl) ?_
          refine va_get (D := D) (ci := 0) (v := .ref s1) (C := RX0) (T := TX0) (N := 6) hx hb hts hin_X0 hown hK hP 0 rfl rfl 0 (by decide) hw_fieldLink_RX0_9_FlowGrid_Faces_depthSlopes_D (fun _ h9 => h9) rfl dX0_fillSlopes_72 ?_
          refine lv_iload_n hx hb dX0_fillSlopes_75 rfl (lv_at hl 6 rfl) ?_
          refine lv_iload hx hb dX0_fillSlopes_76 (lv_at hl 0 rfl) ?_
          have jn2 : ∀ v : UInt64, v = fz_sHg lim dd k → ∀ (H : Heap) (locs : List Loc), va_P D vwCl [(f, .inr (0, [.ref s1, .ref s2, .ref f1, .ref f2, .ref lf, .ref rt])), (s1, fz_da cD 28 (fz_pre 1 k (fz_sHg lim dd) sH)), (s2, fz_da cD 28 (fz_pre 1 k (fz_sMg lim dd mm) sM)), (r, .inr (1, [.ref rd, .ref rm, .int (nI n)])), (rd, fz_da cD 28 dd), (rm, fz_da cD 28 mm)] H → va_D A [(f, .inr (0, [.ref s1, .ref s2, .ref f1, .ref f2, .ref lf, .ref rt])), (s1, fz_da cD 28 (fz_pre 1 k (fz_sHg lim dd) sH)), (s2, fz_da cD 28 (fz_pre 1 k (fz_sMg lim dd mm) sM)), (r, .inr (1, [.ref rd, .ref rm, .int (nI n)])), (rd, fz_da cD 28 dd), (rm, fz_da cD 28 mm)] → va_S A s.heap H locs → W p l e ({ frames := 2, cells := 0, slots := 0, locals := 60 }) s m ([.ref f, .ref r, .int (nI lim)] : List Value).toArray below meth c H locs 0 0 (MQ below (fz_O D [(cD, .double)] [(f, .inr (0, [.ref s1, .ref s2, .ref f1, .ref f2, .ref lf, .ref rt])), (s1, fz_da cD 28 (fz_pre 1 (n + 2) (fz_sHg lim dd) sH)), (s2, fz_da cD 28 (fz_pre 1 (n + 2) (fz_sMg lim dd mm) sM)), (r, .inr (1, [.ref rd, .ref rm, .int (nI n)])), (rd, fz_da cD 28 dd), (rm, fz_da cD 28 mm)] (none) A) ([.ref f, .ref r, .int (nI lim)] : List Value).toArray s 0 0 A) (F0 m 87 ls [.double v, .int (nI (k + 1)), .ref s1]) := by
            intro v ev H locs hP hD hS
            subst ev
            refine fz_dast (i := k + 1) hx hb hK hP hD hS 1 0 rfl rfl (by omega) (by decide) dX0_fillSlopes_87 (fun H locs hP hD hS => ?_)
            have hP : va_P D vwCl [(f, .inr (0, [.ref s1, .ref s2, .ref f1, .ref f2, .ref lf, .ref rt])), (s1, fz_da cD 28 (vf_upd (fz_pre 1 k (fz_sHg lim dd) sH) (k + 1) (fz_sHg lim dd k))), (s2, fz_da cD 28 (fz_pre 1 k (fz_sMg lim dd mm) sM)), (r, .inr (1, [.ref rd, .ref rm, .int (nI n)])), (rd, fz_da cD 28 dd), (rm, fz_da cD 28 mm)] H := hP
            have hD : va_D A [(f, .inr (0, [.ref s1, .ref s2, .ref f1, .ref f2, .ref lf, .ref rt])), (s1, fz_da cD 28 (vf_upd (fz_pre 1 k (fz_sHg lim dd) sH) (k + 1) (fz_sHg lim dd k))), (s2, fz_da cD 28 (fz_pre 1 k (fz_sMg lim dd mm) sM)), (r, .inr (1, [.ref rd, .ref rm, .int (nI n)])), (rd, fz_da cD 28 dd), (rm, fz_da cD 28 mm)] := hD
            have hP : va_P D vwCl [(f, .inr (0, [.ref s1, .ref s2, .ref f1, .ref f2, .ref lf, .ref rt])), (s1, fz_da cD 28 (fz_pre 1 (k + 1) (fz_sHg lim dd) sH)), (s2, fz_da cD 28 (fz_pre 1 k (fz_sMg lim dd mm) sM)), (r, .inr (1, [.ref rd, .ref rm, .int (nI n)])), (rd, fz_da cD 28 dd), (rm, fz_da cD 28 mm)] H := by rw [← fz_pre_s 1 k (fz_sHg lim dd) sH]; exact hP
            have hD : va_D A [(f, .inr (0, [.ref s1, .ref s2, .ref f1, .ref f2, .ref lf, .ref rt])), (s1, fz_da cD 28 (fz_pre 1 (k + 1) (fz_sHg lim dd) sH)), (s2, fz_da cD 28 (fz_pre 1 k (fz_sMg lim dd mm) sM)), (r, .inr (1, [.ref rd, .ref rm, .int (nI n)])), (rd, fz_da cD 28 dd), (rm, fz_da cD 28 mm)] := by rw [← fz_pre_s 1 k (fz_sHg lim dd) sH]; exact hD
            refine lv_aload_n hx hb dX0_fillSlopes_88 rfl (lv_at hl 3 rfl) ?_
            refine va_get (D := D) (ci := 0) (v := .ref s2) (C := RX0) (T := TX0) (N := 6) hx hb hts hin_X0 hown hK hP 0 rfl rfl 1 (by decide) hw_fieldLink_RX0_15_FlowGrid_Faces_momentumSlopes_D (fun _ h9 => h9) rfl dX0_fillSlopes_89 ?_
            refine lv_iload_n hx hb dX0_fillSlopes_92 rfl (lv_at hl 6 rfl) ?_
            refine lv_iload hx hb dX0_fillSlopes_93 (lv_at hl 0 rfl) ?_
            have jn3 : ∀ v : UInt64, v = fz_sMg lim dd mm k → ∀ (H : Heap) (locs : List Loc), va_P D vwCl [(f, .inr (0, [.ref s1, .ref s2, .ref f1, .ref f2, .ref lf, .ref rt])), (s1, fz_da cD 28 (fz_pre 1 (k + 1) (fz_sHg lim dd) sH)), (s2, fz_da cD 28 (fz_pre 1 k (fz_sMg lim dd mm) sM)), (r, .inr (1, [.ref rd, .ref rm, .int (nI n)])), (rd, fz_da cD 28 dd), (rm, fz_da cD 28 mm)] H → va_D A [(f, .inr (0, [.ref s1, .ref s2, .ref f1, .ref f2, .ref lf, .ref rt])), (s1, fz_da cD 28 (fz_pre 1 (k + 1) (fz_sHg lim dd) sH)), (s2, fz_da cD 28 (fz_pre 1 k (fz_sMg lim dd mm) sM)), (r, .inr (1, [.ref rd, .ref rm, .int (nI n)])), (rd, fz_da cD 28 dd), (rm, fz_da cD 28 mm)] → va_S A s.heap H locs → W p l e ({ frames := 2, cells := 0, slots := 0, locals := 60 }) s m ([.ref f, .ref r, .int (nI lim)] : List Value).toArray below meth c H locs 0 0 (MQ below (fz_O D [(cD, .double)] [(f, .inr (0, [.ref s1, .ref s2, .ref f1, .ref f2, .ref lf, .ref rt])), (s1, fz_da cD 28 (fz_pre 1 (n + 2) (fz_sHg lim dd) sH)), (s2, fz_da cD 28 (fz_pre 1 (n + 2) (fz_sMg lim dd mm) sM)), (r, .inr (1, [.ref rd, .ref rm, .int (nI n)])), (rd, fz_da cD 28 dd), (rm, fz_da cD 28 mm)] (none) A) ([.ref f, .ref r, .int (nI lim)] : List Value).toArray s 0 0 A) (F0 m 112 ls [.double v, .int (nI (k + 1)), .ref s2]) := by
              intro v ev H locs hP hD hS
              subst ev
              refine fz_dast (i := k + 1) hx hb hK hP hD hS 2 0 rfl rfl (by omega) (by decide) dX0_fillSlopes_112 (fun H locs hP hD hS => ?_)
              have hP : va_P D vwCl [(f, .inr (0, [.ref s1, .ref s2, .ref f1, .ref f2, .ref lf, .ref rt])), (s1, fz_da cD 28 (fz_pre 1 (k + 1) (fz_sHg lim dd) sH)), (s2, fz_da cD 28 (vf_upd (fz_pre 1 k (fz_sMg lim dd mm) sM) (k + 1) (fz_sMg lim dd mm k))), (r, .inr (1, [.ref rd, .ref rm, .int (nI n)])), (rd, fz_da cD 28 dd), (rm, fz_da cD 28 mm)] H := hP
              have hD : va_D A [(f, .inr (0, [.ref s1, .ref s2, .ref f1, .ref f2, .ref lf, .ref rt])), (s1, fz_da cD 28 (fz_pre 1 (k + 1) (fz_sHg lim dd) sH)), (s2, fz_da cD 28 (vf_upd (fz_pre 1 k (fz_sMg lim dd mm) sM) (k + 1) (fz_sMg lim dd mm k))), (r, .inr (1, [.ref rd, .ref rm, .int (nI n)])), (rd, fz_da cD 28 dd), (rm, fz_da cD 28 mm)] := hD
              have hP : va_P D vwCl [(f, .inr (0, [.ref s1, .ref s2, .ref f1, .ref f2, .ref lf, .ref rt])), (s1, fz_da cD 28 (fz_pre 1 (k + 1) (fz_sHg lim dd) sH)), (s2, fz_da cD 28 (fz_pre 1 (k + 1) (fz_sMg lim dd mm) sM)), (r, .inr (1, [.ref rd, .ref rm, .int (nI n)])), (rd, fz_da cD 28 dd), (rm, fz_da cD 28 mm)] H := by rw [← fz_pre_s 1 k (fz_sMg lim dd mm) sM]; exact hP
              have hD : va_D A [(f, .inr (0, [.ref s1, .ref s2, .ref f1, .ref f2, .ref lf, .ref rt])), (s1, fz_da cD 28 (fz_pre 1 (k + 1) (fz_sHg lim dd) sH)), (s2, fz_da cD 28 (fz_pre 1 (k + 1) (fz_sMg lim dd mm) sM)), (r, .inr (1, [.ref rd, .ref rm, .int (nI n)])), (rd, fz_da cD 28 dd), (rm, fz_da cD 28 mm)] := by rw [← fz_pre_s 1 k (fz_sMg lim dd mm) sM]; exact hD
              refine lv_iinc (v := nI (k + 2)) (lv' := [(3, .int (nI (k + 2))), (8, .int (fz_b (fz_dry lim dd k))), (6, .double (fz_slAt lim dd k)), (4, .double (dd (k + 1))), (0, .ref f), (1, .ref r), (2, .int (nI lim))]) hx hb dX0_fillSlopes_113 hl (k := 6) rfl (nI_1 _) (by decide) rfl (fun ls hl => ?_)
              refine lv_goto (tgt := 2) hx hb dX0_fillSlopes_116 (by decide) ?_
              exact ih (k + 1) (by omega) (by omega) H locs ls (hP) (hD) hS (lv_sub hl [4, 5, 6, 0] rfl)
            refine lv_if_eq (tgt := 102) hx hb dX0_fillSlopes_95 (by decide) (fun c95 => ?_) (fun c95 => ?_)
            · refine lv_aload_n hx hb dX0_fillSlopes_102 rfl (lv_at hl 3 rfl) ?_
              refine lv_aload_n hx hb dX0_fillSlopes_103 rfl (lv_at hl 4 rfl) ?_
              refine va_get (D := D) (ci := 1) (v := .ref rm) (C := RX1) (T := TX1) (N := 3) hx hb hts hin_X1 hown hK hP 3 rfl rfl 1 (by decide) hw_fieldLink_RX0_65_FlowGrid_Row_momenta_D (fun _ h9 => h9) rfl dX0_fillSlopes_104 ?_
              refine lv_iload_n hx hb dX0_fillSlopes_107 rfl (lv_at hl 6 rfl) ?_
              refine lv_iload_n hx hb dX0_fillSlopes_108 rfl (lv_at hl 5 rfl) ?_
              refine fz_callV (ws' := [(f, .inr (0, [.ref s1, .ref s2, .ref f1, .ref f2, .ref lf, .ref rt])), (s1, fz_da cD 28 (fz_pre 1 (k + 1) (fz_sHg lim dd) sH)), (s2, fz_da cD 28 (fz_pre 1 k (fz_sMg lim dd mm) sM)), (r, .inr (1, [.ref rd, .ref rm, .int (nI n)])), (rd, fz_da cD 28 dd), (rm, fz_da cD 28 mm)]) (wr := [(f, .inr (0, [.ref s1, .ref s2, .ref f1, .ref f2, .ref lf, .ref rt])), (s1, fz_da cD 28 (fz_pre 1 (k + 1) (fz_sHg lim dd) sH)), (s2, fz_da cD 28 (fz_pre 1 k (fz_sMg lim dd mm) sM)), (r, .inr (1, [.ref rd, .ref rm, .int (nI n)])), (rd, fz_da cD 28 dd)]) (As := [.ref rm, .int (nI (k + 1)), .int (nI lim)]) (rest := [.int (nI (k + 1)), .ref s2]) ⟨hx, hb, hml, hown, hts⟩ (c_X0_slopeAt l D cD f rm k lim mm hlim (by omega) ((hok k (by omega)).2.1)) (cwV 3 hts gX0_fillSlopes_X0_slopeAt rfl rfl rfl (by decide +kernel) ⟨Nat.le_of_ble_eq_true rfl, Nat.le_of_ble_eq_true rfl⟩) hK hNW hP hD hS hA [5] [0, 1, 2, 3, 4] [0, 1, 2, 3, 4, 5] rfl rfl rfl rfl (by decide) rfl rfl (q0 := 0) (ci := 0) rfl rfl rfl rfl hl.1 rfl (Nat.le_of_ble_eq_true rfl) dX0_fillSlopes_109 ⟨Nat.zero_le _, Nat.zero_le _⟩ (fun H locs hP hD hS => ?_)
              exact jn3 _ (by simp [fz_sMg, fz_b0.mp c95]) H locs hP hD hS
            · refine lv_dconst0 hx hb dX0_fillSlopes_98 ?_
              refine lv_goto (tgt := 112) hx hb dX0_fillSlopes_99 (by decide) ?_
              exact jn3 _ (by simp [fz_sMg, fz_b1.mp c95]) H locs hP hD hS
          refine lv_if_eq (tgt := 85) hx hb dX0_fillSlopes_78 (by decide) (fun c78 => ?_) (fun c78 => ?_)
          · refine lv_dload hx hb dX0_fillSlopes_85 (lv_at hl 1 rfl) ?_
            exact jn2 _ (by simp [fz_sHg, fz_b0.mp c78]) H locs hP hD hS
          · refine lv_dconst0 hx hb dX0_fillSlopes_81 ?_
            refine lv_goto (tgt := 87) hx hb dX0_fillSlopes_82 (by decide) ?_
            exact jn2 _ (by simp [fz_sHg, fz_b1.mp c78]) H locs hP hD hS
        refine fz_dg_lt (tgt := 64) hx hb dX0_fillSlopes_44 dX0_fillSlopes_45 (by decide) (fun c44 => ?_) (fun c44 => ?_)
        · refine lv_iconst (v := nI 1) hx hb dX0_fillSlopes_64 (by decide) ?_
          refine lv_goto (tgt := 69) hx hb dX0_fillSlopes_65 (by decide) ?_
          exact jn1 _ (by simp [fz_b, fz_dry, nI_0, fz_nI1, c9, c44]) H locs hP hD hS
        · refine lv_dload hx hb dX0_fillSlopes_48 (lv_at hl 1 rfl) ?_
          refine lv_ldc2d hx hb hown hw_constantDouble_RX0_61_4602678819172646912 dX0_fillSlopes_50 ?_
          refine lv_dload hx hb dX0_fillSlopes_53 (lv_at hl 0 rfl) ?_
          refine lv_dmul hx hb dX0_fillSlopes_55 ((hok k (by omega)).2.2.1) ?_
          refine lv_dsub hx hb dX0_fillSlopes_56 ((hok k (by omega)).2.2.2.2) ?_
          refine lv_ldc2d hx hb hown hw_constantDouble_RX0_63_4576918229304087675 dX0_fillSlopes_57 ?_
          refine fz_dg_ge (tgt := 68) hx hb dX0_fillSlopes_60 dX0_fillSlopes_61 (by decide) (fun c60 => ?_) (fun c60 => ?_)
          · refine lv_iconst (v := nI 0) hx hb dX0_fillSlopes_68 (by decide) ?_
            exact jn1 _ (by simp [fz_b, fz_dry, nI_0, fz_nI1, c9, c44, c60]) H locs hP hD hS
          · refine lv_iconst (v := nI 1) hx hb dX0_fillSlopes_64 (by decide) ?_
            refine lv_goto (tgt := 69) hx hb dX0_fillSlopes_65 (by decide) ?_
            exact jn1 _ (by simp [fz_b, fz_dry, nI_0, fz_nI1, c9, c44, c60]) H locs hP hD hS
  exact loop2 (n + 2 + 1) 0 (by omega) (by omega) H locs ls (by rw [fz_pre_0, fz_pre_0]; exact hP) (by rw [fz_pre_0, fz_pre_0]; exact hD) hS (lv_sub hl [1, 2, 3, 0] rfl)

set_option maxHeartbeats 4000000 in
set_option maxRecDepth 100000 in
theorem c_X0_blend (l : Launch) (D : va_G) (cD : ClassId) (x y g1 g2 jp : UInt64) (hok : fz_bldOk x y g1 g2 jp) : fz_C l D [(cD, .double)] yX0_blend wsX0_blend ({ frames := 0, cells := 0, slots := 0, locals := 0 }) [.double x, .double y, .double g1, .double g2, .double jp] [] [] (some (.double (fz_bld x y g1 g2 jp))) := by
  refine fz_start (cc := cX0_blend) (maxL := 10) (ret := (some .double)) (by decide) rfl (Nat.le_of_ble_eq_true rfl) ?_
  intro p e s m below meth c A hx hb hr hlocks hml hown hts hK hA hNW H locs hP hD hS ls hl
  have hl : lv_has ls 10 [(0, .double x), (2, .double y), (4, .double g1), (6, .double g2), (8, .double jp)] := hl
  have hown : s.vm.findClass RX0 = some m.cls := hown
  refine lv_dload_n hx hb dX0_blend_0 rfl (lv_at hl 0 rfl) ?_
  refine lv_dconst0 hx hb dX0_blend_1 ?_
  refine fz_dg_lt (tgt := 9) hx hb dX0_blend_2 dX0_blend_3 (by decide) (fun c2 => ?_) (fun c2 => ?_)
  · refine lv_dload_n hx hb dX0_blend_9 rfl (lv_at hl 1 rfl) ?_
    refine lv_dconst0 hx hb dX0_blend_10 ?_
    refine fz_dl_gt (tgt := 18) hx hb dX0_blend_11 dX0_blend_12 (by decide) (fun c11 => ?_) (fun c11 => ?_)
    · refine lv_dload_n hx hb dX0_blend_18 rfl (lv_at hl 1 rfl) ?_
      refine lv_dload hx hb dX0_blend_19 (lv_at hl 2 rfl) ?_
      refine lv_dmul hx hb dX0_blend_21 ((hok c2 c11).1) ?_
      refine lv_dload_n hx hb dX0_blend_22 rfl (lv_at hl 0 rfl) ?_
      refine lv_dload hx hb dX0_blend_23 (lv_at hl 3 rfl) ?_
      refine lv_dmul hx hb dX0_blend_25 ((hok c2 c11).2.1) ?_
      refine lv_dsub hx hb dX0_blend_26 ((hok c2 c11).2.2.1) ?_
      refine lv_dload_n hx hb dX0_blend_27 rfl (lv_at hl 0 rfl) ?_
      refine lv_dload_n hx hb dX0_blend_28 rfl (lv_at hl 1 rfl) ?_
      refine lv_dmul hx hb dX0_blend_29 ((hok c2 c11).2.2.2.1) ?_
      refine lv_dload hx hb dX0_blend_30 (lv_at hl 4 rfl) ?_
      refine lv_dmul hx hb dX0_blend_32 ((hok c2 c11).2.2.2.2.1) ?_
      refine lv_dadd hx hb dX0_blend_33 ((hok c2 c11).2.2.2.2.2.1) ?_
      refine lv_dload_n hx hb dX0_blend_34 rfl (lv_at hl 1 rfl) ?_
      refine lv_dload_n hx hb dX0_blend_35 rfl (lv_at hl 0 rfl) ?_
      refine lv_dsub hx hb dX0_blend_36 ((hok c2 c11).2.2.2.2.2.2.1) ?_
      refine lv_ddiv hx hb dX0_blend_37 ((hok c2 c11).2.2.2.2.2.2.2) ?_
      exact fz_dret hx hb hr hlocks (by simp [fz_bld, c2, c11]) hP hK hD hS dX0_blend_38
    · refine lv_dload hx hb dX0_blend_15 (lv_at hl 3 rfl) ?_
      exact fz_dret hx hb hr hlocks (by simp [fz_bld, c2, c11]) hP hK hD hS dX0_blend_17
  · refine lv_dload hx hb dX0_blend_6 (lv_at hl 2 rfl) ?_
    exact fz_dret hx hb hr hlocks (by simp [fz_bld, c2]) hP hK hD hS dX0_blend_8

set_option maxHeartbeats 4000000 in
set_option maxRecDepth 100000 in
theorem c_X0_guess (l : Launch) (D : va_G) (cD : ClassId) (r rd rm n : Nat) (dd mm : Nat → UInt64) (f s1 s2 f1 f2 lf rt k : Nat) (sH sM : Nat → UInt64) (a0 a1 a2 a3 b0 b1 b2 b3 : UInt64) (hk : k ≤ 24) (hok : fz_gsOk dd mm sH sM k) : fz_C l D [(cD, .double)] yX0_guess wsX0_guess ({ frames := 2, cells := 0, slots := 0, locals := 60 }) [.ref f, .ref r, .int (nI k)] [(f, .inr (0, [.ref s1, .ref s2, .ref f1, .ref f2, .ref lf, .ref rt])), (s1, fz_da cD 28 sH), (s2, fz_da cD 28 sM), (lf, .inr (2, [.double a0, .double a1, .double a2, .double a3])), (rt, .inr (2, [.double b0, .double b1, .double b2, .double b3])), (r, .inr (1, [.ref rd, .ref rm, .int (nI n)])), (rd, fz_da cD 28 dd), (rm, fz_da cD 28 mm)] [(f, .inr (0, [.ref s1, .ref s2, .ref f1, .ref f2, .ref lf, .ref rt])), (s1, fz_da cD 28 sH), (s2, fz_da cD 28 sM), (lf, .inr (2, [.double (fz_L dd sH k), .double (fz_L mm sM k), .double (FP.ddiv (fz_L mm sM k) (fz_L dd sH k)), .double (fz_root (fz_L dd sH k))])), (rt, .inr (2, [.double (fz_R dd sH k), .double (fz_R mm sM k), .double (FP.ddiv (fz_R mm sM k) (fz_R dd sH k)), .double (fz_root (fz_R dd sH k))])), (r, .inr (1, [.ref rd, .ref rm, .int (nI n)])), (rd, fz_da cD 28 dd), (rm, fz_da cD 28 mm)] (none) := by
  refine fz_start (cc := cX0_guess) (maxL := 5) (ret := none) (by decide) rfl (Nat.le_of_ble_eq_true rfl) ?_
  intro p e s m below meth c A hx hb hr hlocks hml hown hts hK hA hNW H locs hP hD hS ls hl
  have hl : lv_has ls 5 [(0, .ref f), (1, .ref r), (2, .int (nI k))] := hl
  have hown : s.vm.findClass RX0 = some m.cls := hown
  have hw_fieldLink_RX0_27_FlowGrid_Faces_left_LFlowGrid_State := hts (.fieldLink RX0 27 "FlowGrid$Faces" "left" "LFlowGrid$State;") (by decide +kernel)
  have hin_X0 : ∀ w ∈ u_ws RX0 TX0 6, w ∈ wsX0_guess := by decide +kernel
  have hw_fieldLink_RX0_54_FlowGrid_Row_depths_D := hts (.fieldLink RX0 54 "FlowGrid$Row" "depths" "[D") (by decide +kernel)
  have hin_X1 : ∀ w ∈ u_ws RX1 TX1 3, w ∈ wsX0_guess := by decide +kernel
  have hw_constantDouble_RX0_61_4602678819172646912 := hts (.constantDouble RX0 61 (4602678819172646912)) (by decide +kernel)
  have hw_fieldLink_RX0_9_FlowGrid_Faces_depthSlopes_D := hts (.fieldLink RX0 9 "FlowGrid$Faces" "depthSlopes" "[D") (by decide +kernel)
  have hw_fieldLink_RX0_65_FlowGrid_Row_momenta_D := hts (.fieldLink RX0 65 "FlowGrid$Row" "momenta" "[D") (by decide +kernel)
  have hw_fieldLink_RX0_15_FlowGrid_Faces_momentumSlopes_D := hts (.fieldLink RX0 15 "FlowGrid$Faces" "momentumSlopes" "[D") (by decide +kernel)
  have hw_fieldLink_RX0_31_FlowGrid_Faces_right_LFlowGrid_State := hts (.fieldLink RX0 31 "FlowGrid$Faces" "right" "LFlowGrid$State;") (by decide +kernel)
  refine lv_iconst (v := nI 2) hx hb dX0_guess_0 (by decide) ?_
  refine lv_iload_n hx hb dX0_guess_1 rfl (lv_at hl 2 rfl) ?_
  refine fz_iaddN hx hb dX0_guess_2 ?_
  refine fz_topn (b := k + 2) (by omega) ?_
  refine lv_iconst (v := nI 1) hx hb dX0_guess_3 (by decide) ?_
  refine fz_isubN hx hb (by omega) dX0_guess_4 ?_
  refine fz_topn (b := k + 1) (by omega) ?_
  refine lv_istore_n (lv' := [(3, .int (nI (k + 1))), (0, .ref f), (1, .ref r), (2, .int (nI k))]) hx hb dX0_guess_5 rfl hl (by decide) rfl (fun ls hl => ?_)
  refine lv_iconst (v := nI 2) hx hb dX0_guess_6 (by decide) ?_
  refine lv_iload_n hx hb dX0_guess_7 rfl (lv_at hl 3 rfl) ?_
  refine fz_iaddN hx hb dX0_guess_8 ?_
  refine fz_topn (b := k + 2) (by omega) ?_
  refine lv_istore (lv' := [(4, .int (nI (k + 2))), (3, .int (nI (k + 1))), (0, .ref f), (1, .ref r), (2, .int (nI k))]) hx hb dX0_guess_9 hl (by decide) rfl (fun ls hl => ?_)
  refine lv_aload_n hx hb dX0_guess_11 rfl (lv_at hl 2 rfl) ?_
  refine va_get (D := D) (ci := 0) (v := .ref lf) (C := RX0) (T := TX0) (N := 6) hx hb hts hin_X0 hown hK hP 0 rfl rfl 4 (by decide) hw_fieldLink_RX0_27_FlowGrid_Faces_left_LFlowGrid_State (fun _ h9 => h9) rfl dX0_guess_12 ?_
  refine lv_aload_n hx hb dX0_guess_15 rfl (lv_at hl 3 rfl) ?_
  refine va_get (D := D) (ci := 1) (v := .ref rd) (C := RX1) (T := TX1) (N := 3) hx hb hts hin_X1 hown hK hP 5 rfl rfl 0 (by decide) hw_fieldLink_RX0_54_FlowGrid_Row_depths_D (fun _ h9 => h9) rfl dX0_guess_16 ?_
  refine lv_iload_n hx hb dX0_guess_19 rfl (lv_at hl 1 rfl) ?_
  refine fz_dald (i := k + 1) hx hb hK hP 6 0 rfl rfl (by omega) (by decide) dX0_guess_20 ?_
  refine lv_ldc2d hx hb hown hw_constantDouble_RX0_61_4602678819172646912 dX0_guess_21 ?_
  refine lv_aload_n hx hb dX0_guess_24 rfl (lv_at hl 2 rfl) ?_
  refine va_get (D := D) (ci := 0) (v := .ref s1) (C := RX0) (T := TX0) (N := 6) hx hb hts hin_X0 hown hK hP 0 rfl rfl 0 (by decide) hw_fieldLink_RX0_9_FlowGrid_Faces_depthSlopes_D (fun _ h9 => h9) rfl dX0_guess_25 ?_
  refine lv_iload_n hx hb dX0_guess_28 rfl (lv_at hl 1 rfl) ?_
  refine fz_dald (i := k + 1) hx hb hK hP 1 0 rfl rfl (by omega) (by decide) dX0_guess_29 ?_
  refine lv_dmul hx hb dX0_guess_30 (hok.1) ?_
  refine lv_dadd hx hb dX0_guess_31 (hok.2.1) ?_
  refine lv_aload_n hx hb dX0_guess_32 rfl (lv_at hl 3 rfl) ?_
  refine va_get (D := D) (ci := 1) (v := .ref rm) (C := RX1) (T := TX1) (N := 3) hx hb hts hin_X1 hown hK hP 5 rfl rfl 1 (by decide) hw_fieldLink_RX0_65_FlowGrid_Row_momenta_D (fun _ h9 => h9) rfl dX0_guess_33 ?_
  refine lv_iload_n hx hb dX0_guess_36 rfl (lv_at hl 1 rfl) ?_
  refine fz_dald (i := k + 1) hx hb hK hP 7 0 rfl rfl (by omega) (by decide) dX0_guess_37 ?_
  refine lv_ldc2d hx hb hown hw_constantDouble_RX0_61_4602678819172646912 dX0_guess_38 ?_
  refine lv_aload_n hx hb dX0_guess_41 rfl (lv_at hl 2 rfl) ?_
  refine va_get (D := D) (ci := 0) (v := .ref s2) (C := RX0) (T := TX0) (N := 6) hx hb hts hin_X0 hown hK hP 0 rfl rfl 1 (by decide) hw_fieldLink_RX0_15_FlowGrid_Faces_momentumSlopes_D (fun _ h9 => h9) rfl dX0_guess_42 ?_
  refine lv_iload_n hx hb dX0_guess_45 rfl (lv_at hl 1 rfl) ?_
  refine fz_dald (i := k + 1) hx hb hK hP 2 0 rfl rfl (by omega) (by decide) dX0_guess_46 ?_
  refine lv_dmul hx hb dX0_guess_47 (hok.2.2.1) ?_
  refine lv_dadd hx hb dX0_guess_48 (hok.2.2.2.1) ?_
  refine fz_callV (ws' := [(f, .inr (0, [.ref s1, .ref s2, .ref f1, .ref f2, .ref lf, .ref rt])), (s1, fz_da cD 28 sH), (s2, fz_da cD 28 sM), (lf, .inr (2, [.double (FP.dadd (dd (k + 1)) (FP.dmul 4602678819172646912 (sH (k + 1)))), .double (FP.dadd (mm (k + 1)) (FP.dmul 4602678819172646912 (sM (k + 1)))), .double (FP.ddiv (FP.dadd (mm (k + 1)) (FP.dmul 4602678819172646912 (sM (k + 1)))) (FP.dadd (dd (k + 1)) (FP.dmul 4602678819172646912 (sH (k + 1))))), .double (fz_root (FP.dadd (dd (k + 1)) (FP.dmul 4602678819172646912 (sH (k + 1)))))])), (rt, .inr (2, [.double b0, .double b1, .double b2, .double b3])), (r, .inr (1, [.ref rd, .ref rm, .int (nI n)])), (rd, fz_da cD 28 dd), (rm, fz_da cD 28 mm)]) (wr := [(f, .inr (0, [.ref s1, .ref s2, .ref f1, .ref f2, .ref lf, .ref rt])), (s1, fz_da cD 28 sH), (s2, fz_da cD 28 sM), (rt, .inr (2, [.double b0, .double b1, .double b2, .double b3])), (r, .inr (1, [.ref rd, .ref rm, .int (nI n)])), (rd, fz_da cD 28 dd), (rm, fz_da cD 28 mm)]) (As := [.double (FP.dadd (dd (k + 1)) (FP.dmul 4602678819172646912 (sH (k + 1)))), .double (FP.dadd (mm (k + 1)) (FP.dmul 4602678819172646912 (sM (k + 1))))]) (rest := []) ⟨hx, hb, hml, hown, hts⟩ (c_X2_become l D cD lf a0 a1 a2 a3 (FP.dadd (dd (k + 1)) (FP.dmul 4602678819172646912 (sH (k + 1)))) (FP.dadd (mm (k + 1)) (FP.dmul 4602678819172646912 (sM (k + 1)))) (hok.2.2.2.2.2.2.2.2.1)) (cwV 2 hts gX0_guess_X2_become rfl rfl rfl (by decide +kernel) ⟨Nat.le_of_ble_eq_true rfl, Nat.le_of_ble_eq_true rfl⟩) hK hNW hP hD hS hA [3] [0, 1, 2, 4, 5, 6, 7] [0, 1, 2, 7, 3, 4, 5, 6] rfl rfl rfl rfl (by decide) rfl rfl (q0 := 3) (ci := 2) rfl rfl rfl rfl hl.1 rfl (Nat.le_of_ble_eq_true rfl) dX0_guess_49 ⟨Nat.zero_le _, Nat.zero_le _⟩ (fun H locs hP hD hS => ?_)
  refine lv_aload_n hx hb dX0_guess_52 rfl (lv_at hl 2 rfl) ?_
  refine va_get (D := D) (ci := 0) (v := .ref rt) (C := RX0) (T := TX0) (N := 6) hx hb hts hin_X0 hown hK hP 0 rfl rfl 5 (by decide) hw_fieldLink_RX0_31_FlowGrid_Faces_right_LFlowGrid_State (fun _ h9 => h9) rfl dX0_guess_53 ?_
  refine lv_aload_n hx hb dX0_guess_56 rfl (lv_at hl 3 rfl) ?_
  refine va_get (D := D) (ci := 1) (v := .ref rd) (C := RX1) (T := TX1) (N := 3) hx hb hts hin_X1 hown hK hP 5 rfl rfl 0 (by decide) hw_fieldLink_RX0_54_FlowGrid_Row_depths_D (fun _ h9 => h9) rfl dX0_guess_57 ?_
  refine lv_iload hx hb dX0_guess_60 (lv_at hl 0 rfl) ?_
  refine fz_dald (i := k + 2) hx hb hK hP 6 0 rfl rfl (by omega) (by decide) dX0_guess_62 ?_
  refine lv_ldc2d hx hb hown hw_constantDouble_RX0_61_4602678819172646912 dX0_guess_63 ?_
  refine lv_aload_n hx hb dX0_guess_66 rfl (lv_at hl 2 rfl) ?_
  refine va_get (D := D) (ci := 0) (v := .ref s1) (C := RX0) (T := TX0) (N := 6) hx hb hts hin_X0 hown hK hP 0 rfl rfl 0 (by decide) hw_fieldLink_RX0_9_FlowGrid_Faces_depthSlopes_D (fun _ h9 => h9) rfl dX0_guess_67 ?_
  refine lv_iload hx hb dX0_guess_70 (lv_at hl 0 rfl) ?_
  refine fz_dald (i := k + 2) hx hb hK hP 1 0 rfl rfl (by omega) (by decide) dX0_guess_72 ?_
  refine lv_dmul hx hb dX0_guess_73 (hok.2.2.2.2.1) ?_
  refine lv_dsub hx hb dX0_guess_74 (hok.2.2.2.2.2.1) ?_
  refine lv_aload_n hx hb dX0_guess_75 rfl (lv_at hl 3 rfl) ?_
  refine va_get (D := D) (ci := 1) (v := .ref rm) (C := RX1) (T := TX1) (N := 3) hx hb hts hin_X1 hown hK hP 5 rfl rfl 1 (by decide) hw_fieldLink_RX0_65_FlowGrid_Row_momenta_D (fun _ h9 => h9) rfl dX0_guess_76 ?_
  refine lv_iload hx hb dX0_guess_79 (lv_at hl 0 rfl) ?_
  refine fz_dald (i := k + 2) hx hb hK hP 7 0 rfl rfl (by omega) (by decide) dX0_guess_81 ?_
  refine lv_ldc2d hx hb hown hw_constantDouble_RX0_61_4602678819172646912 dX0_guess_82 ?_
  refine lv_aload_n hx hb dX0_guess_85 rfl (lv_at hl 2 rfl) ?_
  refine va_get (D := D) (ci := 0) (v := .ref s2) (C := RX0) (T := TX0) (N := 6) hx hb hts hin_X0 hown hK hP 0 rfl rfl 1 (by decide) hw_fieldLink_RX0_15_FlowGrid_Faces_momentumSlopes_D (fun _ h9 => h9) rfl dX0_guess_86 ?_
  refine lv_iload hx hb dX0_guess_89 (lv_at hl 0 rfl) ?_
  refine fz_dald (i := k + 2) hx hb hK hP 2 0 rfl rfl (by omega) (by decide) dX0_guess_91 ?_
  refine lv_dmul hx hb dX0_guess_92 (hok.2.2.2.2.2.2.1) ?_
  refine lv_dsub hx hb dX0_guess_93 (hok.2.2.2.2.2.2.2.1) ?_
  refine fz_callV (ws' := [(f, .inr (0, [.ref s1, .ref s2, .ref f1, .ref f2, .ref lf, .ref rt])), (s1, fz_da cD 28 sH), (s2, fz_da cD 28 sM), (lf, .inr (2, [.double (FP.dadd (dd (k + 1)) (FP.dmul 4602678819172646912 (sH (k + 1)))), .double (FP.dadd (mm (k + 1)) (FP.dmul 4602678819172646912 (sM (k + 1)))), .double (FP.ddiv (FP.dadd (mm (k + 1)) (FP.dmul 4602678819172646912 (sM (k + 1)))) (FP.dadd (dd (k + 1)) (FP.dmul 4602678819172646912 (sH (k + 1))))), .double (fz_root (FP.dadd (dd (k + 1)) (FP.dmul 4602678819172646912 (sH (k + 1)))))])), (rt, .inr (2, [.double (FP.dsub (dd (k + 2)) (FP.dmul 4602678819172646912 (sH (k + 2)))), .double (FP.dsub (mm (k + 2)) (FP.dmul 4602678819172646912 (sM (k + 2)))), .double (FP.ddiv (FP.dsub (mm (k + 2)) (FP.dmul 4602678819172646912 (sM (k + 2)))) (FP.dsub (dd (k + 2)) (FP.dmul 4602678819172646912 (sH (k + 2))))), .double (fz_root (FP.dsub (dd (k + 2)) (FP.dmul 4602678819172646912 (sH (k + 2)))))])), (r, .inr (1, [.ref rd, .ref rm, .int (nI n)])), (rd, fz_da cD 28 dd), (rm, fz_da cD 28 mm)]) (wr := [(f, .inr (0, [.ref s1, .ref s2, .ref f1, .ref f2, .ref lf, .ref rt])), (s1, fz_da cD 28 sH), (s2, fz_da cD 28 sM), (lf, .inr (2, [.double (FP.dadd (dd (k + 1)) (FP.dmul 4602678819172646912 (sH (k + 1)))), .double (FP.dadd (mm (k + 1)) (FP.dmul 4602678819172646912 (sM (k + 1)))), .double (FP.ddiv (FP.dadd (mm (k + 1)) (FP.dmul 4602678819172646912 (sM (k + 1)))) (FP.dadd (dd (k + 1)) (FP.dmul 4602678819172646912 (sH (k + 1))))), .double (fz_root (FP.dadd (dd (k + 1)) (FP.dmul 4602678819172646912 (sH (k + 1)))))])), (r, .inr (1, [.ref rd, .ref rm, .int (nI n)])), (rd, fz_da cD 28 dd), (rm, fz_da cD 28 mm)]) (As := [.double (FP.dsub (dd (k + 2)) (FP.dmul 4602678819172646912 (sH (k + 2)))), .double (FP.dsub (mm (k + 2)) (FP.dmul 4602678819172646912 (sM (k + 2))))]) (rest := []) ⟨hx, hb, hml, hown, hts⟩ (c_X2_become l D cD rt b0 b1 b2 b3 (FP.dsub (dd (k + 2)) (FP.dmul 4602678819172646912 (sH (k + 2)))) (FP.dsub (mm (k + 2)) (FP.dmul 4602678819172646912 (sM (k + 2)))) (hok.2.2.2.2.2.2.2.2.2)) (cwV 2 hts gX0_guess_X2_become rfl rfl rfl (by decide +kernel) ⟨Nat.le_of_ble_eq_true rfl, Nat.le_of_ble_eq_true rfl⟩) hK hNW hP hD hS hA [4] [0, 1, 2, 3, 5, 6, 7] [0, 1, 2, 3, 7, 4, 5, 6] rfl rfl rfl rfl (by decide) rfl rfl (q0 := 4) (ci := 2) rfl rfl rfl rfl hl.1 rfl (Nat.le_of_ble_eq_true rfl) dX0_guess_94 ⟨Nat.zero_le _, Nat.zero_le _⟩ (fun H locs hP hD hS => ?_)
  exact fz_vret hx hb hr hlocks (rfl) hP hK hD hS dX0_guess_97

set_option maxHeartbeats 4000000 in
set_option maxRecDepth 100000 in
theorem c_X0_solveBroad (l : Launch) (D : va_G) (cD : ClassId) (f s1 s2 f1 f2 lf rt k : Nat) (FH FM : Nat → UInt64) (h1 m1 u1 c1 h2 m2 u2 c2 : UInt64) (hk : k ≤ 24) (hok : fz_bOk h1 m1 u1 c1 h2 m2 u2 c2) : fz_C l D [(cD, .double)] yX0_solveBroad wsX0_solveBroad ({ frames := 2, cells := 0, slots := 0, locals := 60 }) [.ref f, .int (nI k)] [(f, .inr (0, [.ref s1, .ref s2, .ref f1, .ref f2, .ref lf, .ref rt])), (f1, fz_da cD 25 FH), (f2, fz_da cD 25 FM), (lf, .inr (2, [.double h1, .double m1, .double u1, .double c1])), (rt, .inr (2, [.double h2, .double m2, .double u2, .double c2]))] [(f, .inr (0, [.ref s1, .ref s2, .ref f1, .ref f2, .ref lf, .ref rt])), (f1, fz_da cD 25 (vf_upd FH k (fz_brd (fz_sB u1 c1 u2 c2) m1 m2 h1 h2))), (f2, fz_da cD 25 (vf_upd FM k (fz_brd (fz_sB u1 c1 u2 c2) (fz_mflux h1 m1 u1) (fz_mflux h2 m2 u2) m1 m2))), (lf, .inr (2, [.double h1, .double m1, .double u1, .double c1])), (rt, .inr (2, [.double h2, .double m2, .double u2, .double c2]))] (none) := by
  refine fz_start (cc := cX0_solveBroad) (maxL := 4) (ret := none) (by decide) rfl (Nat.le_of_ble_eq_true rfl) ?_
  intro p e s m below meth c A hx hb hr hlocks hml hown hts hK hA hNW H locs hP hD hS ls hl
  have hl : lv_has ls 4 [(0, .ref f), (1, .int (nI k))] := hl
  have hown : s.vm.findClass RX0 = some m.cls := hown
  have hw_fieldLink_RX0_27_FlowGrid_Faces_left_LFlowGrid_State := hts (.fieldLink RX0 27 "FlowGrid$Faces" "left" "LFlowGrid$State;") (by decide +kernel)
  have hin_X0 : ∀ w ∈ u_ws RX0 TX0 6, w ∈ wsX0_solveBroad := by decide +kernel
  have hw_fieldLink_RX0_31_FlowGrid_Faces_right_LFlowGrid_State := hts (.fieldLink RX0 31 "FlowGrid$Faces" "right" "LFlowGrid$State;") (by decide +kernel)
  have hw_initialized_RX3 := hts (.initialized RX3) (by decide +kernel)
  have hw_static_yX3_greater := hts (.static yX3_greater) (by decide +kernel)
  have hw_fieldLink_RX0_18_FlowGrid_Faces_depthFluxes_D := hts (.fieldLink RX0 18 "FlowGrid$Faces" "depthFluxes" "[D") (by decide +kernel)
  have hw_constantDouble_RX0_61_4602678819172646912 := hts (.constantDouble RX0 61 (4602678819172646912)) (by decide +kernel)
  have hw_fieldLink_RX0_91_FlowGrid_State_h_D := hts (.fieldLink RX0 91 "FlowGrid$State" "h" "D") (by decide +kernel)
  have hin_X2 : ∀ w ∈ u_ws RX2 TX2 4, w ∈ wsX0_solveBroad := by decide +kernel
  have hw_fieldLink_RX0_21_FlowGrid_Faces_momentumFluxes_D := hts (.fieldLink RX0 21 "FlowGrid$Faces" "momentumFluxes" "[D") (by decide +kernel)
  have hw_fieldLink_RX0_98_FlowGrid_State_m_D := hts (.fieldLink RX0 98 "FlowGrid$State" "m" "D") (by decide +kernel)
  refine lv_aload_n hx hb dX0_solveBroad_0 rfl (lv_at hl 0 rfl) ?_
  refine va_get (D := D) (ci := 0) (v := .ref lf) (C := RX0) (T := TX0) (N := 6) hx hb hts hin_X0 hown hK hP 0 rfl rfl 4 (by decide) hw_fieldLink_RX0_27_FlowGrid_Faces_left_LFlowGrid_State (fun _ h9 => h9) rfl dX0_solveBroad_1 ?_
  refine fz_callV (ws' := [(f, .inr (0, [.ref s1, .ref s2, .ref f1, .ref f2, .ref lf, .ref rt])), (f1, fz_da cD 25 FH), (f2, fz_da cD 25 FM), (lf, .inr (2, [.double h1, .double m1, .double u1, .double c1])), (rt, .inr (2, [.double h2, .double m2, .double u2, .double c2]))]) (wr := [(f, .inr (0, [.ref s1, .ref s2, .ref f1, .ref f2, .ref lf, .ref rt])), (f1, fz_da cD 25 FH), (f2, fz_da cD 25 FM), (rt, .inr (2, [.double h2, .double m2, .double u2, .double c2]))]) (As := []) (rest := []) ⟨hx, hb, hml, hown, hts⟩ (c_X2_reach l D cD lf h1 m1 u1 c1 (hok.1)) (cwV 0 hts gX0_solveBroad_X2_reach rfl rfl rfl (by decide +kernel) ⟨Nat.le_of_ble_eq_true rfl, Nat.le_of_ble_eq_true rfl⟩) hK hNW hP hD hS hA [3] [0, 1, 2, 4] [0, 1, 2, 4, 3] rfl rfl rfl rfl (by decide) rfl rfl (q0 := 3) (ci := 2) rfl rfl rfl rfl hl.1 rfl (Nat.le_of_ble_eq_true rfl) dX0_solveBroad_4 ⟨Nat.zero_le _, Nat.zero_le _⟩ (fun H locs hP hD hS => ?_)
  refine lv_aload_n hx hb dX0_solveBroad_7 rfl (lv_at hl 0 rfl) ?_
  refine va_get (D := D) (ci := 0) (v := .ref rt) (C := RX0) (T := TX0) (N := 6) hx hb hts hin_X0 hown hK hP 0 rfl rfl 5 (by decide) hw_fieldLink_RX0_31_FlowGrid_Faces_right_LFlowGrid_State (fun _ h9 => h9) rfl dX0_solveBroad_8 ?_
  refine fz_callV (ws' := [(f, .inr (0, [.ref s1, .ref s2, .ref f1, .ref f2, .ref lf, .ref rt])), (f1, fz_da cD 25 FH), (f2, fz_da cD 25 FM), (lf, .inr (2, [.double h1, .double m1, .double u1, .double c1])), (rt, .inr (2, [.double h2, .double m2, .double u2, .double c2]))]) (wr := [(f, .inr (0, [.ref s1, .ref s2, .ref f1, .ref f2, .ref lf, .ref rt])), (f1, fz_da cD 25 FH), (f2, fz_da cD 25 FM), (lf, .inr (2, [.double h1, .double m1, .double u1, .double c1]))]) (As := []) (rest := [.double (fz_reach u1 c1)]) ⟨hx, hb, hml, hown, hts⟩ (c_X2_reach l D cD rt h2 m2 u2 c2 (hok.2.1)) (cwV 0 hts gX0_solveBroad_X2_reach rfl rfl rfl (by decide +kernel) ⟨Nat.le_of_ble_eq_true rfl, Nat.le_of_ble_eq_true rfl⟩) hK hNW hP hD hS hA [4] [0, 1, 2, 3] [0, 1, 2, 3, 4] rfl rfl rfl rfl (by decide) rfl rfl (q0 := 4) (ci := 2) rfl rfl rfl rfl hl.1 rfl (Nat.le_of_ble_eq_true rfl) dX0_solveBroad_11 ⟨Nat.zero_le _, Nat.zero_le _⟩ (fun H locs hP hD hS => ?_)
  refine fz_callN (ws' := [(f, .inr (0, [.ref s1, .ref s2, .ref f1, .ref f2, .ref lf, .ref rt])), (f1, fz_da cD 25 FH), (f2, fz_da cD 25 FM), (lf, .inr (2, [.double h1, .double m1, .double u1, .double c1])), (rt, .inr (2, [.double h2, .double m2, .double u2, .double c2]))]) (wr := [(f, .inr (0, [.ref s1, .ref s2, .ref f1, .ref f2, .ref lf, .ref rt])), (f1, fz_da cD 25 FH), (f2, fz_da cD 25 FM), (lf, .inr (2, [.double h1, .double m1, .double u1, .double c1])), (rt, .inr (2, [.double h2, .double m2, .double u2, .double c2]))]) (As := [.double (fz_reach u1 c1), .double (fz_reach u2 c2)]) (rest := []) ⟨hx, hb, hml, hown, hts⟩ (c_X3_greater l D cD (fz_reach u1 c1) (fz_reach u2 c2)) ⟨va_cnB 2 hts gX0_solveBroad_X3_greater_n85 rfl rfl rfl (hNW ("FlowGrid$Faces", 85, ⟨"FlowGrid", "greater", "(DD)D"⟩) (by decide +kernel)) hw_initialized_RX3 (by decide +kernel) ⟨Nat.le_of_ble_eq_true rfl, Nat.le_of_ble_eq_true rfl⟩, hw_static_yX3_greater, trivial⟩ hK hNW hP hD hS hA [] [0, 1, 2, 3, 4] [0, 1, 2, 3, 4] rfl rfl rfl rfl (by decide) rfl rfl rfl hl.1 rfl (Nat.le_of_ble_eq_true rfl) dX0_solveBroad_14 ⟨Nat.zero_le _, Nat.zero_le _⟩ (fun H locs hP hD hS => ?_)
  refine lv_dstore_n (lv' := [(2, .double (fz_gtrC (fz_reach u1 c1) (fz_reach u2 c2))), (0, .ref f), (1, .int (nI k))]) hx hb dX0_solveBroad_17 rfl hl (by decide) rfl (fun ls hl => ?_)
  refine lv_aload_n hx hb dX0_solveBroad_18 rfl (lv_at hl 1 rfl) ?_
  refine va_get (D := D) (ci := 0) (v := .ref f1) (C := RX0) (T := TX0) (N := 6) hx hb hts hin_X0 hown hK hP 0 rfl rfl 2 (by decide) hw_fieldLink_RX0_18_FlowGrid_Faces_depthFluxes_D (fun _ h9 => h9) rfl dX0_solveBroad_19 ?_
  refine lv_iload_n hx hb dX0_solveBroad_22 rfl (lv_at hl 2 rfl) ?_
  refine lv_ldc2d hx hb hown hw_constantDouble_RX0_61_4602678819172646912 dX0_solveBroad_23 ?_
  refine lv_aload_n hx hb dX0_solveBroad_26 rfl (lv_at hl 1 rfl) ?_
  refine va_get (D := D) (ci := 0) (v := .ref lf) (C := RX0) (T := TX0) (N := 6) hx hb hts hin_X0 hown hK hP 0 rfl rfl 4 (by decide) hw_fieldLink_RX0_27_FlowGrid_Faces_left_LFlowGrid_State (fun _ h9 => h9) rfl dX0_solveBroad_27 ?_
  refine fz_callV (ws' := [(f, .inr (0, [.ref s1, .ref s2, .ref f1, .ref f2, .ref lf, .ref rt])), (f1, fz_da cD 25 FH), (f2, fz_da cD 25 FM), (lf, .inr (2, [.double h1, .double m1, .double u1, .double c1])), (rt, .inr (2, [.double h2, .double m2, .double u2, .double c2]))]) (wr := [(f, .inr (0, [.ref s1, .ref s2, .ref f1, .ref f2, .ref lf, .ref rt])), (f1, fz_da cD 25 FH), (f2, fz_da cD 25 FM), (rt, .inr (2, [.double h2, .double m2, .double u2, .double c2]))]) (As := []) (rest := [.double 4602678819172646912, .int (nI k), .ref f1]) ⟨hx, hb, hml, hown, hts⟩ (c_X2_depthFlux l D cD lf h1 m1 u1 c1) (cwV 0 hts gX0_solveBroad_X2_depthFlux rfl rfl rfl (by decide +kernel) ⟨Nat.le_of_ble_eq_true rfl, Nat.le_of_ble_eq_true rfl⟩) hK hNW hP hD hS hA [3] [0, 1, 2, 4] [0, 1, 2, 4, 3] rfl rfl rfl rfl (by decide) rfl rfl (q0 := 3) (ci := 2) rfl rfl rfl rfl hl.1 rfl (Nat.le_of_ble_eq_true rfl) dX0_solveBroad_30 ⟨Nat.zero_le _, Nat.zero_le _⟩ (fun H locs hP hD hS => ?_)
  refine lv_aload_n hx hb dX0_solveBroad_33 rfl (lv_at hl 1 rfl) ?_
  refine va_get (D := D) (ci := 0) (v := .ref rt) (C := RX0) (T := TX0) (N := 6) hx hb hts hin_X0 hown hK hP 0 rfl rfl 5 (by decide) hw_fieldLink_RX0_31_FlowGrid_Faces_right_LFlowGrid_State (fun _ h9 => h9) rfl dX0_solveBroad_34 ?_
  refine fz_callV (ws' := [(f, .inr (0, [.ref s1, .ref s2, .ref f1, .ref f2, .ref lf, .ref rt])), (f1, fz_da cD 25 FH), (f2, fz_da cD 25 FM), (lf, .inr (2, [.double h1, .double m1, .double u1, .double c1])), (rt, .inr (2, [.double h2, .double m2, .double u2, .double c2]))]) (wr := [(f, .inr (0, [.ref s1, .ref s2, .ref f1, .ref f2, .ref lf, .ref rt])), (f1, fz_da cD 25 FH), (f2, fz_da cD 25 FM), (lf, .inr (2, [.double h1, .double m1, .double u1, .double c1]))]) (As := []) (rest := [.double m1, .double 4602678819172646912, .int (nI k), .ref f1]) ⟨hx, hb, hml, hown, hts⟩ (c_X2_depthFlux l D cD rt h2 m2 u2 c2) (cwV 0 hts gX0_solveBroad_X2_depthFlux rfl rfl rfl (by decide +kernel) ⟨Nat.le_of_ble_eq_true rfl, Nat.le_of_ble_eq_true rfl⟩) hK hNW hP hD hS hA [4] [0, 1, 2, 3] [0, 1, 2, 3, 4] rfl rfl rfl rfl (by decide) rfl rfl (q0 := 4) (ci := 2) rfl rfl rfl rfl hl.1 rfl (Nat.le_of_ble_eq_true rfl) dX0_solveBroad_37 ⟨Nat.zero_le _, Nat.zero_le _⟩ (fun H locs hP hD hS => ?_)
  refine lv_dadd hx hb dX0_solveBroad_40 (hok.2.2.2.2.1.1) ?_
  refine lv_dmul hx hb dX0_solveBroad_41 (hok.2.2.2.2.1.2.1) ?_
  refine lv_ldc2d hx hb hown hw_constantDouble_RX0_61_4602678819172646912 dX0_solveBroad_42 ?_
  refine lv_dload_n hx hb dX0_solveBroad_45 rfl (lv_at hl 0 rfl) ?_
  refine lv_dmul hx hb dX0_solveBroad_46 (hok.2.2.2.2.1.2.2.1) ?_
  refine lv_aload_n hx hb dX0_solveBroad_47 rfl (lv_at hl 1 rfl) ?_
  refine va_get (D := D) (ci := 0) (v := .ref rt) (C := RX0) (T := TX0) (N := 6) hx hb hts hin_X0 hown hK hP 0 rfl rfl 5 (by decide) hw_fieldLink_RX0_31_FlowGrid_Faces_right_LFlowGrid_State (fun _ h9 => h9) rfl dX0_solveBroad_48 ?_
  refine va_get (D := D) (ci := 2) (v := .double h2) (C := RX2) (T := TX2) (N := 4) hx hb hts hin_X2 hown hK hP 4 rfl rfl 0 (by decide) hw_fieldLink_RX0_91_FlowGrid_State_h_D (fun _ h9 => h9) rfl dX0_solveBroad_51 ?_
  refine lv_aload_n hx hb dX0_solveBroad_54 rfl (lv_at hl 1 rfl) ?_
  refine va_get (D := D) (ci := 0) (v := .ref lf) (C := RX0) (T := TX0) (N := 6) hx hb hts hin_X0 hown hK hP 0 rfl rfl 4 (by decide) hw_fieldLink_RX0_27_FlowGrid_Faces_left_LFlowGrid_State (fun _ h9 => h9) rfl dX0_solveBroad_55 ?_
  refine va_get (D := D) (ci := 2) (v := .double h1) (C := RX2) (T := TX2) (N := 4) hx hb hts hin_X2 hown hK hP 3 rfl rfl 0 (by decide) hw_fieldLink_RX0_91_FlowGrid_State_h_D (fun _ h9 => h9) rfl dX0_solveBroad_58 ?_
  refine lv_dsub hx hb dX0_solveBroad_61 (hok.2.2.2.2.1.2.2.2.1) ?_
  refine lv_dmul hx hb dX0_solveBroad_62 (hok.2.2.2.2.1.2.2.2.2.1) ?_
  refine lv_dsub hx hb dX0_solveBroad_63 (hok.2.2.2.2.1.2.2.2.2.2) ?_
  refine fz_dast (i := k) hx hb hK hP hD hS 1 0 rfl rfl (by omega) (by decide) dX0_solveBroad_64 (fun H locs hP hD hS => ?_)
  have hP : va_P D vwCl [(f, .inr (0, [.ref s1, .ref s2, .ref f1, .ref f2, .ref lf, .ref rt])), (f1, fz_da cD 25 (vf_upd FH k (FP.dsub (FP.dmul 4602678819172646912 (FP.dadd m1 m2)) (FP.dmul (FP.dmul 4602678819172646912 (fz_gtrC (fz_reach u1 c1) (fz_reach u2 c2))) (FP.dsub h2 h1))))), (f2, fz_da cD 25 FM), (lf, .inr (2, [.double h1, .double m1, .double u1, .double c1])), (rt, .inr (2, [.double h2, .double m2, .double u2, .double c2]))] H := hP
  have hD : va_D A [(f, .inr (0, [.ref s1, .ref s2, .ref f1, .ref f2, .ref lf, .ref rt])), (f1, fz_da cD 25 (vf_upd FH k (FP.dsub (FP.dmul 4602678819172646912 (FP.dadd m1 m2)) (FP.dmul (FP.dmul 4602678819172646912 (fz_gtrC (fz_reach u1 c1) (fz_reach u2 c2))) (FP.dsub h2 h1))))), (f2, fz_da cD 25 FM), (lf, .inr (2, [.double h1, .double m1, .double u1, .double c1])), (rt, .inr (2, [.double h2, .double m2, .double u2, .double c2]))] := hD
  refine lv_aload_n hx hb dX0_solveBroad_65 rfl (lv_at hl 1 rfl) ?_
  refine va_get (D := D) (ci := 0) (v := .ref f2) (C := RX0) (T := TX0) (N := 6) hx hb hts hin_X0 hown hK hP 0 rfl rfl 3 (by decide) hw_fieldLink_RX0_21_FlowGrid_Faces_momentumFluxes_D (fun _ h9 => h9) rfl dX0_solveBroad_66 ?_
  refine lv_iload_n hx hb dX0_solveBroad_69 rfl (lv_at hl 2 rfl) ?_
  refine lv_ldc2d hx hb hown hw_constantDouble_RX0_61_4602678819172646912 dX0_solveBroad_70 ?_
  refine lv_aload_n hx hb dX0_solveBroad_73 rfl (lv_at hl 1 rfl) ?_
  refine va_get (D := D) (ci := 0) (v := .ref lf) (C := RX0) (T := TX0) (N := 6) hx hb hts hin_X0 hown hK hP 0 rfl rfl 4 (by decide) hw_fieldLink_RX0_27_FlowGrid_Faces_left_LFlowGrid_State (fun _ h9 => h9) rfl dX0_solveBroad_74 ?_
  refine fz_callV (ws' := [(f, .inr (0, [.ref s1, .ref s2, .ref f1, .ref f2, .ref lf, .ref rt])), (f1, fz_da cD 25 (vf_upd FH k (FP.dsub (FP.dmul 4602678819172646912 (FP.dadd m1 m2)) (FP.dmul (FP.dmul 4602678819172646912 (fz_gtrC (fz_reach u1 c1) (fz_reach u2 c2))) (FP.dsub h2 h1))))), (f2, fz_da cD 25 FM), (lf, .inr (2, [.double h1, .double m1, .double u1, .double c1])), (rt, .inr (2, [.double h2, .double m2, .double u2, .double c2]))]) (wr := [(f, .inr (0, [.ref s1, .ref s2, .ref f1, .ref f2, .ref lf, .ref rt])), (f1, fz_da cD 25 (vf_upd FH k (FP.dsub (FP.dmul 4602678819172646912 (FP.dadd m1 m2)) (FP.dmul (FP.dmul 4602678819172646912 (fz_gtrC (fz_reach u1 c1) (fz_reach u2 c2))) (FP.dsub h2 h1))))), (f2, fz_da cD 25 FM), (rt, .inr (2, [.double h2, .double m2, .double u2, .double c2]))]) (As := []) (rest := [.double 4602678819172646912, .int (nI k), .ref f2]) ⟨hx, hb, hml, hown, hts⟩ (c_X2_momentumFlux l D cD lf h1 m1 u1 c1 (hok.2.2.1.1) (hok.2.2.1.2.1) (hok.2.2.1.2.2.1) (hok.2.2.1.2.2.2)) (cwV 0 hts gX0_solveBroad_X2_momentumFlux rfl rfl rfl (by decide +kernel) ⟨Nat.le_of_ble_eq_true rfl, Nat.le_of_ble_eq_true rfl⟩) hK hNW hP hD hS hA [3] [0, 1, 2, 4] [0, 1, 2, 4, 3] rfl rfl rfl rfl (by decide) rfl rfl (q0 := 3) (ci := 2) rfl rfl rfl rfl hl.1 rfl (Nat.le_of_ble_eq_true rfl) dX0_solveBroad_77 ⟨Nat.zero_le _, Nat.zero_le _⟩ (fun H locs hP hD hS => ?_)
  refine lv_aload_n hx hb dX0_solveBroad_80 rfl (lv_at hl 1 rfl) ?_
  refine va_get (D := D) (ci := 0) (v := .ref rt) (C := RX0) (T := TX0) (N := 6) hx hb hts hin_X0 hown hK hP 0 rfl rfl 5 (by decide) hw_fieldLink_RX0_31_FlowGrid_Faces_right_LFlowGrid_State (fun _ h9 => h9) rfl dX0_solveBroad_81 ?_
  refine fz_callV (ws' := [(f, .inr (0, [.ref s1, .ref s2, .ref f1, .ref f2, .ref lf, .ref rt])), (f1, fz_da cD 25 (vf_upd FH k (FP.dsub (FP.dmul 4602678819172646912 (FP.dadd m1 m2)) (FP.dmul (FP.dmul 4602678819172646912 (fz_gtrC (fz_reach u1 c1) (fz_reach u2 c2))) (FP.dsub h2 h1))))), (f2, fz_da cD 25 FM), (lf, .inr (2, [.double h1, .double m1, .double u1, .double c1])), (rt, .inr (2, [.double h2, .double m2, .double u2, .double c2]))]) (wr := [(f, .inr (0, [.ref s1, .ref s2, .ref f1, .ref f2, .ref lf, .ref rt])), (f1, fz_da cD 25 (vf_upd FH k (FP.dsub (FP.dmul 4602678819172646912 (FP.dadd m1 m2)) (FP.dmul (FP.dmul 4602678819172646912 (fz_gtrC (fz_reach u1 c1) (fz_reach u2 c2))) (FP.dsub h2 h1))))), (f2, fz_da cD 25 FM), (lf, .inr (2, [.double h1, .double m1, .double u1, .double c1]))]) (As := []) (rest := [.double (fz_mflux h1 m1 u1), .double 4602678819172646912, .int (nI k), .ref f2]) ⟨hx, hb, hml, hown, hts⟩ (c_X2_momentumFlux l D cD rt h2 m2 u2 c2 (hok.2.2.2.1.1) (hok.2.2.2.1.2.1) (hok.2.2.2.1.2.2.1) (hok.2.2.2.1.2.2.2)) (cwV 0 hts gX0_solveBroad_X2_momentumFlux rfl rfl rfl (by decide +kernel) ⟨Nat.le_of_ble_eq_true rfl, Nat.le_of_ble_eq_true rfl⟩) hK hNW hP hD hS hA [4] [0, 1, 2, 3] [0, 1, 2, 3, 4] rfl rfl rfl rfl (by decide) rfl rfl (q0 := 4) (ci := 2) rfl rfl rfl rfl hl.1 rfl (Nat.le_of_ble_eq_true rfl) dX0_solveBroad_84 ⟨Nat.zero_le _, Nat.zero_le _⟩ (fun H locs hP hD hS => ?_)
  refine lv_dadd hx hb dX0_solveBroad_87 (hok.2.2.2.2.2.1) ?_
  refine lv_dmul hx hb dX0_solveBroad_88 (hok.2.2.2.2.2.2.1) ?_
  refine lv_ldc2d hx hb hown hw_constantDouble_RX0_61_4602678819172646912 dX0_solveBroad_89 ?_
  refine lv_dload_n hx hb dX0_solveBroad_92 rfl (lv_at hl 0 rfl) ?_
  refine lv_dmul hx hb dX0_solveBroad_93 (hok.2.2.2.2.2.2.2.1) ?_
  refine lv_aload_n hx hb dX0_solveBroad_94 rfl (lv_at hl 1 rfl) ?_
  refine va_get (D := D) (ci := 0) (v := .ref rt) (C := RX0) (T := TX0) (N := 6) hx hb hts hin_X0 hown hK hP 0 rfl rfl 5 (by decide) hw_fieldLink_RX0_31_FlowGrid_Faces_right_LFlowGrid_State (fun _ h9 => h9) rfl dX0_solveBroad_95 ?_
  refine va_get (D := D) (ci := 2) (v := .double m2) (C := RX2) (T := TX2) (N := 4) hx hb hts hin_X2 hown hK hP 4 rfl rfl 1 (by decide) hw_fieldLink_RX0_98_FlowGrid_State_m_D (fun _ h9 => h9) rfl dX0_solveBroad_98 ?_
  refine lv_aload_n hx hb dX0_solveBroad_101 rfl (lv_at hl 1 rfl) ?_
  refine va_get (D := D) (ci := 0) (v := .ref lf) (C := RX0) (T := TX0) (N := 6) hx hb hts hin_X0 hown hK hP 0 rfl rfl 4 (by decide) hw_fieldLink_RX0_27_FlowGrid_Faces_left_LFlowGrid_State (fun _ h9 => h9) rfl dX0_solveBroad_102 ?_
  refine va_get (D := D) (ci := 2) (v := .double m1) (C := RX2) (T := TX2) (N := 4) hx hb hts hin_X2 hown hK hP 3 rfl rfl 1 (by decide) hw_fieldLink_RX0_98_FlowGrid_State_m_D (fun _ h9 => h9) rfl dX0_solveBroad_105 ?_
  refine lv_dsub hx hb dX0_solveBroad_108 (hok.2.2.2.2.2.2.2.2.1) ?_
  refine lv_dmul hx hb dX0_solveBroad_109 (hok.2.2.2.2.2.2.2.2.2.1) ?_
  refine lv_dsub hx hb dX0_solveBroad_110 (hok.2.2.2.2.2.2.2.2.2.2) ?_
  refine fz_dast (i := k) hx hb hK hP hD hS 2 0 rfl rfl (by omega) (by decide) dX0_solveBroad_111 (fun H locs hP hD hS => ?_)
  have hP : va_P D vwCl [(f, .inr (0, [.ref s1, .ref s2, .ref f1, .ref f2, .ref lf, .ref rt])), (f1, fz_da cD 25 (vf_upd FH k (FP.dsub (FP.dmul 4602678819172646912 (FP.dadd m1 m2)) (FP.dmul (FP.dmul 4602678819172646912 (fz_gtrC (fz_reach u1 c1) (fz_reach u2 c2))) (FP.dsub h2 h1))))), (f2, fz_da cD 25 (vf_upd FM k (FP.dsub (FP.dmul 4602678819172646912 (FP.dadd (fz_mflux h1 m1 u1) (fz_mflux h2 m2 u2))) (FP.dmul (FP.dmul 4602678819172646912 (fz_gtrC (fz_reach u1 c1) (fz_reach u2 c2))) (FP.dsub m2 m1))))), (lf, .inr (2, [.double h1, .double m1, .double u1, .double c1])), (rt, .inr (2, [.double h2, .double m2, .double u2, .double c2]))] H := hP
  have hD : va_D A [(f, .inr (0, [.ref s1, .ref s2, .ref f1, .ref f2, .ref lf, .ref rt])), (f1, fz_da cD 25 (vf_upd FH k (FP.dsub (FP.dmul 4602678819172646912 (FP.dadd m1 m2)) (FP.dmul (FP.dmul 4602678819172646912 (fz_gtrC (fz_reach u1 c1) (fz_reach u2 c2))) (FP.dsub h2 h1))))), (f2, fz_da cD 25 (vf_upd FM k (FP.dsub (FP.dmul 4602678819172646912 (FP.dadd (fz_mflux h1 m1 u1) (fz_mflux h2 m2 u2))) (FP.dmul (FP.dmul 4602678819172646912 (fz_gtrC (fz_reach u1 c1) (fz_reach u2 c2))) (FP.dsub m2 m1))))), (lf, .inr (2, [.double h1, .double m1, .double u1, .double c1])), (rt, .inr (2, [.double h2, .double m2, .double u2, .double c2]))] := hD
  exact fz_vret hx hb hr hlocks (rfl) hP hK hD hS dX0_solveBroad_112

set_option maxHeartbeats 4000000 in
set_option maxRecDepth 100000 in
theorem c_X0_solveNarrow (l : Launch) (D : va_G) (cD : ClassId) (f s1 s2 f1 f2 lf rt k : Nat) (FH FM : Nat → UInt64) (h1 m1 u1 c1 h2 m2 u2 c2 : UInt64) (hk : k ≤ 24) (hok : fz_nOk h1 m1 u1 c1 h2 m2 u2 c2) : fz_C l D [(cD, .double)] yX0_solveNarrow wsX0_solveNarrow ({ frames := 2, cells := 0, slots := 0, locals := 60 }) [.ref f, .int (nI k)] [(f, .inr (0, [.ref s1, .ref s2, .ref f1, .ref f2, .ref lf, .ref rt])), (f1, fz_da cD 25 FH), (f2, fz_da cD 25 FM), (lf, .inr (2, [.double h1, .double m1, .double u1, .double c1])), (rt, .inr (2, [.double h2, .double m2, .double u2, .double c2]))] [(f, .inr (0, [.ref s1, .ref s2, .ref f1, .ref f2, .ref lf, .ref rt])), (f1, fz_da cD 25 (vf_upd FH k (fz_bld (fz_xN u1 c1 u2 c2) (fz_yN u1 c1 u2 c2) m1 m2 (FP.dsub h2 h1)))), (f2, fz_da cD 25 (vf_upd FM k (fz_bld (fz_xN u1 c1 u2 c2) (fz_yN u1 c1 u2 c2) (fz_mflux h1 m1 u1) (fz_mflux h2 m2 u2) (FP.dsub m2 m1)))), (lf, .inr (2, [.double h1, .double m1, .double u1, .double c1])), (rt, .inr (2, [.double h2, .double m2, .double u2, .double c2]))] (none) := by
  refine fz_start (cc := cX0_solveNarrow) (maxL := 6) (ret := none) (by decide) rfl (Nat.le_of_ble_eq_true rfl) ?_
  intro p e s m below meth c A hx hb hr hlocks hml hown hts hK hA hNW H locs hP hD hS ls hl
  have hl : lv_has ls 6 [(0, .ref f), (1, .int (nI k))] := hl
  have hown : s.vm.findClass RX0 = some m.cls := hown
  have hw_fieldLink_RX0_27_FlowGrid_Faces_left_LFlowGrid_State := hts (.fieldLink RX0 27 "FlowGrid$Faces" "left" "LFlowGrid$State;") (by decide +kernel)
  have hin_X0 : ∀ w ∈ u_ws RX0 TX0 6, w ∈ wsX0_solveNarrow := by decide +kernel
  have hw_fieldLink_RX0_101_FlowGrid_State_speed_D := hts (.fieldLink RX0 101 "FlowGrid$State" "speed" "D") (by decide +kernel)
  have hin_X2 : ∀ w ∈ u_ws RX2 TX2 4, w ∈ wsX0_solveNarrow := by decide +kernel
  have hw_fieldLink_RX0_104_FlowGrid_State_wave_D := hts (.fieldLink RX0 104 "FlowGrid$State" "wave" "D") (by decide +kernel)
  have hw_fieldLink_RX0_31_FlowGrid_Faces_right_LFlowGrid_State := hts (.fieldLink RX0 31 "FlowGrid$Faces" "right" "LFlowGrid$State;") (by decide +kernel)
  have hw_initialized_RX3 := hts (.initialized RX3) (by decide +kernel)
  have hw_static_yX3_lesser := hts (.static yX3_lesser) (by decide +kernel)
  have hw_static_yX3_greater := hts (.static yX3_greater) (by decide +kernel)
  have hw_fieldLink_RX0_18_FlowGrid_Faces_depthFluxes_D := hts (.fieldLink RX0 18 "FlowGrid$Faces" "depthFluxes" "[D") (by decide +kernel)
  have hw_fieldLink_RX0_91_FlowGrid_State_h_D := hts (.fieldLink RX0 91 "FlowGrid$State" "h" "D") (by decide +kernel)
  have hw_fieldLink_RX0_21_FlowGrid_Faces_momentumFluxes_D := hts (.fieldLink RX0 21 "FlowGrid$Faces" "momentumFluxes" "[D") (by decide +kernel)
  have hw_fieldLink_RX0_98_FlowGrid_State_m_D := hts (.fieldLink RX0 98 "FlowGrid$State" "m" "D") (by decide +kernel)
  refine lv_aload_n hx hb dX0_solveNarrow_0 rfl (lv_at hl 0 rfl) ?_
  refine va_get (D := D) (ci := 0) (v := .ref lf) (C := RX0) (T := TX0) (N := 6) hx hb hts hin_X0 hown hK hP 0 rfl rfl 4 (by decide) hw_fieldLink_RX0_27_FlowGrid_Faces_left_LFlowGrid_State (fun _ h9 => h9) rfl dX0_solveNarrow_1 ?_
  refine va_get (D := D) (ci := 2) (v := .double u1) (C := RX2) (T := TX2) (N := 4) hx hb hts hin_X2 hown hK hP 3 rfl rfl 2 (by decide) hw_fieldLink_RX0_101_FlowGrid_State_speed_D (fun _ h9 => h9) rfl dX0_solveNarrow_4 ?_
  refine lv_aload_n hx hb dX0_solveNarrow_7 rfl (lv_at hl 0 rfl) ?_
  refine va_get (D := D) (ci := 0) (v := .ref lf) (C := RX0) (T := TX0) (N := 6) hx hb hts hin_X0 hown hK hP 0 rfl rfl 4 (by decide) hw_fieldLink_RX0_27_FlowGrid_Faces_left_LFlowGrid_State (fun _ h9 => h9) rfl dX0_solveNarrow_8 ?_
  refine va_get (D := D) (ci := 2) (v := .double c1) (C := RX2) (T := TX2) (N := 4) hx hb hts hin_X2 hown hK hP 3 rfl rfl 3 (by decide) hw_fieldLink_RX0_104_FlowGrid_State_wave_D (fun _ h9 => h9) rfl dX0_solveNarrow_11 ?_
  refine lv_dsub hx hb dX0_solveNarrow_14 (hok.1) ?_
  refine lv_aload_n hx hb dX0_solveNarrow_15 rfl (lv_at hl 0 rfl) ?_
  refine va_get (D := D) (ci := 0) (v := .ref rt) (C := RX0) (T := TX0) (N := 6) hx hb hts hin_X0 hown hK hP 0 rfl rfl 5 (by decide) hw_fieldLink_RX0_31_FlowGrid_Faces_right_LFlowGrid_State (fun _ h9 => h9) rfl dX0_solveNarrow_16 ?_
  refine va_get (D := D) (ci := 2) (v := .double u2) (C := RX2) (T := TX2) (N := 4) hx hb hts hin_X2 hown hK hP 4 rfl rfl 2 (by decide) hw_fieldLink_RX0_101_FlowGrid_State_speed_D (fun _ h9 => h9) rfl dX0_solveNarrow_19 ?_
  refine lv_aload_n hx hb dX0_solveNarrow_22 rfl (lv_at hl 0 rfl) ?_
  refine va_get (D := D) (ci := 0) (v := .ref rt) (C := RX0) (T := TX0) (N := 6) hx hb hts hin_X0 hown hK hP 0 rfl rfl 5 (by decide) hw_fieldLink_RX0_31_FlowGrid_Faces_right_LFlowGrid_State (fun _ h9 => h9) rfl dX0_solveNarrow_23 ?_
  refine va_get (D := D) (ci := 2) (v := .double c2) (C := RX2) (T := TX2) (N := 4) hx hb hts hin_X2 hown hK hP 4 rfl rfl 3 (by decide) hw_fieldLink_RX0_104_FlowGrid_State_wave_D (fun _ h9 => h9) rfl dX0_solveNarrow_26 ?_
  refine lv_dsub hx hb dX0_solveNarrow_29 (hok.2.1) ?_
  refine fz_callN (ws' := [(f, .inr (0, [.ref s1, .ref s2, .ref f1, .ref f2, .ref lf, .ref rt])), (f1, fz_da cD 25 FH), (f2, fz_da cD 25 FM), (lf, .inr (2, [.double h1, .double m1, .double u1, .double c1])), (rt, .inr (2, [.double h2, .double m2, .double u2, .double c2]))]) (wr := [(f, .inr (0, [.ref s1, .ref s2, .ref f1, .ref f2, .ref lf, .ref rt])), (f1, fz_da cD 25 FH), (f2, fz_da cD 25 FM), (lf, .inr (2, [.double h1, .double m1, .double u1, .double c1])), (rt, .inr (2, [.double h2, .double m2, .double u2, .double c2]))]) (As := [.double (FP.dsub u1 c1), .double (FP.dsub u2 c2)]) (rest := []) ⟨hx, hb, hml, hown, hts⟩ (c_X3_lesser l D cD (FP.dsub u1 c1) (FP.dsub u2 c2)) ⟨va_cnB 2 hts gX0_solveNarrow_X3_lesser_n107 rfl rfl rfl (hNW ("FlowGrid$Faces", 107, ⟨"FlowGrid", "lesser", "(DD)D"⟩) (by decide +kernel)) hw_initialized_RX3 (by decide +kernel) ⟨Nat.le_of_ble_eq_true rfl, Nat.le_of_ble_eq_true rfl⟩, hw_static_yX3_lesser, trivial⟩ hK hNW hP hD hS hA [] [0, 1, 2, 3, 4] [0, 1, 2, 3, 4] rfl rfl rfl rfl (by decide) rfl rfl rfl hl.1 rfl (Nat.le_of_ble_eq_true rfl) dX0_solveNarrow_30 ⟨Nat.zero_le _, Nat.zero_le _⟩ (fun H locs hP hD hS => ?_)
  refine lv_dstore_n (lv' := [(2, .double (fz_lesC (FP.dsub u1 c1) (FP.dsub u2 c2))), (0, .ref f), (1, .int (nI k))]) hx hb dX0_solveNarrow_33 rfl hl (by decide) rfl (fun ls hl => ?_)
  refine lv_aload_n hx hb dX0_solveNarrow_34 rfl (lv_at hl 1 rfl) ?_
  refine va_get (D := D) (ci := 0) (v := .ref lf) (C := RX0) (T := TX0) (N := 6) hx hb hts hin_X0 hown hK hP 0 rfl rfl 4 (by decide) hw_fieldLink_RX0_27_FlowGrid_Faces_left_LFlowGrid_State (fun _ h9 => h9) rfl dX0_solveNarrow_35 ?_
  refine va_get (D := D) (ci := 2) (v := .double u1) (C := RX2) (T := TX2) (N := 4) hx hb hts hin_X2 hown hK hP 3 rfl rfl 2 (by decide) hw_fieldLink_RX0_101_FlowGrid_State_speed_D (fun _ h9 => h9) rfl dX0_solveNarrow_38 ?_
  refine lv_aload_n hx hb dX0_solveNarrow_41 rfl (lv_at hl 1 rfl) ?_
  refine va_get (D := D) (ci := 0) (v := .ref lf) (C := RX0) (T := TX0) (N := 6) hx hb hts hin_X0 hown hK hP 0 rfl rfl 4 (by decide) hw_fieldLink_RX0_27_FlowGrid_Faces_left_LFlowGrid_State (fun _ h9 => h9) rfl dX0_solveNarrow_42 ?_
  refine va_get (D := D) (ci := 2) (v := .double c1) (C := RX2) (T := TX2) (N := 4) hx hb hts hin_X2 hown hK hP 3 rfl rfl 3 (by decide) hw_fieldLink_RX0_104_FlowGrid_State_wave_D (fun _ h9 => h9) rfl dX0_solveNarrow_45 ?_
  refine lv_dadd hx hb dX0_solveNarrow_48 (hok.2.2.1) ?_
  refine lv_aload_n hx hb dX0_solveNarrow_49 rfl (lv_at hl 1 rfl) ?_
  refine va_get (D := D) (ci := 0) (v := .ref rt) (C := RX0) (T := TX0) (N := 6) hx hb hts hin_X0 hown hK hP 0 rfl rfl 5 (by decide) hw_fieldLink_RX0_31_FlowGrid_Faces_right_LFlowGrid_State (fun _ h9 => h9) rfl dX0_solveNarrow_50 ?_
  refine va_get (D := D) (ci := 2) (v := .double u2) (C := RX2) (T := TX2) (N := 4) hx hb hts hin_X2 hown hK hP 4 rfl rfl 2 (by decide) hw_fieldLink_RX0_101_FlowGrid_State_speed_D (fun _ h9 => h9) rfl dX0_solveNarrow_53 ?_
  refine lv_aload_n hx hb dX0_solveNarrow_56 rfl (lv_at hl 1 rfl) ?_
  refine va_get (D := D) (ci := 0) (v := .ref rt) (C := RX0) (T := TX0) (N := 6) hx hb hts hin_X0 hown hK hP 0 rfl rfl 5 (by decide) hw_fieldLink_RX0_31_FlowGrid_Faces_right_LFlowGrid_State (fun _ h9 => h9) rfl dX0_solveNarrow_57 ?_
  refine va_get (D := D) (ci := 2) (v := .double c2) (C := RX2) (T := TX2) (N := 4) hx hb hts hin_X2 hown hK hP 4 rfl rfl 3 (by decide) hw_fieldLink_RX0_104_FlowGrid_State_wave_D (fun _ h9 => h9) rfl dX0_solveNarrow_60 ?_
  refine lv_dadd hx hb dX0_solveNarrow_63 (hok.2.2.2.1) ?_
  refine fz_callN (ws' := [(f, .inr (0, [.ref s1, .ref s2, .ref f1, .ref f2, .ref lf, .ref rt])), (f1, fz_da cD 25 FH), (f2, fz_da cD 25 FM), (lf, .inr (2, [.double h1, .double m1, .double u1, .double c1])), (rt, .inr (2, [.double h2, .double m2, .double u2, .double c2]))]) (wr := [(f, .inr (0, [.ref s1, .ref s2, .ref f1, .ref f2, .ref lf, .ref rt])), (f1, fz_da cD 25 FH), (f2, fz_da cD 25 FM), (lf, .inr (2, [.double h1, .double m1, .double u1, .double c1])), (rt, .inr (2, [.double h2, .double m2, .double u2, .double c2]))]) (As := [.double (FP.dadd u1 c1), .double (FP.dadd u2 c2)]) (rest := []) ⟨hx, hb, hml, hown, hts⟩ (c_X3_greater l D cD (FP.dadd u1 c1) (FP.dadd u2 c2)) ⟨va_cnB 2 hts gX0_solveNarrow_X3_greater_n85 rfl rfl rfl (hNW ("FlowGrid$Faces", 85, ⟨"FlowGrid", "greater", "(DD)D"⟩) (by decide +kernel)) hw_initialized_RX3 (by decide +kernel) ⟨Nat.le_of_ble_eq_true rfl, Nat.le_of_ble_eq_true rfl⟩, hw_static_yX3_greater, trivial⟩ hK hNW hP hD hS hA [] [0, 1, 2, 3, 4] [0, 1, 2, 3, 4] rfl rfl rfl rfl (by decide) rfl rfl rfl hl.1 rfl (Nat.le_of_ble_eq_true rfl) dX0_solveNarrow_64 ⟨Nat.zero_le _, Nat.zero_le _⟩ (fun H locs hP hD hS => ?_)
  refine lv_dstore (lv' := [(4, .double (fz_gtrC (FP.dadd u1 c1) (FP.dadd u2 c2))), (2, .double (fz_lesC (FP.dsub u1 c1) (FP.dsub u2 c2))), (0, .ref f), (1, .int (nI k))]) hx hb dX0_solveNarrow_67 hl (by decide) rfl (fun ls hl => ?_)
  refine lv_aload_n hx hb dX0_solveNarrow_69 rfl (lv_at hl 2 rfl) ?_
  refine va_get (D := D) (ci := 0) (v := .ref f1) (C := RX0) (T := TX0) (N := 6) hx hb hts hin_X0 hown hK hP 0 rfl rfl 2 (by decide) hw_fieldLink_RX0_18_FlowGrid_Faces_depthFluxes_D (fun _ h9 => h9) rfl dX0_solveNarrow_70 ?_
  refine lv_iload_n hx hb dX0_solveNarrow_73 rfl (lv_at hl 3 rfl) ?_
  refine lv_dload_n hx hb dX0_solveNarrow_74 rfl (lv_at hl 1 rfl) ?_
  refine lv_dload hx hb dX0_solveNarrow_75 (lv_at hl 0 rfl) ?_
  refine lv_aload_n hx hb dX0_solveNarrow_77 rfl (lv_at hl 2 rfl) ?_
  refine va_get (D := D) (ci := 0) (v := .ref lf) (C := RX0) (T := TX0) (N := 6) hx hb hts hin_X0 hown hK hP 0 rfl rfl 4 (by decide) hw_fieldLink_RX0_27_FlowGrid_Faces_left_LFlowGrid_State (fun _ h9 => h9) rfl dX0_solveNarrow_78 ?_
  refine fz_callV (ws' := [(f, .inr (0, [.ref s1, .ref s2, .ref f1, .ref f2, .ref lf, .ref rt])), (f1, fz_da cD 25 FH), (f2, fz_da cD 25 FM), (lf, .inr (2, [.double h1, .double m1, .double u1, .double c1])), (rt, .inr (2, [.double h2, .double m2, .double u2, .double c2]))]) (wr := [(f, .inr (0, [.ref s1, .ref s2, .ref f1, .ref f2, .ref lf, .ref rt])), (f1, fz_da cD 25 FH), (f2, fz_da cD 25 FM), (rt, .inr (2, [.double h2, .double m2, .double u2, .double c2]))]) (As := []) (rest := [.double (fz_gtrC (FP.dadd u1 c1) (FP.dadd u2 c2)), .double (fz_lesC (FP.dsub u1 c1) (FP.dsub u2 c2)), .int (nI k), .ref f1]) ⟨hx, hb, hml, hown, hts⟩ (c_X2_depthFlux l D cD lf h1 m1 u1 c1) (cwV 0 hts gX0_solveNarrow_X2_depthFlux rfl rfl rfl (by decide +kernel) ⟨Nat.le_of_ble_eq_true rfl, Nat.le_of_ble_eq_true rfl⟩) hK hNW hP hD hS hA [3] [0, 1, 2, 4] [0, 1, 2, 4, 3] rfl rfl rfl rfl (by decide) rfl rfl (q0 := 3) (ci := 2) rfl rfl rfl rfl hl.1 rfl (Nat.le_of_ble_eq_true rfl) dX0_solveNarrow_81 ⟨Nat.zero_le _, Nat.zero_le _⟩ (fun H locs hP hD hS => ?_)
  refine lv_aload_n hx hb dX0_solveNarrow_84 rfl (lv_at hl 2 rfl) ?_
  refine va_get (D := D) (ci := 0) (v := .ref rt) (C := RX0) (T := TX0) (N := 6) hx hb hts hin_X0 hown hK hP 0 rfl rfl 5 (by decide) hw_fieldLink_RX0_31_FlowGrid_Faces_right_LFlowGrid_State (fun _ h9 => h9) rfl dX0_solveNarrow_85 ?_
  refine fz_callV (ws' := [(f, .inr (0, [.ref s1, .ref s2, .ref f1, .ref f2, .ref lf, .ref rt])), (f1, fz_da cD 25 FH), (f2, fz_da cD 25 FM), (lf, .inr (2, [.double h1, .double m1, .double u1, .double c1])), (rt, .inr (2, [.double h2, .double m2, .double u2, .double c2]))]) (wr := [(f, .inr (0, [.ref s1, .ref s2, .ref f1, .ref f2, .ref lf, .ref rt])), (f1, fz_da cD 25 FH), (f2, fz_da cD 25 FM), (lf, .inr (2, [.double h1, .double m1, .double u1, .double c1]))]) (As := []) (rest := [.double m1, .double (fz_gtrC (FP.dadd u1 c1) (FP.dadd u2 c2)), .double (fz_lesC (FP.dsub u1 c1) (FP.dsub u2 c2)), .int (nI k), .ref f1]) ⟨hx, hb, hml, hown, hts⟩ (c_X2_depthFlux l D cD rt h2 m2 u2 c2) (cwV 0 hts gX0_solveNarrow_X2_depthFlux rfl rfl rfl (by decide +kernel) ⟨Nat.le_of_ble_eq_true rfl, Nat.le_of_ble_eq_true rfl⟩) hK hNW hP hD hS hA [4] [0, 1, 2, 3] [0, 1, 2, 3, 4] rfl rfl rfl rfl (by decide) rfl rfl (q0 := 4) (ci := 2) rfl rfl rfl rfl hl.1 rfl (Nat.le_of_ble_eq_true rfl) dX0_solveNarrow_88 ⟨Nat.zero_le _, Nat.zero_le _⟩ (fun H locs hP hD hS => ?_)
  refine lv_aload_n hx hb dX0_solveNarrow_91 rfl (lv_at hl 2 rfl) ?_
  refine va_get (D := D) (ci := 0) (v := .ref rt) (C := RX0) (T := TX0) (N := 6) hx hb hts hin_X0 hown hK hP 0 rfl rfl 5 (by decide) hw_fieldLink_RX0_31_FlowGrid_Faces_right_LFlowGrid_State (fun _ h9 => h9) rfl dX0_solveNarrow_92 ?_
  refine va_get (D := D) (ci := 2) (v := .double h2) (C := RX2) (T := TX2) (N := 4) hx hb hts hin_X2 hown hK hP 4 rfl rfl 0 (by decide) hw_fieldLink_RX0_91_FlowGrid_State_h_D (fun _ h9 => h9) rfl dX0_solveNarrow_95 ?_
  refine lv_aload_n hx hb dX0_solveNarrow_98 rfl (lv_at hl 2 rfl) ?_
  refine va_get (D := D) (ci := 0) (v := .ref lf) (C := RX0) (T := TX0) (N := 6) hx hb hts hin_X0 hown hK hP 0 rfl rfl 4 (by decide) hw_fieldLink_RX0_27_FlowGrid_Faces_left_LFlowGrid_State (fun _ h9 => h9) rfl dX0_solveNarrow_99 ?_
  refine va_get (D := D) (ci := 2) (v := .double h1) (C := RX2) (T := TX2) (N := 4) hx hb hts hin_X2 hown hK hP 3 rfl rfl 0 (by decide) hw_fieldLink_RX0_91_FlowGrid_State_h_D (fun _ h9 => h9) rfl dX0_solveNarrow_102 ?_
  refine lv_dsub hx hb dX0_solveNarrow_105 (hok.2.2.2.2.2.2.1) ?_
  refine fz_callS (ws' := [(f, .inr (0, [.ref s1, .ref s2, .ref f1, .ref f2, .ref lf, .ref rt])), (f1, fz_da cD 25 FH), (f2, fz_da cD 25 FM), (lf, .inr (2, [.double h1, .double m1, .double u1, .double c1])), (rt, .inr (2, [.double h2, .double m2, .double u2, .double c2]))]) (wr := [(f, .inr (0, [.ref s1, .ref s2, .ref f1, .ref f2, .ref lf, .ref rt])), (f1, fz_da cD 25 FH), (f2, fz_da cD 25 FM), (lf, .inr (2, [.double h1, .double m1, .double u1, .double c1])), (rt, .inr (2, [.double h2, .double m2, .double u2, .double c2]))]) (As := [.double (fz_lesC (FP.dsub u1 c1) (FP.dsub u2 c2)), .double (fz_gtrC (FP.dadd u1 c1) (FP.dadd u2 c2)), .double m1, .double m2, .double (FP.dsub h2 h1)]) (rest := [.int (nI k), .ref f1]) ⟨hx, hb, hml, hown, hts⟩ (c_X0_blend l D cD (fz_lesC (FP.dsub u1 c1) (FP.dsub u2 c2)) (fz_gtrC (FP.dadd u1 c1) (FP.dadd u2 c2)) m1 m2 (FP.dsub h2 h1) (hok.2.2.2.2.2.2.2.2.1)) (va_cwS 5 hts gX0_solveNarrow_X0_blend rfl rfl rfl (by decide +kernel) ⟨Nat.le_of_ble_eq_true rfl, Nat.le_of_ble_eq_true rfl⟩) hK hNW hP hD hS hA [] [0, 1, 2, 3, 4] [0, 1, 2, 3, 4] rfl rfl rfl rfl (by decide) rfl rfl rfl hl.1 rfl (Nat.le_of_ble_eq_true rfl) dX0_solveNarrow_106 ⟨Nat.zero_le _, Nat.zero_le _⟩ (fun H locs hP hD hS => ?_)
  refine fz_dast (i := k) hx hb hK hP hD hS 1 0 rfl rfl (by omega) (by decide) dX0_solveNarrow_109 (fun H locs hP hD hS => ?_)
  have hP : va_P D vwCl [(f, .inr (0, [.ref s1, .ref s2, .ref f1, .ref f2, .ref lf, .ref rt])), (f1, fz_da cD 25 (vf_upd FH k (fz_bld (fz_lesC (FP.dsub u1 c1) (FP.dsub u2 c2)) (fz_gtrC (FP.dadd u1 c1) (FP.dadd u2 c2)) m1 m2 (FP.dsub h2 h1)))), (f2, fz_da cD 25 FM), (lf, .inr (2, [.double h1, .double m1, .double u1, .double c1])), (rt, .inr (2, [.double h2, .double m2, .double u2, .double c2]))] H := hP
  have hD : va_D A [(f, .inr (0, [.ref s1, .ref s2, .ref f1, .ref f2, .ref lf, .ref rt])), (f1, fz_da cD 25 (vf_upd FH k (fz_bld (fz_lesC (FP.dsub u1 c1) (FP.dsub u2 c2)) (fz_gtrC (FP.dadd u1 c1) (FP.dadd u2 c2)) m1 m2 (FP.dsub h2 h1)))), (f2, fz_da cD 25 FM), (lf, .inr (2, [.double h1, .double m1, .double u1, .double c1])), (rt, .inr (2, [.double h2, .double m2, .double u2, .double c2]))] := hD
  refine lv_aload_n hx hb dX0_solveNarrow_110 rfl (lv_at hl 2 rfl) ?_
  refine va_get (D := D) (ci := 0) (v := .ref f2) (C := RX0) (T := TX0) (N := 6) hx hb hts hin_X0 hown hK hP 0 rfl rfl 3 (by decide) hw_fieldLink_RX0_21_FlowGrid_Faces_momentumFluxes_D (fun _ h9 => h9) rfl dX0_solveNarrow_111 ?_
  refine lv_iload_n hx hb dX0_solveNarrow_114 rfl (lv_at hl 3 rfl) ?_
  refine lv_dload_n hx hb dX0_solveNarrow_115 rfl (lv_at hl 1 rfl) ?_
  refine lv_dload hx hb dX0_solveNarrow_116 (lv_at hl 0 rfl) ?_
  refine lv_aload_n hx hb dX0_solveNarrow_118 rfl (lv_at hl 2 rfl) ?_
  refine va_get (D := D) (ci := 0) (v := .ref lf) (C := RX0) (T := TX0) (N := 6) hx hb hts hin_X0 hown hK hP 0 rfl rfl 4 (by decide) hw_fieldLink_RX0_27_FlowGrid_Faces_left_LFlowGrid_State (fun _ h9 => h9) rfl dX0_solveNarrow_119 ?_
  refine fz_callV (ws' := [(f, .inr (0, [.ref s1, .ref s2, .ref f1, .ref f2, .ref lf, .ref rt])), (f1, fz_da cD 25 (vf_upd FH k (fz_bld (fz_lesC (FP.dsub u1 c1) (FP.dsub u2 c2)) (fz_gtrC (FP.dadd u1 c1) (FP.dadd u2 c2)) m1 m2 (FP.dsub h2 h1)))), (f2, fz_da cD 25 FM), (lf, .inr (2, [.double h1, .double m1, .double u1, .double c1])), (rt, .inr (2, [.double h2, .double m2, .double u2, .double c2]))]) (wr := [(f, .inr (0, [.ref s1, .ref s2, .ref f1, .ref f2, .ref lf, .ref rt])), (f1, fz_da cD 25 (vf_upd FH k (fz_bld (fz_lesC (FP.dsub u1 c1) (FP.dsub u2 c2)) (fz_gtrC (FP.dadd u1 c1) (FP.dadd u2 c2)) m1 m2 (FP.dsub h2 h1)))), (f2, fz_da cD 25 FM), (rt, .inr (2, [.double h2, .double m2, .double u2, .double c2]))]) (As := []) (rest := [.double (fz_gtrC (FP.dadd u1 c1) (FP.dadd u2 c2)), .double (fz_lesC (FP.dsub u1 c1) (FP.dsub u2 c2)), .int (nI k), .ref f2]) ⟨hx, hb, hml, hown, hts⟩ (c_X2_momentumFlux l D cD lf h1 m1 u1 c1 (hok.2.2.2.2.1.1) (hok.2.2.2.2.1.2.1) (hok.2.2.2.2.1.2.2.1) (hok.2.2.2.2.1.2.2.2)) (cwV 0 hts gX0_solveNarrow_X2_momentumFlux rfl rfl rfl (by decide +kernel) ⟨Nat.le_of_ble_eq_true rfl, Nat.le_of_ble_eq_true rfl⟩) hK hNW hP hD hS hA [3] [0, 1, 2, 4] [0, 1, 2, 4, 3] rfl rfl rfl rfl (by decide) rfl rfl (q0 := 3) (ci := 2) rfl rfl rfl rfl hl.1 rfl (Nat.le_of_ble_eq_true rfl) dX0_solveNarrow_122 ⟨Nat.zero_le _, Nat.zero_le _⟩ (fun H locs hP hD hS => ?_)
  refine lv_aload_n hx hb dX0_solveNarrow_125 rfl (lv_at hl 2 rfl) ?_
  refine va_get (D := D) (ci := 0) (v := .ref rt) (C := RX0) (T := TX0) (N := 6) hx hb hts hin_X0 hown hK hP 0 rfl rfl 5 (by decide) hw_fieldLink_RX0_31_FlowGrid_Faces_right_LFlowGrid_State (fun _ h9 => h9) rfl dX0_solveNarrow_126 ?_
  refine fz_callV (ws' := [(f, .inr (0, [.ref s1, .ref s2, .ref f1, .ref f2, .ref lf, .ref rt])), (f1, fz_da cD 25 (vf_upd FH k (fz_bld (fz_lesC (FP.dsub u1 c1) (FP.dsub u2 c2)) (fz_gtrC (FP.dadd u1 c1) (FP.dadd u2 c2)) m1 m2 (FP.dsub h2 h1)))), (f2, fz_da cD 25 FM), (lf, .inr (2, [.double h1, .double m1, .double u1, .double c1])), (rt, .inr (2, [.double h2, .double m2, .double u2, .double c2]))]) (wr := [(f, .inr (0, [.ref s1, .ref s2, .ref f1, .ref f2, .ref lf, .ref rt])), (f1, fz_da cD 25 (vf_upd FH k (fz_bld (fz_lesC (FP.dsub u1 c1) (FP.dsub u2 c2)) (fz_gtrC (FP.dadd u1 c1) (FP.dadd u2 c2)) m1 m2 (FP.dsub h2 h1)))), (f2, fz_da cD 25 FM), (lf, .inr (2, [.double h1, .double m1, .double u1, .double c1]))]) (As := []) (rest := [.double (fz_mflux h1 m1 u1), .double (fz_gtrC (FP.dadd u1 c1) (FP.dadd u2 c2)), .double (fz_lesC (FP.dsub u1 c1) (FP.dsub u2 c2)), .int (nI k), .ref f2]) ⟨hx, hb, hml, hown, hts⟩ (c_X2_momentumFlux l D cD rt h2 m2 u2 c2 (hok.2.2.2.2.2.1.1) (hok.2.2.2.2.2.1.2.1) (hok.2.2.2.2.2.1.2.2.1) (hok.2.2.2.2.2.1.2.2.2)) (cwV 0 hts gX0_solveNarrow_X2_momentumFlux rfl rfl rfl (by decide +kernel) ⟨Nat.le_of_ble_eq_true rfl, Nat.le_of_ble_eq_true rfl⟩) hK hNW hP hD hS hA [4] [0, 1, 2, 3] [0, 1, 2, 3, 4] rfl rfl rfl rfl (by decide) rfl rfl (q0 := 4) (ci := 2) rfl rfl rfl rfl hl.1 rfl (Nat.le_of_ble_eq_true rfl) dX0_solveNarrow_129 ⟨Nat.zero_le _, Nat.zero_le _⟩ (fun H locs hP hD hS => ?_)
  refine lv_aload_n hx hb dX0_solveNarrow_132 rfl (lv_at hl 2 rfl) ?_
  refine va_get (D := D) (ci := 0) (v := .ref rt) (C := RX0) (T := TX0) (N := 6) hx hb hts hin_X0 hown hK hP 0 rfl rfl 5 (by decide) hw_fieldLink_RX0_31_FlowGrid_Faces_right_LFlowGrid_State (fun _ h9 => h9) rfl dX0_solveNarrow_133 ?_
  refine va_get (D := D) (ci := 2) (v := .double m2) (C := RX2) (T := TX2) (N := 4) hx hb hts hin_X2 hown hK hP 4 rfl rfl 1 (by decide) hw_fieldLink_RX0_98_FlowGrid_State_m_D (fun _ h9 => h9) rfl dX0_solveNarrow_136 ?_
  refine lv_aload_n hx hb dX0_solveNarrow_139 rfl (lv_at hl 2 rfl) ?_
  refine va_get (D := D) (ci := 0) (v := .ref lf) (C := RX0) (T := TX0) (N := 6) hx hb hts hin_X0 hown hK hP 0 rfl rfl 4 (by decide) hw_fieldLink_RX0_27_FlowGrid_Faces_left_LFlowGrid_State (fun _ h9 => h9) rfl dX0_solveNarrow_140 ?_
  refine va_get (D := D) (ci := 2) (v := .double m1) (C := RX2) (T := TX2) (N := 4) hx hb hts hin_X2 hown hK hP 3 rfl rfl 1 (by decide) hw_fieldLink_RX0_98_FlowGrid_State_m_D (fun _ h9 => h9) rfl dX0_solveNarrow_143 ?_
  refine lv_dsub hx hb dX0_solveNarrow_146 (hok.2.2.2.2.2.2.2.1) ?_
  refine fz_callS (ws' := [(f, .inr (0, [.ref s1, .ref s2, .ref f1, .ref f2, .ref lf, .ref rt])), (f1, fz_da cD 25 (vf_upd FH k (fz_bld (fz_lesC (FP.dsub u1 c1) (FP.dsub u2 c2)) (fz_gtrC (FP.dadd u1 c1) (FP.dadd u2 c2)) m1 m2 (FP.dsub h2 h1)))), (f2, fz_da cD 25 FM), (lf, .inr (2, [.double h1, .double m1, .double u1, .double c1])), (rt, .inr (2, [.double h2, .double m2, .double u2, .double c2]))]) (wr := [(f, .inr (0, [.ref s1, .ref s2, .ref f1, .ref f2, .ref lf, .ref rt])), (f1, fz_da cD 25 (vf_upd FH k (fz_bld (fz_lesC (FP.dsub u1 c1) (FP.dsub u2 c2)) (fz_gtrC (FP.dadd u1 c1) (FP.dadd u2 c2)) m1 m2 (FP.dsub h2 h1)))), (f2, fz_da cD 25 FM), (lf, .inr (2, [.double h1, .double m1, .double u1, .double c1])), (rt, .inr (2, [.double h2, .double m2, .double u2, .double c2]))]) (As := [.double (fz_lesC (FP.dsub u1 c1) (FP.dsub u2 c2)), .double (fz_gtrC (FP.dadd u1 c1) (FP.dadd u2 c2)), .double (fz_mflux h1 m1 u1), .double (fz_mflux h2 m2 u2), .double (FP.dsub m2 m1)]) (rest := [.int (nI k), .ref f2]) ⟨hx, hb, hml, hown, hts⟩ (c_X0_blend l D cD (fz_lesC (FP.dsub u1 c1) (FP.dsub u2 c2)) (fz_gtrC (FP.dadd u1 c1) (FP.dadd u2 c2)) (fz_mflux h1 m1 u1) (fz_mflux h2 m2 u2) (FP.dsub m2 m1) (hok.2.2.2.2.2.2.2.2.2)) (va_cwS 5 hts gX0_solveNarrow_X0_blend rfl rfl rfl (by decide +kernel) ⟨Nat.le_of_ble_eq_true rfl, Nat.le_of_ble_eq_true rfl⟩) hK hNW hP hD hS hA [] [0, 1, 2, 3, 4] [0, 1, 2, 3, 4] rfl rfl rfl rfl (by decide) rfl rfl rfl hl.1 rfl (Nat.le_of_ble_eq_true rfl) dX0_solveNarrow_147 ⟨Nat.zero_le _, Nat.zero_le _⟩ (fun H locs hP hD hS => ?_)
  refine fz_dast (i := k) hx hb hK hP hD hS 2 0 rfl rfl (by omega) (by decide) dX0_solveNarrow_150 (fun H locs hP hD hS => ?_)
  have hP : va_P D vwCl [(f, .inr (0, [.ref s1, .ref s2, .ref f1, .ref f2, .ref lf, .ref rt])), (f1, fz_da cD 25 (vf_upd FH k (fz_bld (fz_lesC (FP.dsub u1 c1) (FP.dsub u2 c2)) (fz_gtrC (FP.dadd u1 c1) (FP.dadd u2 c2)) m1 m2 (FP.dsub h2 h1)))), (f2, fz_da cD 25 (vf_upd FM k (fz_bld (fz_lesC (FP.dsub u1 c1) (FP.dsub u2 c2)) (fz_gtrC (FP.dadd u1 c1) (FP.dadd u2 c2)) (fz_mflux h1 m1 u1) (fz_mflux h2 m2 u2) (FP.dsub m2 m1)))), (lf, .inr (2, [.double h1, .double m1, .double u1, .double c1])), (rt, .inr (2, [.double h2, .double m2, .double u2, .double c2]))] H := hP
  have hD : va_D A [(f, .inr (0, [.ref s1, .ref s2, .ref f1, .ref f2, .ref lf, .ref rt])), (f1, fz_da cD 25 (vf_upd FH k (fz_bld (fz_lesC (FP.dsub u1 c1) (FP.dsub u2 c2)) (fz_gtrC (FP.dadd u1 c1) (FP.dadd u2 c2)) m1 m2 (FP.dsub h2 h1)))), (f2, fz_da cD 25 (vf_upd FM k (fz_bld (fz_lesC (FP.dsub u1 c1) (FP.dsub u2 c2)) (fz_gtrC (FP.dadd u1 c1) (FP.dadd u2 c2)) (fz_mflux h1 m1 u1) (fz_mflux h2 m2 u2) (FP.dsub m2 m1)))), (lf, .inr (2, [.double h1, .double m1, .double u1, .double c1])), (rt, .inr (2, [.double h2, .double m2, .double u2, .double c2]))] := hD
  exact fz_vret hx hb hr hlocks (rfl) hP hK hD hS dX0_solveNarrow_151
end
section
/-! FlowGrid$Faces.measure -/
def fz_sh (g : Nat → UInt64) : Nat → UInt64 := fun q => g (q - 1)
theorem fz_Lq {n k : Nat} (h : k ≤ n) (d g s : Nat → UInt64) : fz_L d (fz_pre 1 (n + 2) g s) k = fz_L d (fz_sh g) k := by
  unfold fz_L; rw [fz_pre_in (lo := 1) (j := k) g s (by omega)]; rfl
theorem fz_Rq {n k : Nat} (h : k ≤ n) (d g s : Nat → UInt64) : fz_R d (fz_pre 1 (n + 2) g s) k = fz_R d (fz_sh g) k := by
  unfold fz_R; rw [show k + 2 = (k + 1) + 1 from rfl, fz_pre_in (lo := 1) (j := k + 1) g s (by omega)]; rfl
theorem fz_gsq {n k : Nat} (h : k ≤ n) {d m g g2 s s2 : Nat → UInt64} (ok : fz_gsOk d m (fz_sh g) (fz_sh g2) k) : fz_gsOk d m (fz_pre 1 (n + 2) g s) (fz_pre 1 (n + 2) g2 s2) k := by
  unfold fz_gsOk
  rw [fz_Lq h d g s, fz_Lq h m g2 s2, fz_Rq h d g s, fz_Rq h m g2 s2, show k + 2 = (k + 1) + 1 from rfl, fz_pre_in (lo := 1) (j := k) g s (by omega), fz_pre_in (lo := 1) (j := k) g2 s2 (by omega), fz_pre_in (lo := 1) (j := k + 1) g s (by omega), fz_pre_in (lo := 1) (j := k + 1) g2 s2 (by omega)]
  exact ok
abbrev fz_SH (lim : Nat) (d : Nat → UInt64) : Nat → UInt64 := fz_sh (fz_sHg lim d)
abbrev fz_SM (lim : Nat) (d m : Nat → UInt64) : Nat → UInt64 := fz_sh (fz_sMg lim d m)
def fz_FHi (lim sol : Nat) (d m : Nat → UInt64) (k : Nat) : UInt64 := fz_FHg sol d m (fz_SH lim d) (fz_SM lim d m) k
def fz_FMi (lim sol : Nat) (d m : Nat → UInt64) (k : Nat) : UInt64 := fz_FMg sol d m (fz_SH lim d) (fz_SM lim d m) k
def fz_msOk (lim sol n : Nat) (d m : Nat → UInt64) : Prop := fz_fsOk lim d m n ∧ ∀ k, k ≤ n → fz_gsOk d m (fz_SH lim d) (fz_SM lim d m) k ∧ fz_fxOk sol (fz_L d (fz_SH lim d) k) (fz_L m (fz_SM lim d m) k) (fz_R d (fz_SH lim d) k) (fz_R m (fz_SM lim d m) k)
theorem fz_FHi0 (lim : Nat) (d m : Nat → UInt64) (k : Nat) : fz_FHi lim 0 d m k = fz_brd (fz_sB (FP.ddiv (fz_L m (fz_SM lim d m) k) (fz_L d (fz_SH lim d) k)) (fz_root (fz_L d (fz_SH lim d) k)) (FP.ddiv (fz_R m (fz_SM lim d m) k) (fz_R d (fz_SH lim d) k)) (fz_root (fz_R d (fz_SH lim d) k))) (fz_L m (fz_SM lim d m) k) (fz_R m (fz_SM lim d m) k) (fz_L d (fz_SH lim d) k) (fz_R d (fz_SH lim d) k) := by
  unfold fz_FHi fz_FHg fz_fluxH; rw [if_neg (by decide)]
theorem fz_FMi0 (lim : Nat) (d m : Nat → UInt64) (k : Nat) : fz_FMi lim 0 d m k = fz_brd (fz_sB (FP.ddiv (fz_L m (fz_SM lim d m) k) (fz_L d (fz_SH lim d) k)) (fz_root (fz_L d (fz_SH lim d) k)) (FP.ddiv (fz_R m (fz_SM lim d m) k) (fz_R d (fz_SH lim d) k)) (fz_root (fz_R d (fz_SH lim d) k))) (fz_mflux (fz_L d (fz_SH lim d) k) (fz_L m (fz_SM lim d m) k) (FP.ddiv (fz_L m (fz_SM lim d m) k) (fz_L d (fz_SH lim d) k))) (fz_mflux (fz_R d (fz_SH lim d) k) (fz_R m (fz_SM lim d m) k) (FP.ddiv (fz_R m (fz_SM lim d m) k) (fz_R d (fz_SH lim d) k))) (fz_L m (fz_SM lim d m) k) (fz_R m (fz_SM lim d m) k) := by
  unfold fz_FMi fz_FMg fz_fluxM; rw [if_neg (by decide)]
theorem fz_FHi1 (lim : Nat) (d m : Nat → UInt64) (k : Nat) : fz_FHi lim 1 d m k = fz_bld (fz_xN (FP.ddiv (fz_L m (fz_SM lim d m) k) (fz_L d (fz_SH lim d) k)) (fz_root (fz_L d (fz_SH lim d) k)) (FP.ddiv (fz_R m (fz_SM lim d m) k) (fz_R d (fz_SH lim d) k)) (fz_root (fz_R d (fz_SH lim d) k))) (fz_yN (FP.ddiv (fz_L m (fz_SM lim d m) k) (fz_L d (fz_SH lim d) k)) (fz_root (fz_L d (fz_SH lim d) k)) (FP.ddiv (fz_R m (fz_SM lim d m) k) (fz_R d (fz_SH lim d) k)) (fz_root (fz_R d (fz_SH lim d) k))) (fz_L m (fz_SM lim d m) k) (fz_R m (fz_SM lim d m) k) (FP.dsub (fz_R d (fz_SH lim d) k) (fz_L d (fz_SH lim d) k)) := by
  unfold fz_FHi fz_FHg fz_fluxH; rw [if_pos (by decide)]
theorem fz_FMi1 (lim : Nat) (d m : Nat → UInt64) (k : Nat) : fz_FMi lim 1 d m k = fz_bld (fz_xN (FP.ddiv (fz_L m (fz_SM lim d m) k) (fz_L d (fz_SH lim d) k)) (fz_root (fz_L d (fz_SH lim d) k)) (FP.ddiv (fz_R m (fz_SM lim d m) k) (fz_R d (fz_SH lim d) k)) (fz_root (fz_R d (fz_SH lim d) k))) (fz_yN (FP.ddiv (fz_L m (fz_SM lim d m) k) (fz_L d (fz_SH lim d) k)) (fz_root (fz_L d (fz_SH lim d) k)) (FP.ddiv (fz_R m (fz_SM lim d m) k) (fz_R d (fz_SH lim d) k)) (fz_root (fz_R d (fz_SH lim d) k))) (fz_mflux (fz_L d (fz_SH lim d) k) (fz_L m (fz_SM lim d m) k) (FP.ddiv (fz_L m (fz_SM lim d m) k) (fz_L d (fz_SH lim d) k))) (fz_mflux (fz_R d (fz_SH lim d) k) (fz_R m (fz_SM lim d m) k) (FP.ddiv (fz_R m (fz_SM lim d m) k) (fz_R d (fz_SH lim d) k))) (FP.dsub (fz_R m (fz_SM lim d m) k) (fz_L m (fz_SM lim d m) k)) := by
  unfold fz_FMi fz_FMg fz_fluxM; rw [if_pos (by decide)]

set_option maxHeartbeats 4000000 in
set_option maxRecDepth 100000 in
theorem c_X0_measure0 (l : Launch) (D : va_G) (cD : ClassId) (r rd rm n : Nat) (dd mm : Nat → UInt64) (f s1 s2 f1 f2 lf rt lim : Nat) (sH sM FH FM : Nat → UInt64) (a0 a1 a2 a3 b0 b1 b2 b3 : UInt64) (hn : n ≤ 24) (hlim : lim ≤ 3) (hok : fz_msOk lim 0 n dd mm) : fz_C l D [(cD, .double)] yX0_measure wsX0_measure ({ frames := 3, cells := 0, slots := 0, locals := 90 }) [.ref f, .ref r, .int (nI lim), .int (nI 0)] [(f, .inr (0, [.ref s1, .ref s2, .ref f1, .ref f2, .ref lf, .ref rt])), (s1, fz_da cD 28 sH), (s2, fz_da cD 28 sM), (f1, fz_da cD 25 FH), (f2, fz_da cD 25 FM), (lf, .inr (2, [.double a0, .double a1, .double a2, .double a3])), (rt, .inr (2, [.double b0, .double b1, .double b2, .double b3])), (r, .inr (1, [.ref rd, .ref rm, .int (nI n)])), (rd, fz_da cD 28 dd), (rm, fz_da cD 28 mm)] [(f, .inr (0, [.ref s1, .ref s2, .ref f1, .ref f2, .ref lf, .ref rt])), (s1, fz_da cD 28 (fz_pre 1 (n + 2) (fz_sHg lim dd) sH)), (s2, fz_da cD 28 (fz_pre 1 (n + 2) (fz_sMg lim dd mm) sM)), (f1, fz_da cD 25 (fz_pre 0 (n + 1) (fz_FHi lim 0 dd mm) FH)), (f2, fz_da cD 25 (fz_pre 0 (n + 1) (fz_FMi lim 0 dd mm) FM)), (lf, .inr (2, [.double (fz_pk a0 (fz_L dd (fz_SH lim dd)) (n + 1)), .double (fz_pk a1 (fz_L mm (fz_SM lim dd mm)) (n + 1)), .double (fz_pk a2 (fun j => FP.ddiv (fz_L mm (fz_SM lim dd mm) j) (fz_L dd (fz_SH lim dd) j)) (n + 1)), .double (fz_pk a3 (fun j => fz_root (fz_L dd (fz_SH lim dd) j)) (n + 1))])), (rt, .inr (2, [.double (fz_pk b0 (fz_R dd (fz_SH lim dd)) (n + 1)), .double (fz_pk b1 (fz_R mm (fz_SM lim dd mm)) (n + 1)), .double (fz_pk b2 (fun j => FP.ddiv (fz_R mm (fz_SM lim dd mm) j) (fz_R dd (fz_SH lim dd) j)) (n + 1)), .double (fz_pk b3 (fun j => fz_root (fz_R dd (fz_SH lim dd) j)) (n + 1))])), (r, .inr (1, [.ref rd, .ref rm, .int (nI n)])), (rd, fz_da cD 28 dd), (rm, fz_da cD 28 mm)] (none) := by
  refine fz_start (cc := cX0_measure) (maxL := 5) (ret := none) (by decide) rfl (Nat.le_of_ble_eq_true rfl) ?_
  intro p e s m below meth c A hx hb hr hlocks hml hown hts hK hA hNW H locs hP hD hS ls hl
  have hl : lv_has ls 5 [(0, .ref f), (1, .ref r), (2, .int (nI lim)), (3, .int (nI 0))] := hl
  have hown : s.vm.findClass RX0 = some m.cls := hown
  have hw_fieldLink_RX0_38_FlowGrid_Row_size_I := hts (.fieldLink RX0 38 "FlowGrid$Row" "size" "I") (by decide +kernel)
  have hin_X1 : ∀ w ∈ u_ws RX1 TX1 3, w ∈ wsX0_measure := by decide +kernel
  refine lv_aload_n hx hb dX0_measure_0 rfl (lv_at hl 0 rfl) ?_
  refine lv_aload_n hx hb dX0_measure_1 rfl (lv_at hl 1 rfl) ?_
  refine lv_iload_n hx hb dX0_measure_2 rfl (lv_at hl 2 rfl) ?_
  refine fz_callV (ws' := [(f, .inr (0, [.ref s1, .ref s2, .ref f1, .ref f2, .ref lf, .ref rt])), (s1, fz_da cD 28 (fz_pre 1 (n + 2) (fz_sHg lim dd) sH)), (s2, fz_da cD 28 (fz_pre 1 (n + 2) (fz_sMg lim dd mm) sM)), (f1, fz_da cD 25 FH), (f2, fz_da cD 25 FM), (lf, .inr (2, [.double a0, .double a1, .double a2, .double a3])), (rt, .inr (2, [.double b0, .double b1, .double b2, .double b3])), (r, .inr (1, [.ref rd, .ref rm, .int (nI n)])), (rd, fz_da cD 28 dd), (rm, fz_da cD 28 mm)]) (wr := [(f1, fz_da cD 25 FH), (f2, fz_da cD 25 FM), (lf, .inr (2, [.double a0, .double a1, .double a2, .double a3])), (rt, .inr (2, [.double b0, .double b1, .double b2, .double b3]))]) (As := [.ref r, .int (nI lim)]) (rest := []) ⟨hx, hb, hml, hown, hts⟩ (c_X0_fillSlopes l D cD r rd rm n dd mm f s1 s2 f1 f2 lf rt lim sH sM (by omega) hlim (hok.1)) (cwV 2 hts gX0_measure_X0_fillSlopes rfl rfl rfl (by decide +kernel) ⟨Nat.le_of_ble_eq_true rfl, Nat.le_of_ble_eq_true rfl⟩) hK hNW hP hD hS hA [0, 1, 2, 7, 8, 9] [3, 4, 5, 6] [4, 5, 6, 0, 1, 2, 3, 7, 8, 9] rfl rfl rfl rfl (by decide) rfl rfl (q0 := 0) (ci := 0) rfl rfl rfl rfl hl.1 rfl (Nat.le_of_ble_eq_true rfl) dX0_measure_3 ⟨Nat.zero_le _, Nat.zero_le _⟩ (fun H locs hP hD hS => ?_)
  refine lv_iconst (v := nI 0) hx hb dX0_measure_6 (by decide) ?_
  refine lv_istore (lv' := [(4, .int (nI 0)), (0, .ref f), (1, .ref r), (2, .int (nI lim)), (3, .int (nI 0))]) hx hb dX0_measure_7 hl (by decide) rfl (fun ls hl => ?_)
  have loop9 : ∀ (it k : Nat), k ≤ n + 1 → n + 1 < k + it → ∀ (H : Heap) (locs : List Loc) (ls : Array Slot), va_P D vwCl [(f, .inr (0, [.ref s1, .ref s2, .ref f1, .ref f2, .ref lf, .ref rt])), (s1, fz_da cD 28 (fz_pre 1 (n + 2) (fz_sHg lim dd) sH)), (s2, fz_da cD 28 (fz_pre 1 (n + 2) (fz_sMg lim dd mm) sM)), (f1, fz_da cD 25 (fz_pre 0 k (fz_FHi lim 0 dd mm) FH)), (f2, fz_da cD 25 (fz_pre 0 k (fz_FMi lim 0 dd mm) FM)), (lf, .inr (2, [.double (fz_pk a0 (fz_L dd (fz_SH lim dd)) k), .double (fz_pk a1 (fz_L mm (fz_SM lim dd mm)) k), .double (fz_pk a2 (fun j => FP.ddiv (fz_L mm (fz_SM lim dd mm) j) (fz_L dd (fz_SH lim dd) j)) k), .double (fz_pk a3 (fun j => fz_root (fz_L dd (fz_SH lim dd) j)) k)])), (rt, .inr (2, [.double (fz_pk b0 (fz_R dd (fz_SH lim dd)) k), .double (fz_pk b1 (fz_R mm (fz_SM lim dd mm)) k), .double (fz_pk b2 (fun j => FP.ddiv (fz_R mm (fz_SM lim dd mm) j) (fz_R dd (fz_SH lim dd) j)) k), .double (fz_pk b3 (fun j => fz_root (fz_R dd (fz_SH lim dd) j)) k)])), (r, .inr (1, [.ref rd, .ref rm, .int (nI n)])), (rd, fz_da cD 28 dd), (rm, fz_da cD 28 mm)] H → va_D A [(f, .inr (0, [.ref s1, .ref s2, .ref f1, .ref f2, .ref lf, .ref rt])), (s1, fz_da cD 28 (fz_pre 1 (n + 2) (fz_sHg lim dd) sH)), (s2, fz_da cD 28 (fz_pre 1 (n + 2) (fz_sMg lim dd mm) sM)), (f1, fz_da cD 25 (fz_pre 0 k (fz_FHi lim 0 dd mm) FH)), (f2, fz_da cD 25 (fz_pre 0 k (fz_FMi lim 0 dd mm) FM)), (lf, .inr (2, [.double (fz_pk a0 (fz_L dd (fz_SH lim dd)) k), .double (fz_pk a1 (fz_L mm (fz_SM lim dd mm)) k), .double (fz_pk a2 (fun j => FP.ddiv (fz_L mm (fz_SM lim dd mm) j) (fz_L dd (fz_SH lim dd) j)) k), .double (fz_pk a3 (fun j => fz_root (fz_L dd (fz_SH lim dd) j)) k)])), (rt, .inr (2, [.double (fz_pk b0 (fz_R dd (fz_SH lim dd)) k), .double (fz_pk b1 (fz_R mm (fz_SM lim dd mm)) k), .double (fz_pk b2 (fun j => FP.ddiv (fz_R mm (fz_SM lim dd mm) j) (fz_R dd (fz_SH lim dd) j)) k), .double (fz_pk b3 (fun j => fz_root (fz_R dd (fz_SH lim dd) j)) k)])), (r, .inr (1, [.ref rd, .ref rm, .int (nI n)])), (rd, fz_da cD 28 dd), (rm, fz_da cD 28 mm)] → va_S A s.heap H locs → lv_has ls 5 [(0, .ref f), (1, .ref r), (2, .int (nI lim)), (3, .int (nI 0)), (4, .int (nI k))] → W p l e ({ frames := 3, cells := 0, slots := 0, locals := 90 }) s m ([.ref f, .ref r, .int (nI lim), .int (nI 0)] : List Value).toArray below meth c H locs 0 0 (MQ below (fz_O D [(cD, .double)] [(f, .inr (0, [.ref s1, .ref s2, .ref f1, .ref f2, .ref lf, .ref rt])), (s1, fz_da cD 28 (fz_pre 1 (n + 2) (fz_sHg lim dd) sH)), (s2, fz_da cD 28 (fz_pre 1 (n + 2) (fz_sMg lim dd mm) sM)), (f1, fz_da cD 25 (fz_pre 0 (n + 1) (fz_FHi lim 0 dd mm) FH)), (f2, fz_da cD 25 (fz_pre 0 (n + 1) (fz_FMi lim 0 dd mm) FM)), (lf, .inr (2, [.double (fz_pk a0 (fz_L dd (fz_SH lim dd)) (n + 1)), .double (fz_pk a1 (fz_L mm (fz_SM lim dd mm)) (n + 1)), .double (fz_pk a2 (fun j => FP.ddiv (fz_L mm (fz_SM lim dd mm) j) (fz_L dd (fz_SH lim dd) j)) (n + 1)), .double (fz_pk a3 (fun j => fz_root (fz_L dd (fz_SH lim dd) j)) (n + 1))])), (rt, .inr (2, [.double (fz_pk b0 (fz_R dd (fz_SH lim dd)) (n + 1)), .double (fz_pk b1 (fz_R mm (fz_SM lim dd mm)) (n + 1)), .double (fz_pk b2 (fun j => FP.ddiv (fz_R mm (fz_SM lim dd mm) j) (fz_R dd (fz_SH lim dd) j)) (n + 1)), .double (fz_pk b3 (fun j => fz_root (fz_R dd (fz_SH lim dd) j)) (n + 1))])), (r, .inr (1, [.ref rd, .ref rm, .int (nI n)])), (rd, fz_da cD 28 dd), (rm, fz_da cD 28 mm)] (none) A) ([.ref f, .ref r, .int (nI lim), .int (nI 0)] : List Value).toArray s 0 0 A) (F0 m 9 ls []) := by
    intro it
    induction it with
    | zero => intro k h1 h2; exact absurd h2 (by omega)
    | succ it ih =>
      intro k hkk hnk H locs ls hP hD hS hl
      refine lv_iload hx hb dX0_measure_9 (lv_at hl 4 rfl) ?_
      refine lv_aload_n hx hb dX0_measure_11 rfl (lv_at hl 1 rfl) ?_
      refine va_get (D := D) (ci := 1) (v := .int (nI n)) (C := RX1) (T := TX1) (N := 3) hx hb hts hin_X1 hown hK hP 7 rfl rfl 2 (by decide) hw_fieldLink_RX0_38_FlowGrid_Row_size_I (fun _ h9 => h9) rfl dX0_measure_12 ?_
      refine fz_icmp_gtN (tgt := 51) hx hb (by omega) (by omega) dX0_measure_15 (by decide) (fun c15 => ?_) (fun c15 => ?_)
      · have hkz : n + 1 = k := by omega
        subst hkz
        exact fz_vret hx hb hr hlocks (rfl) hP hK hD hS dX0_measure_51
      · refine lv_aload_n hx hb dX0_measure_18 rfl (lv_at hl 0 rfl) ?_
        refine lv_aload_n hx hb dX0_measure_19 rfl (lv_at hl 1 rfl) ?_
        refine lv_iload hx hb dX0_measure_20 (lv_at hl 4 rfl) ?_
        refine fz_callV (ws' := [(f, .inr (0, [.ref s1, .ref s2, .ref f1, .ref f2, .ref lf, .ref rt])), (s1, fz_da cD 28 (fz_pre 1 (n + 2) (fz_sHg lim dd) sH)), (s2, fz_da cD 28 (fz_pre 1 (n + 2) (fz_sMg lim dd mm) sM)), (f1, fz_da cD 25 (fz_pre 0 k (fz_FHi lim 0 dd mm) FH)), (f2, fz_da cD 25 (fz_pre 0 k (fz_FMi lim 0 dd mm) FM)), (lf, .inr (2, [.double (fz_L dd (fz_pre 1 (n + 2) (fz_sHg lim dd) sH) k), .double (fz_L mm (fz_pre 1 (n + 2) (fz_sMg lim dd mm) sM) k), .double (FP.ddiv (fz_L mm (fz_pre 1 (n + 2) (fz_sMg lim dd mm) sM) k) (fz_L dd (fz_pre 1 (n + 2) (fz_sHg lim dd) sH) k)), .double (fz_root (fz_L dd (fz_pre 1 (n + 2) (fz_sHg lim dd) sH) k))])), (rt, .inr (2, [.double (fz_R dd (fz_pre 1 (n + 2) (fz_sHg lim dd) sH) k), .double (fz_R mm (fz_pre 1 (n + 2) (fz_sMg lim dd mm) sM) k), .double (FP.ddiv (fz_R mm (fz_pre 1 (n + 2) (fz_sMg lim dd mm) sM) k) (fz_R dd (fz_pre 1 (n + 2) (fz_sHg lim dd) sH) k)), .double (fz_root (fz_R dd (fz_pre 1 (n + 2) (fz_sHg lim dd) sH) k))])), (r, .inr (1, [.ref rd, .ref rm, .int (nI n)])), (rd, fz_da cD 28 dd), (rm, fz_da cD 28 mm)]) (wr := [(f1, fz_da cD 25 (fz_pre 0 k (fz_FHi lim 0 dd mm) FH)), (f2, fz_da cD 25 (fz_pre 0 k (fz_FMi lim 0 dd mm) FM))]) (As := [.ref r, .int (nI k)]) (rest := []) ⟨hx, hb, hml, hown, hts⟩ (c_X0_guess l D cD r rd rm n dd mm f s1 s2 f1 f2 lf rt k (fz_pre 1 (n + 2) (fz_sHg lim dd) sH) (fz_pre 1 (n + 2) (fz_sMg lim dd mm) sM) (fz_pk a0 (fz_L dd (fz_SH lim dd)) k) (fz_pk a1 (fz_L mm (fz_SM lim dd mm)) k) (fz_pk a2 (fun j => FP.ddiv (fz_L mm (fz_SM lim dd mm) j) (fz_L dd (fz_SH lim dd) j)) k) (fz_pk a3 (fun j => fz_root (fz_L dd (fz_SH lim dd) j)) k) (fz_pk b0 (fz_R dd (fz_SH lim dd)) k) (fz_pk b1 (fz_R mm (fz_SM lim dd mm)) k) (fz_pk b2 (fun j => FP.ddiv (fz_R mm (fz_SM lim dd mm) j) (fz_R dd (fz_SH lim dd) j)) k) (fz_pk b3 (fun j => fz_root (fz_R dd (fz_SH lim dd) j)) k) (by omega) (fz_gsq (by omega) (hok.2 k (by omega)).1)) (cwV 2 hts gX0_measure_X0_guess rfl rfl rfl (by decide +kernel) ⟨Nat.le_of_ble_eq_true rfl, Nat.le_of_ble_eq_true rfl⟩) hK hNW hP hD hS hA [0, 1, 2, 5, 6, 7, 8, 9] [3, 4] [2, 3, 4, 0, 1, 5, 6, 7, 8, 9] rfl rfl rfl rfl (by decide) rfl rfl (q0 := 0) (ci := 0) rfl rfl rfl rfl hl.1 rfl (Nat.le_of_ble_eq_true rfl) dX0_measure_22 ⟨Nat.zero_le _, Nat.zero_le _⟩ (fun H locs hP hD hS => ?_)
        rw [fz_Lq (n := n) (k := k) (by omega) dd, fz_Lq (n := n) (k := k) (by omega) mm, fz_Rq (n := n) (k := k) (by omega) dd, fz_Rq (n := n) (k := k) (by omega) mm] at hP hD
        have hP : va_P D vwCl [(f, .inr (0, [.ref s1, .ref s2, .ref f1, .ref f2, .ref lf, .ref rt])), (s1, fz_da cD 28 (fz_pre 1 (n + 2) (fz_sHg lim dd) sH)), (s2, fz_da cD 28 (fz_pre 1 (n + 2) (fz_sMg lim dd mm) sM)), (f1, fz_da cD 25 (fz_pre 0 k (fz_FHi lim 0 dd mm) FH)), (f2, fz_da cD 25 (fz_pre 0 k (fz_FMi lim 0 dd mm) FM)), (lf, .inr (2, [.double (fz_L dd (fz_SH lim dd) k), .double (fz_L mm (fz_SM lim dd mm) k), .double (FP.ddiv (fz_L mm (fz_SM lim dd mm) k) (fz_L dd (fz_SH lim dd) k)), .double (fz_root (fz_L dd (fz_SH lim dd) k))])), (rt, .inr (2, [.double (fz_R dd (fz_SH lim dd) k), .double (fz_R mm (fz_SM lim dd mm) k), .double (FP.ddiv (fz_R mm (fz_SM lim dd mm) k) (fz_R dd (fz_SH lim dd) k)), .double (fz_root (fz_R dd (fz_SH lim dd) k))])), (r, .inr (1, [.ref rd, .ref rm, .int (nI n)])), (rd, fz_da cD 28 dd), (rm, fz_da cD 28 mm)] H := hP
        have hD : va_D A [(f, .inr (0, [.ref s1, .ref s2, .ref f1, .ref f2, .ref lf, .ref rt])), (s1, fz_da cD 28 (fz_pre 1 (n + 2) (fz_sHg lim dd) sH)), (s2, fz_da cD 28 (fz_pre 1 (n + 2) (fz_sMg lim dd mm) sM)), (f1, fz_da cD 25 (fz_pre 0 k (fz_FHi lim 0 dd mm) FH)), (f2, fz_da cD 25 (fz_pre 0 k (fz_FMi lim 0 dd mm) FM)), (lf, .inr (2, [.double (fz_L dd (fz_SH lim dd) k), .double (fz_L mm (fz_SM lim dd mm) k), .double (FP.ddiv (fz_L mm (fz_SM lim dd mm) k) (fz_L dd (fz_SH lim dd) k)), .double (fz_root (fz_L dd (fz_SH lim dd) k))])), (rt, .inr (2, [.double (fz_R dd (fz_SH lim dd) k), .double (fz_R mm (fz_SM lim dd mm) k), .double (FP.ddiv (fz_R mm (fz_SM lim dd mm) k) (fz_R dd (fz_SH lim dd) k)), .double (fz_root (fz_R dd (fz_SH lim dd) k))])), (r, .inr (1, [.ref rd, .ref rm, .int (nI n)])), (rd, fz_da cD 28 dd), (rm, fz_da cD 28 mm)] := hD
        refine lv_iload_n hx hb dX0_measure_25 rfl (lv_at hl 3 rfl) ?_
        refine lv_iconst (v := nI 1) hx hb dX0_measure_26 (by decide) ?_
        refine fz_icmp_neN (tgt := 39) hx hb (by omega) (by omega) dX0_measure_27 (by decide) (fun c27 => ?_) (fun c27 => absurd c27 (by decide))
        refine lv_aload_n hx hb dX0_measure_39 rfl (lv_at hl 0 rfl) ?_
        refine lv_iload hx hb dX0_measure_40 (lv_at hl 4 rfl) ?_
        refine fz_callV (ws' := [(f, .inr (0, [.ref s1, .ref s2, .ref f1, .ref f2, .ref lf, .ref rt])), (s1, fz_da cD 28 (fz_pre 1 (n + 2) (fz_sHg lim dd) sH)), (s2, fz_da cD 28 (fz_pre 1 (n + 2) (fz_sMg lim dd mm) sM)), (f1, fz_da cD 25 (vf_upd (fz_pre 0 k (fz_FHi lim 0 dd mm) FH) k (fz_brd (fz_sB (FP.ddiv (fz_L mm (fz_SM lim dd mm) k) (fz_L dd (fz_SH lim dd) k)) (fz_root (fz_L dd (fz_SH lim dd) k)) (FP.ddiv (fz_R mm (fz_SM lim dd mm) k) (fz_R dd (fz_SH lim dd) k)) (fz_root (fz_R dd (fz_SH lim dd) k))) (fz_L mm (fz_SM lim dd mm) k) (fz_R mm (fz_SM lim dd mm) k) (fz_L dd (fz_SH lim dd) k) (fz_R dd (fz_SH lim dd) k)))), (f2, fz_da cD 25 (vf_upd (fz_pre 0 k (fz_FMi lim 0 dd mm) FM) k (fz_brd (fz_sB (FP.ddiv (fz_L mm (fz_SM lim dd mm) k) (fz_L dd (fz_SH lim dd) k)) (fz_root (fz_L dd (fz_SH lim dd) k)) (FP.ddiv (fz_R mm (fz_SM lim dd mm) k) (fz_R dd (fz_SH lim dd) k)) (fz_root (fz_R dd (fz_SH lim dd) k))) (fz_mflux (fz_L dd (fz_SH lim dd) k) (fz_L mm (fz_SM lim dd mm) k) (FP.ddiv (fz_L mm (fz_SM lim dd mm) k) (fz_L dd (fz_SH lim dd) k))) (fz_mflux (fz_R dd (fz_SH lim dd) k) (fz_R mm (fz_SM lim dd mm) k) (FP.ddiv (fz_R mm (fz_SM lim dd mm) k) (fz_R dd (fz_SH lim dd) k))) (fz_L mm (fz_SM lim dd mm) k) (fz_R mm (fz_SM lim dd mm) k)))), (lf, .inr (2, [.double (fz_L dd (fz_SH lim dd) k), .double (fz_L mm (fz_SM lim dd mm) k), .double (FP.ddiv (fz_L mm (fz_SM lim dd mm) k) (fz_L dd (fz_SH lim dd) k)), .double (fz_root (fz_L dd (fz_SH lim dd) k))])), (rt, .inr (2, [.double (fz_R dd (fz_SH lim dd) k), .double (fz_R mm (fz_SM lim dd mm) k), .double (FP.ddiv (fz_R mm (fz_SM lim dd mm) k) (fz_R dd (fz_SH lim dd) k)), .double (fz_root (fz_R dd (fz_SH lim dd) k))])), (r, .inr (1, [.ref rd, .ref rm, .int (nI n)])), (rd, fz_da cD 28 dd), (rm, fz_da cD 28 mm)]) (wr := [(s1, fz_da cD 28 (fz_pre 1 (n + 2) (fz_sHg lim dd) sH)), (s2, fz_da cD 28 (fz_pre 1 (n + 2) (fz_sMg lim dd mm) sM)), (r, .inr (1, [.ref rd, .ref rm, .int (nI n)])), (rd, fz_da cD 28 dd), (rm, fz_da cD 28 mm)]) (As := [.int (nI k)]) (rest := []) ⟨hx, hb, hml, hown, hts⟩ (c_X0_solveBroad l D cD f s1 s2 f1 f2 lf rt k (fz_pre 0 k (fz_FHi lim 0 dd mm) FH) (fz_pre 0 k (fz_FMi lim 0 dd mm) FM) (fz_L dd (fz_SH lim dd) k) (fz_L mm (fz_SM lim dd mm) k) (FP.ddiv (fz_L mm (fz_SM lim dd mm) k) (fz_L dd (fz_SH lim dd) k)) (fz_root (fz_L dd (fz_SH lim dd) k)) (fz_R dd (fz_SH lim dd) k) (fz_R mm (fz_SM lim dd mm) k) (FP.ddiv (fz_R mm (fz_SM lim dd mm) k) (fz_R dd (fz_SH lim dd) k)) (fz_root (fz_R dd (fz_SH lim dd) k)) (by omega) ((hok.2 k (by omega)).2.2 (by decide))) (cwV 1 hts gX0_measure_X0_solveBroad rfl rfl rfl (by decide +kernel) ⟨Nat.le_of_ble_eq_true rfl, Nat.le_of_ble_eq_true rfl⟩) hK hNW hP hD hS hA [0, 3, 4, 5, 6] [1, 2, 7, 8, 9] [5, 0, 1, 6, 7, 8, 9, 2, 3, 4] rfl rfl rfl rfl (by decide) rfl rfl (q0 := 0) (ci := 0) rfl rfl rfl rfl hl.1 rfl (Nat.le_of_ble_eq_true rfl) dX0_measure_42 ⟨Nat.zero_le _, Nat.zero_le _⟩ (fun H locs hP hD hS => ?_)
        have hP : va_P D vwCl [(f, .inr (0, [.ref s1, .ref s2, .ref f1, .ref f2, .ref lf, .ref rt])), (s1, fz_da cD 28 (fz_pre 1 (n + 2) (fz_sHg lim dd) sH)), (s2, fz_da cD 28 (fz_pre 1 (n + 2) (fz_sMg lim dd mm) sM)), (f1, fz_da cD 25 (fz_pre 0 (k + 1) (fz_FHi lim 0 dd mm) FH)), (f2, fz_da cD 25 (vf_upd (fz_pre 0 k (fz_FMi lim 0 dd mm) FM) k (fz_brd (fz_sB (FP.ddiv (fz_L mm (fz_SM lim dd mm) k) (fz_L dd (fz_SH lim dd) k)) (fz_root (fz_L dd (fz_SH lim dd) k)) (FP.ddiv (fz_R mm (fz_SM lim dd mm) k) (fz_R dd (fz_SH lim dd) k)) (fz_root (fz_R dd (fz_SH lim dd) k))) (fz_mflux (fz_L dd (fz_SH lim dd) k) (fz_L mm (fz_SM lim dd mm) k) (FP.ddiv (fz_L mm (fz_SM lim dd mm) k) (fz_L dd (fz_SH lim dd) k))) (fz_mflux (fz_R dd (fz_SH lim dd) k) (fz_R mm (fz_SM lim dd mm) k) (FP.ddiv (fz_R mm (fz_SM lim dd mm) k) (fz_R dd (fz_SH lim dd) k))) (fz_L mm (fz_SM lim dd mm) k) (fz_R mm (fz_SM lim dd mm) k)))), (lf, .inr (2, [.double (fz_L dd (fz_SH lim dd) k), .double (fz_L mm (fz_SM lim dd mm) k), .double (FP.ddiv (fz_L mm (fz_SM lim dd mm) k) (fz_L dd (fz_SH lim dd) k)), .double (fz_root (fz_L dd (fz_SH lim dd) k))])), (rt, .inr (2, [.double (fz_R dd (fz_SH lim dd) k), .double (fz_R mm (fz_SM lim dd mm) k), .double (FP.ddiv (fz_R mm (fz_SM lim dd mm) k) (fz_R dd (fz_SH lim dd) k)), .double (fz_root (fz_R dd (fz_SH lim dd) k))])), (r, .inr (1, [.ref rd, .ref rm, .int (nI n)])), (rd, fz_da cD 28 dd), (rm, fz_da cD 28 mm)] H := by rw [← fz_pre_s 0 k (fz_FHi lim 0 dd mm) FH, fz_FHi0]; exact hP
        have hD : va_D A [(f, .inr (0, [.ref s1, .ref s2, .ref f1, .ref f2, .ref lf, .ref rt])), (s1, fz_da cD 28 (fz_pre 1 (n + 2) (fz_sHg lim dd) sH)), (s2, fz_da cD 28 (fz_pre 1 (n + 2) (fz_sMg lim dd mm) sM)), (f1, fz_da cD 25 (fz_pre 0 (k + 1) (fz_FHi lim 0 dd mm) FH)), (f2, fz_da cD 25 (vf_upd (fz_pre 0 k (fz_FMi lim 0 dd mm) FM) k (fz_brd (fz_sB (FP.ddiv (fz_L mm (fz_SM lim dd mm) k) (fz_L dd (fz_SH lim dd) k)) (fz_root (fz_L dd (fz_SH lim dd) k)) (FP.ddiv (fz_R mm (fz_SM lim dd mm) k) (fz_R dd (fz_SH lim dd) k)) (fz_root (fz_R dd (fz_SH lim dd) k))) (fz_mflux (fz_L dd (fz_SH lim dd) k) (fz_L mm (fz_SM lim dd mm) k) (FP.ddiv (fz_L mm (fz_SM lim dd mm) k) (fz_L dd (fz_SH lim dd) k))) (fz_mflux (fz_R dd (fz_SH lim dd) k) (fz_R mm (fz_SM lim dd mm) k) (FP.ddiv (fz_R mm (fz_SM lim dd mm) k) (fz_R dd (fz_SH lim dd) k))) (fz_L mm (fz_SM lim dd mm) k) (fz_R mm (fz_SM lim dd mm) k)))), (lf, .inr (2, [.double (fz_L dd (fz_SH lim dd) k), .double (fz_L mm (fz_SM lim dd mm) k), .double (FP.ddiv (fz_L mm (fz_SM lim dd mm) k) (fz_L dd (fz_SH lim dd) k)), .double (fz_root (fz_L dd (fz_SH lim dd) k))])), (rt, .inr (2, [.double (fz_R dd (fz_SH lim dd) k), .double (fz_R mm (fz_SM lim dd mm) k), .double (FP.ddiv (fz_R mm (fz_SM lim dd mm) k) (fz_R dd (fz_SH lim dd) k)), .double (fz_root (fz_R dd (fz_SH lim dd) k))])), (r, .inr (1, [.ref rd, .ref rm, .int (nI n)])), (rd, fz_da cD 28 dd), (rm, fz_da cD 28 mm)] := by rw [← fz_pre_s 0 k (fz_FHi lim 0 dd mm) FH, fz_FHi0]; exact hD
        have hP : va_P D vwCl [(f, .inr (0, [.ref s1, .ref s2, .ref f1, .ref f2, .ref lf, .ref rt])), (s1, fz_da cD 28 (fz_pre 1 (n + 2) (fz_sHg lim dd) sH)), (s2, fz_da cD 28 (fz_pre 1 (n + 2) (fz_sMg lim dd mm) sM)), (f1, fz_da cD 25 (fz_pre 0 (k + 1) (fz_FHi lim 0 dd mm) FH)), (f2, fz_da cD 25 (fz_pre 0 (k + 1) (fz_FMi lim 0 dd mm) FM)), (lf, .inr (2, [.double (fz_L dd (fz_SH lim dd) k), .double (fz_L mm (fz_SM lim dd mm) k), .double (FP.ddiv (fz_L mm (fz_SM lim dd mm) k) (fz_L dd (fz_SH lim dd) k)), .double (fz_root (fz_L dd (fz_SH lim dd) k))])), (rt, .inr (2, [.double (fz_R dd (fz_SH lim dd) k), .double (fz_R mm (fz_SM lim dd mm) k), .double (FP.ddiv (fz_R mm (fz_SM lim dd mm) k) (fz_R dd (fz_SH lim dd) k)), .double (fz_root (fz_R dd (fz_SH lim dd) k))])), (r, .inr (1, [.ref rd, .ref rm, .int (nI n)])), (rd, fz_da cD 28 dd), (rm, fz_da cD 28 mm)] H := by rw [← fz_pre_s 0 k (fz_FMi lim 0 dd mm) FM, fz_FMi0]; exact hP
        have hD : va_D A [(f, .inr (0, [.ref s1, .ref s2, .ref f1, .ref f2, .ref lf, .ref rt])), (s1, fz_da cD 28 (fz_pre 1 (n + 2) (fz_sHg lim dd) sH)), (s2, fz_da cD 28 (fz_pre 1 (n + 2) (fz_sMg lim dd mm) sM)), (f1, fz_da cD 25 (fz_pre 0 (k + 1) (fz_FHi lim 0 dd mm) FH)), (f2, fz_da cD 25 (fz_pre 0 (k + 1) (fz_FMi lim 0 dd mm) FM)), (lf, .inr (2, [.double (fz_L dd (fz_SH lim dd) k), .double (fz_L mm (fz_SM lim dd mm) k), .double (FP.ddiv (fz_L mm (fz_SM lim dd mm) k) (fz_L dd (fz_SH lim dd) k)), .double (fz_root (fz_L dd (fz_SH lim dd) k))])), (rt, .inr (2, [.double (fz_R dd (fz_SH lim dd) k), .double (fz_R mm (fz_SM lim dd mm) k), .double (FP.ddiv (fz_R mm (fz_SM lim dd mm) k) (fz_R dd (fz_SH lim dd) k)), .double (fz_root (fz_R dd (fz_SH lim dd) k))])), (r, .inr (1, [.ref rd, .ref rm, .int (nI n)])), (rd, fz_da cD 28 dd), (rm, fz_da cD 28 mm)] := by rw [← fz_pre_s 0 k (fz_FMi lim 0 dd mm) FM, fz_FMi0]; exact hD
        refine lv_iinc (v := nI (k + 1)) (lv' := [(4, .int (nI (k + 1))), (0, .ref f), (1, .ref r), (2, .int (nI lim)), (3, .int (nI 0))]) hx hb dX0_measure_45 hl (k := 4) rfl (nI_1 _) (by decide) rfl (fun ls hl => ?_)
        refine lv_goto (tgt := 9) hx hb dX0_measure_48 (by decide) ?_
        exact ih (k + 1) (by omega) (by omega) H locs ls (hP) (hD) hS (lv_sub hl [1, 2, 3, 4, 0] rfl)
  exact loop9 (n + 1 + 1) 0 (by omega) (by omega) H locs ls (by rw [fz_pre_0 0 (fz_FHi lim 0 dd mm) FH, fz_pre_0 0 (fz_FMi lim 0 dd mm) FM]; exact hP) (by rw [fz_pre_0 0 (fz_FHi lim 0 dd mm) FH, fz_pre_0 0 (fz_FMi lim 0 dd mm) FM]; exact hD) hS (lv_sub hl [1, 2, 3, 4, 0] rfl)

set_option maxHeartbeats 4000000 in
set_option maxRecDepth 100000 in
theorem c_X0_measure1 (l : Launch) (D : va_G) (cD : ClassId) (r rd rm n : Nat) (dd mm : Nat → UInt64) (f s1 s2 f1 f2 lf rt lim : Nat) (sH sM FH FM : Nat → UInt64) (a0 a1 a2 a3 b0 b1 b2 b3 : UInt64) (hn : n ≤ 24) (hlim : lim ≤ 3) (hok : fz_msOk lim 1 n dd mm) : fz_C l D [(cD, .double)] yX0_measure wsX0_measure ({ frames := 3, cells := 0, slots := 0, locals := 90 }) [.ref f, .ref r, .int (nI lim), .int (nI 1)] [(f, .inr (0, [.ref s1, .ref s2, .ref f1, .ref f2, .ref lf, .ref rt])), (s1, fz_da cD 28 sH), (s2, fz_da cD 28 sM), (f1, fz_da cD 25 FH), (f2, fz_da cD 25 FM), (lf, .inr (2, [.double a0, .double a1, .double a2, .double a3])), (rt, .inr (2, [.double b0, .double b1, .double b2, .double b3])), (r, .inr (1, [.ref rd, .ref rm, .int (nI n)])), (rd, fz_da cD 28 dd), (rm, fz_da cD 28 mm)] [(f, .inr (0, [.ref s1, .ref s2, .ref f1, .ref f2, .ref lf, .ref rt])), (s1, fz_da cD 28 (fz_pre 1 (n + 2) (fz_sHg lim dd) sH)), (s2, fz_da cD 28 (fz_pre 1 (n + 2) (fz_sMg lim dd mm) sM)), (f1, fz_da cD 25 (fz_pre 0 (n + 1) (fz_FHi lim 1 dd mm) FH)), (f2, fz_da cD 25 (fz_pre 0 (n + 1) (fz_FMi lim 1 dd mm) FM)), (lf, .inr (2, [.double (fz_pk a0 (fz_L dd (fz_SH lim dd)) (n + 1)), .double (fz_pk a1 (fz_L mm (fz_SM lim dd mm)) (n + 1)), .double (fz_pk a2 (fun j => FP.ddiv (fz_L mm (fz_SM lim dd mm) j) (fz_L dd (fz_SH lim dd) j)) (n + 1)), .double (fz_pk a3 (fun j => fz_root (fz_L dd (fz_SH lim dd) j)) (n + 1))])), (rt, .inr (2, [.double (fz_pk b0 (fz_R dd (fz_SH lim dd)) (n + 1)), .double (fz_pk b1 (fz_R mm (fz_SM lim dd mm)) (n + 1)), .double (fz_pk b2 (fun j => FP.ddiv (fz_R mm (fz_SM lim dd mm) j) (fz_R dd (fz_SH lim dd) j)) (n + 1)), .double (fz_pk b3 (fun j => fz_root (fz_R dd (fz_SH lim dd) j)) (n + 1))])), (r, .inr (1, [.ref rd, .ref rm, .int (nI n)])), (rd, fz_da cD 28 dd), (rm, fz_da cD 28 mm)] (none) := by
  refine fz_start (cc := cX0_measure) (maxL := 5) (ret := none) (by decide) rfl (Nat.le_of_ble_eq_true rfl) ?_
  intro p e s m below meth c A hx hb hr hlocks hml hown hts hK hA hNW H locs hP hD hS ls hl
  have hl : lv_has ls 5 [(0, .ref f), (1, .ref r), (2, .int (nI lim)), (3, .int (nI 1))] := hl
  have hown : s.vm.findClass RX0 = some m.cls := hown
  have hw_fieldLink_RX0_38_FlowGrid_Row_size_I := hts (.fieldLink RX0 38 "FlowGrid$Row" "size" "I") (by decide +kernel)
  have hin_X1 : ∀ w ∈ u_ws RX1 TX1 3, w ∈ wsX0_measure := by decide +kernel
  refine lv_aload_n hx hb dX0_measure_0 rfl (lv_at hl 0 rfl) ?_
  refine lv_aload_n hx hb dX0_measure_1 rfl (lv_at hl 1 rfl) ?_
  refine lv_iload_n hx hb dX0_measure_2 rfl (lv_at hl 2 rfl) ?_
  refine fz_callV (ws' := [(f, .inr (0, [.ref s1, .ref s2, .ref f1, .ref f2, .ref lf, .ref rt])), (s1, fz_da cD 28 (fz_pre 1 (n + 2) (fz_sHg lim dd) sH)), (s2, fz_da cD 28 (fz_pre 1 (n + 2) (fz_sMg lim dd mm) sM)), (f1, fz_da cD 25 FH), (f2, fz_da cD 25 FM), (lf, .inr (2, [.double a0, .double a1, .double a2, .double a3])), (rt, .inr (2, [.double b0, .double b1, .double b2, .double b3])), (r, .inr (1, [.ref rd, .ref rm, .int (nI n)])), (rd, fz_da cD 28 dd), (rm, fz_da cD 28 mm)]) (wr := [(f1, fz_da cD 25 FH), (f2, fz_da cD 25 FM), (lf, .inr (2, [.double a0, .double a1, .double a2, .double a3])), (rt, .inr (2, [.double b0, .double b1, .double b2, .double b3]))]) (As := [.ref r, .int (nI lim)]) (rest := []) ⟨hx, hb, hml, hown, hts⟩ (c_X0_fillSlopes l D cD r rd rm n dd mm f s1 s2 f1 f2 lf rt lim sH sM (by omega) hlim (hok.1)) (cwV 2 hts gX0_measure_X0_fillSlopes rfl rfl rfl (by decide +kernel) ⟨Nat.le_of_ble_eq_true rfl, Nat.le_of_ble_eq_true rfl⟩) hK hNW hP hD hS hA [0, 1, 2, 7, 8, 9] [3, 4, 5, 6] [4, 5, 6, 0, 1, 2, 3, 7, 8, 9] rfl rfl rfl rfl (by decide) rfl rfl (q0 := 0) (ci := 0) rfl rfl rfl rfl hl.1 rfl (Nat.le_of_ble_eq_true rfl) dX0_measure_3 ⟨Nat.zero_le _, Nat.zero_le _⟩ (fun H locs hP hD hS => ?_)
  refine lv_iconst (v := nI 0) hx hb dX0_measure_6 (by decide) ?_
  refine lv_istore (lv' := [(4, .int (nI 0)), (0, .ref f), (1, .ref r), (2, .int (nI lim)), (3, .int (nI 1))]) hx hb dX0_measure_7 hl (by decide) rfl (fun ls hl => ?_)
  have loop9 : ∀ (it k : Nat), k ≤ n + 1 → n + 1 < k + it → ∀ (H : Heap) (locs : List Loc) (ls : Array Slot), va_P D vwCl [(f, .inr (0, [.ref s1, .ref s2, .ref f1, .ref f2, .ref lf, .ref rt])), (s1, fz_da cD 28 (fz_pre 1 (n + 2) (fz_sHg lim dd) sH)), (s2, fz_da cD 28 (fz_pre 1 (n + 2) (fz_sMg lim dd mm) sM)), (f1, fz_da cD 25 (fz_pre 0 k (fz_FHi lim 1 dd mm) FH)), (f2, fz_da cD 25 (fz_pre 0 k (fz_FMi lim 1 dd mm) FM)), (lf, .inr (2, [.double (fz_pk a0 (fz_L dd (fz_SH lim dd)) k), .double (fz_pk a1 (fz_L mm (fz_SM lim dd mm)) k), .double (fz_pk a2 (fun j => FP.ddiv (fz_L mm (fz_SM lim dd mm) j) (fz_L dd (fz_SH lim dd) j)) k), .double (fz_pk a3 (fun j => fz_root (fz_L dd (fz_SH lim dd) j)) k)])), (rt, .inr (2, [.double (fz_pk b0 (fz_R dd (fz_SH lim dd)) k), .double (fz_pk b1 (fz_R mm (fz_SM lim dd mm)) k), .double (fz_pk b2 (fun j => FP.ddiv (fz_R mm (fz_SM lim dd mm) j) (fz_R dd (fz_SH lim dd) j)) k), .double (fz_pk b3 (fun j => fz_root (fz_R dd (fz_SH lim dd) j)) k)])), (r, .inr (1, [.ref rd, .ref rm, .int (nI n)])), (rd, fz_da cD 28 dd), (rm, fz_da cD 28 mm)] H → va_D A [(f, .inr (0, [.ref s1, .ref s2, .ref f1, .ref f2, .ref lf, .ref rt])), (s1, fz_da cD 28 (fz_pre 1 (n + 2) (fz_sHg lim dd) sH)), (s2, fz_da cD 28 (fz_pre 1 (n + 2) (fz_sMg lim dd mm) sM)), (f1, fz_da cD 25 (fz_pre 0 k (fz_FHi lim 1 dd mm) FH)), (f2, fz_da cD 25 (fz_pre 0 k (fz_FMi lim 1 dd mm) FM)), (lf, .inr (2, [.double (fz_pk a0 (fz_L dd (fz_SH lim dd)) k), .double (fz_pk a1 (fz_L mm (fz_SM lim dd mm)) k), .double (fz_pk a2 (fun j => FP.ddiv (fz_L mm (fz_SM lim dd mm) j) (fz_L dd (fz_SH lim dd) j)) k), .double (fz_pk a3 (fun j => fz_root (fz_L dd (fz_SH lim dd) j)) k)])), (rt, .inr (2, [.double (fz_pk b0 (fz_R dd (fz_SH lim dd)) k), .double (fz_pk b1 (fz_R mm (fz_SM lim dd mm)) k), .double (fz_pk b2 (fun j => FP.ddiv (fz_R mm (fz_SM lim dd mm) j) (fz_R dd (fz_SH lim dd) j)) k), .double (fz_pk b3 (fun j => fz_root (fz_R dd (fz_SH lim dd) j)) k)])), (r, .inr (1, [.ref rd, .ref rm, .int (nI n)])), (rd, fz_da cD 28 dd), (rm, fz_da cD 28 mm)] → va_S A s.heap H locs → lv_has ls 5 [(0, .ref f), (1, .ref r), (2, .int (nI lim)), (3, .int (nI 1)), (4, .int (nI k))] → W p l e ({ frames := 3, cells := 0, slots := 0, locals := 90 }) s m ([.ref f, .ref r, .int (nI lim), .int (nI 1)] : List Value).toArray below meth c H locs 0 0 (MQ below (fz_O D [(cD, .double)] [(f, .inr (0, [.ref s1, .ref s2, .ref f1, .ref f2, .ref lf, .ref rt])), (s1, fz_da cD 28 (fz_pre 1 (n + 2) (fz_sHg lim dd) sH)), (s2, fz_da cD 28 (fz_pre 1 (n + 2) (fz_sMg lim dd mm) sM)), (f1, fz_da cD 25 (fz_pre 0 (n + 1) (fz_FHi lim 1 dd mm) FH)), (f2, fz_da cD 25 (fz_pre 0 (n + 1) (fz_FMi lim 1 dd mm) FM)), (lf, .inr (2, [.double (fz_pk a0 (fz_L dd (fz_SH lim dd)) (n + 1)), .double (fz_pk a1 (fz_L mm (fz_SM lim dd mm)) (n + 1)), .double (fz_pk a2 (fun j => FP.ddiv (fz_L mm (fz_SM lim dd mm) j) (fz_L dd (fz_SH lim dd) j)) (n + 1)), .double (fz_pk a3 (fun j => fz_root (fz_L dd (fz_SH lim dd) j)) (n + 1))])), (rt, .inr (2, [.double (fz_pk b0 (fz_R dd (fz_SH lim dd)) (n + 1)), .double (fz_pk b1 (fz_R mm (fz_SM lim dd mm)) (n + 1)), .double (fz_pk b2 (fun j => FP.ddiv (fz_R mm (fz_SM lim dd mm) j) (fz_R dd (fz_SH lim dd) j)) (n + 1)), .double (fz_pk b3 (fun j => fz_root (fz_R dd (fz_SH lim dd) j)) (n + 1))])), (r, .inr (1, [.ref rd, .ref rm, .int (nI n)])), (rd, fz_da cD 28 dd), (rm, fz_da cD 28 mm)] (none) A) ([.ref f, .ref r, .int (nI lim), .int (nI 1)] : List Value).toArray s 0 0 A) (F0 m 9 ls []) := by
    intro it
    induction it with
    | zero => intro k h1 h2; exact absurd h2 (by omega)
    | succ it ih =>
      intro k hkk hnk H locs ls hP hD hS hl
      refine lv_iload hx hb dX0_measure_9 (lv_at hl 4 rfl) ?_
      refine lv_aload_n hx hb dX0_measure_11 rfl (lv_at hl 1 rfl) ?_
      refine va_get (D := D) (ci := 1) (v := .int (nI n)) (C := RX1) (T := TX1) (N := 3) hx hb hts hin_X1 hown hK hP 7 rfl rfl 2 (by decide) hw_fieldLink_RX0_38_FlowGrid_Row_size_I (fun _ h9 => h9) rfl dX0_measure_12 ?_
      refine fz_icmp_gtN (tgt := 51) hx hb (by omega) (by omega) dX0_measure_15 (by decide) (fun c15 => ?_) (fun c15 => ?_)
      · have hkz : n + 1 = k := by omega
        subst hkz
        exact fz_vret hx hb hr hlocks (rfl) hP hK hD hS dX0_measure_51
      · refine lv_aload_n hx hb dX0_measure_18 rfl (lv_at hl 0 rfl) ?_
        refine lv_aload_n hx hb dX0_measure_19 rfl (lv_at hl 1 rfl) ?_
        refine lv_iload hx hb dX0_measure_20 (lv_at hl 4 rfl) ?_
        refine fz_callV (ws' := [(f, .inr (0, [.ref s1, .ref s2, .ref f1, .ref f2, .ref lf, .ref rt])), (s1, fz_da cD 28 (fz_pre 1 (n + 2) (fz_sHg lim dd) sH)), (s2, fz_da cD 28 (fz_pre 1 (n + 2) (fz_sMg lim dd mm) sM)), (f1, fz_da cD 25 (fz_pre 0 k (fz_FHi lim 1 dd mm) FH)), (f2, fz_da cD 25 (fz_pre 0 k (fz_FMi lim 1 dd mm) FM)), (lf, .inr (2, [.double (fz_L dd (fz_pre 1 (n + 2) (fz_sHg lim dd) sH) k), .double (fz_L mm (fz_pre 1 (n + 2) (fz_sMg lim dd mm) sM) k), .double (FP.ddiv (fz_L mm (fz_pre 1 (n + 2) (fz_sMg lim dd mm) sM) k) (fz_L dd (fz_pre 1 (n + 2) (fz_sHg lim dd) sH) k)), .double (fz_root (fz_L dd (fz_pre 1 (n + 2) (fz_sHg lim dd) sH) k))])), (rt, .inr (2, [.double (fz_R dd (fz_pre 1 (n + 2) (fz_sHg lim dd) sH) k), .double (fz_R mm (fz_pre 1 (n + 2) (fz_sMg lim dd mm) sM) k), .double (FP.ddiv (fz_R mm (fz_pre 1 (n + 2) (fz_sMg lim dd mm) sM) k) (fz_R dd (fz_pre 1 (n + 2) (fz_sHg lim dd) sH) k)), .double (fz_root (fz_R dd (fz_pre 1 (n + 2) (fz_sHg lim dd) sH) k))])), (r, .inr (1, [.ref rd, .ref rm, .int (nI n)])), (rd, fz_da cD 28 dd), (rm, fz_da cD 28 mm)]) (wr := [(f1, fz_da cD 25 (fz_pre 0 k (fz_FHi lim 1 dd mm) FH)), (f2, fz_da cD 25 (fz_pre 0 k (fz_FMi lim 1 dd mm) FM))]) (As := [.ref r, .int (nI k)]) (rest := []) ⟨hx, hb, hml, hown, hts⟩ (c_X0_guess l D cD r rd rm n dd mm f s1 s2 f1 f2 lf rt k (fz_pre 1 (n + 2) (fz_sHg lim dd) sH) (fz_pre 1 (n + 2) (fz_sMg lim dd mm) sM) (fz_pk a0 (fz_L dd (fz_SH lim dd)) k) (fz_pk a1 (fz_L mm (fz_SM lim dd mm)) k) (fz_pk a2 (fun j => FP.ddiv (fz_L mm (fz_SM lim dd mm) j) (fz_L dd (fz_SH lim dd) j)) k) (fz_pk a3 (fun j => fz_root (fz_L dd (fz_SH lim dd) j)) k) (fz_pk b0 (fz_R dd (fz_SH lim dd)) k) (fz_pk b1 (fz_R mm (fz_SM lim dd mm)) k) (fz_pk b2 (fun j => FP.ddiv (fz_R mm (fz_SM lim dd mm) j) (fz_R dd (fz_SH lim dd) j)) k) (fz_pk b3 (fun j => fz_root (fz_R dd (fz_SH lim dd) j)) k) (by omega) (fz_gsq (by omega) (hok.2 k (by omega)).1)) (cwV 2 hts gX0_measure_X0_guess rfl rfl rfl (by decide +kernel) ⟨Nat.le_of_ble_eq_true rfl, Nat.le_of_ble_eq_true rfl⟩) hK hNW hP hD hS hA [0, 1, 2, 5, 6, 7, 8, 9] [3, 4] [2, 3, 4, 0, 1, 5, 6, 7, 8, 9] rfl rfl rfl rfl (by decide) rfl rfl (q0 := 0) (ci := 0) rfl rfl rfl rfl hl.1 rfl (Nat.le_of_ble_eq_true rfl) dX0_measure_22 ⟨Nat.zero_le _, Nat.zero_le _⟩ (fun H locs hP hD hS => ?_)
        rw [fz_Lq (n := n) (k := k) (by omega) dd, fz_Lq (n := n) (k := k) (by omega) mm, fz_Rq (n := n) (k := k) (by omega) dd, fz_Rq (n := n) (k := k) (by omega) mm] at hP hD
        have hP : va_P D vwCl [(f, .inr (0, [.ref s1, .ref s2, .ref f1, .ref f2, .ref lf, .ref rt])), (s1, fz_da cD 28 (fz_pre 1 (n + 2) (fz_sHg lim dd) sH)), (s2, fz_da cD 28 (fz_pre 1 (n + 2) (fz_sMg lim dd mm) sM)), (f1, fz_da cD 25 (fz_pre 0 k (fz_FHi lim 1 dd mm) FH)), (f2, fz_da cD 25 (fz_pre 0 k (fz_FMi lim 1 dd mm) FM)), (lf, .inr (2, [.double (fz_L dd (fz_SH lim dd) k), .double (fz_L mm (fz_SM lim dd mm) k), .double (FP.ddiv (fz_L mm (fz_SM lim dd mm) k) (fz_L dd (fz_SH lim dd) k)), .double (fz_root (fz_L dd (fz_SH lim dd) k))])), (rt, .inr (2, [.double (fz_R dd (fz_SH lim dd) k), .double (fz_R mm (fz_SM lim dd mm) k), .double (FP.ddiv (fz_R mm (fz_SM lim dd mm) k) (fz_R dd (fz_SH lim dd) k)), .double (fz_root (fz_R dd (fz_SH lim dd) k))])), (r, .inr (1, [.ref rd, .ref rm, .int (nI n)])), (rd, fz_da cD 28 dd), (rm, fz_da cD 28 mm)] H := hP
        have hD : va_D A [(f, .inr (0, [.ref s1, .ref s2, .ref f1, .ref f2, .ref lf, .ref rt])), (s1, fz_da cD 28 (fz_pre 1 (n + 2) (fz_sHg lim dd) sH)), (s2, fz_da cD 28 (fz_pre 1 (n + 2) (fz_sMg lim dd mm) sM)), (f1, fz_da cD 25 (fz_pre 0 k (fz_FHi lim 1 dd mm) FH)), (f2, fz_da cD 25 (fz_pre 0 k (fz_FMi lim 1 dd mm) FM)), (lf, .inr (2, [.double (fz_L dd (fz_SH lim dd) k), .double (fz_L mm (fz_SM lim dd mm) k), .double (FP.ddiv (fz_L mm (fz_SM lim dd mm) k) (fz_L dd (fz_SH lim dd) k)), .double (fz_root (fz_L dd (fz_SH lim dd) k))])), (rt, .inr (2, [.double (fz_R dd (fz_SH lim dd) k), .double (fz_R mm (fz_SM lim dd mm) k), .double (FP.ddiv (fz_R mm (fz_SM lim dd mm) k) (fz_R dd (fz_SH lim dd) k)), .double (fz_root (fz_R dd (fz_SH lim dd) k))])), (r, .inr (1, [.ref rd, .ref rm, .int (nI n)])), (rd, fz_da cD 28 dd), (rm, fz_da cD 28 mm)] := hD
        refine lv_iload_n hx hb dX0_measure_25 rfl (lv_at hl 3 rfl) ?_
        refine lv_iconst (v := nI 1) hx hb dX0_measure_26 (by decide) ?_
        refine fz_icmp_neN (tgt := 39) hx hb (by omega) (by omega) dX0_measure_27 (by decide) (fun c27 => absurd c27 (by decide)) (fun c27 => ?_)
        refine lv_aload_n hx hb dX0_measure_30 rfl (lv_at hl 0 rfl) ?_
        refine lv_iload hx hb dX0_measure_31 (lv_at hl 4 rfl) ?_
        refine fz_callV (ws' := [(f, .inr (0, [.ref s1, .ref s2, .ref f1, .ref f2, .ref lf, .ref rt])), (s1, fz_da cD 28 (fz_pre 1 (n + 2) (fz_sHg lim dd) sH)), (s2, fz_da cD 28 (fz_pre 1 (n + 2) (fz_sMg lim dd mm) sM)), (f1, fz_da cD 25 (vf_upd (fz_pre 0 k (fz_FHi lim 1 dd mm) FH) k (fz_bld (fz_xN (FP.ddiv (fz_L mm (fz_SM lim dd mm) k) (fz_L dd (fz_SH lim dd) k)) (fz_root (fz_L dd (fz_SH lim dd) k)) (FP.ddiv (fz_R mm (fz_SM lim dd mm) k) (fz_R dd (fz_SH lim dd) k)) (fz_root (fz_R dd (fz_SH lim dd) k))) (fz_yN (FP.ddiv (fz_L mm (fz_SM lim dd mm) k) (fz_L dd (fz_SH lim dd) k)) (fz_root (fz_L dd (fz_SH lim dd) k)) (FP.ddiv (fz_R mm (fz_SM lim dd mm) k) (fz_R dd (fz_SH lim dd) k)) (fz_root (fz_R dd (fz_SH lim dd) k))) (fz_L mm (fz_SM lim dd mm) k) (fz_R mm (fz_SM lim dd mm) k) (FP.dsub (fz_R dd (fz_SH lim dd) k) (fz_L dd (fz_SH lim dd) k))))), (f2, fz_da cD 25 (vf_upd (fz_pre 0 k (fz_FMi lim 1 dd mm) FM) k (fz_bld (fz_xN (FP.ddiv (fz_L mm (fz_SM lim dd mm) k) (fz_L dd (fz_SH lim dd) k)) (fz_root (fz_L dd (fz_SH lim dd) k)) (FP.ddiv (fz_R mm (fz_SM lim dd mm) k) (fz_R dd (fz_SH lim dd) k)) (fz_root (fz_R dd (fz_SH lim dd) k))) (fz_yN (FP.ddiv (fz_L mm (fz_SM lim dd mm) k) (fz_L dd (fz_SH lim dd) k)) (fz_root (fz_L dd (fz_SH lim dd) k)) (FP.ddiv (fz_R mm (fz_SM lim dd mm) k) (fz_R dd (fz_SH lim dd) k)) (fz_root (fz_R dd (fz_SH lim dd) k))) (fz_mflux (fz_L dd (fz_SH lim dd) k) (fz_L mm (fz_SM lim dd mm) k) (FP.ddiv (fz_L mm (fz_SM lim dd mm) k) (fz_L dd (fz_SH lim dd) k))) (fz_mflux (fz_R dd (fz_SH lim dd) k) (fz_R mm (fz_SM lim dd mm) k) (FP.ddiv (fz_R mm (fz_SM lim dd mm) k) (fz_R dd (fz_SH lim dd) k))) (FP.dsub (fz_R mm (fz_SM lim dd mm) k) (fz_L mm (fz_SM lim dd mm) k))))), (lf, .inr (2, [.double (fz_L dd (fz_SH lim dd) k), .double (fz_L mm (fz_SM lim dd mm) k), .double (FP.ddiv (fz_L mm (fz_SM lim dd mm) k) (fz_L dd (fz_SH lim dd) k)), .double (fz_root (fz_L dd (fz_SH lim dd) k))])), (rt, .inr (2, [.double (fz_R dd (fz_SH lim dd) k), .double (fz_R mm (fz_SM lim dd mm) k), .double (FP.ddiv (fz_R mm (fz_SM lim dd mm) k) (fz_R dd (fz_SH lim dd) k)), .double (fz_root (fz_R dd (fz_SH lim dd) k))])), (r, .inr (1, [.ref rd, .ref rm, .int (nI n)])), (rd, fz_da cD 28 dd), (rm, fz_da cD 28 mm)]) (wr := [(s1, fz_da cD 28 (fz_pre 1 (n + 2) (fz_sHg lim dd) sH)), (s2, fz_da cD 28 (fz_pre 1 (n + 2) (fz_sMg lim dd mm) sM)), (r, .inr (1, [.ref rd, .ref rm, .int (nI n)])), (rd, fz_da cD 28 dd), (rm, fz_da cD 28 mm)]) (As := [.int (nI k)]) (rest := []) ⟨hx, hb, hml, hown, hts⟩ (c_X0_solveNarrow l D cD f s1 s2 f1 f2 lf rt k (fz_pre 0 k (fz_FHi lim 1 dd mm) FH) (fz_pre 0 k (fz_FMi lim 1 dd mm) FM) (fz_L dd (fz_SH lim dd) k) (fz_L mm (fz_SM lim dd mm) k) (FP.ddiv (fz_L mm (fz_SM lim dd mm) k) (fz_L dd (fz_SH lim dd) k)) (fz_root (fz_L dd (fz_SH lim dd) k)) (fz_R dd (fz_SH lim dd) k) (fz_R mm (fz_SM lim dd mm) k) (FP.ddiv (fz_R mm (fz_SM lim dd mm) k) (fz_R dd (fz_SH lim dd) k)) (fz_root (fz_R dd (fz_SH lim dd) k)) (by omega) ((hok.2 k (by omega)).2.1 rfl)) (cwV 1 hts gX0_measure_X0_solveNarrow rfl rfl rfl (by decide +kernel) ⟨Nat.le_of_ble_eq_true rfl, Nat.le_of_ble_eq_true rfl⟩) hK hNW hP hD hS hA [0, 3, 4, 5, 6] [1, 2, 7, 8, 9] [5, 0, 1, 6, 7, 8, 9, 2, 3, 4] rfl rfl rfl rfl (by decide) rfl rfl (q0 := 0) (ci := 0) rfl rfl rfl rfl hl.1 rfl (Nat.le_of_ble_eq_true rfl) dX0_measure_33 ⟨Nat.zero_le _, Nat.zero_le _⟩ (fun H locs hP hD hS => ?_)
        have hP : va_P D vwCl [(f, .inr (0, [.ref s1, .ref s2, .ref f1, .ref f2, .ref lf, .ref rt])), (s1, fz_da cD 28 (fz_pre 1 (n + 2) (fz_sHg lim dd) sH)), (s2, fz_da cD 28 (fz_pre 1 (n + 2) (fz_sMg lim dd mm) sM)), (f1, fz_da cD 25 (fz_pre 0 (k + 1) (fz_FHi lim 1 dd mm) FH)), (f2, fz_da cD 25 (vf_upd (fz_pre 0 k (fz_FMi lim 1 dd mm) FM) k (fz_bld (fz_xN (FP.ddiv (fz_L mm (fz_SM lim dd mm) k) (fz_L dd (fz_SH lim dd) k)) (fz_root (fz_L dd (fz_SH lim dd) k)) (FP.ddiv (fz_R mm (fz_SM lim dd mm) k) (fz_R dd (fz_SH lim dd) k)) (fz_root (fz_R dd (fz_SH lim dd) k))) (fz_yN (FP.ddiv (fz_L mm (fz_SM lim dd mm) k) (fz_L dd (fz_SH lim dd) k)) (fz_root (fz_L dd (fz_SH lim dd) k)) (FP.ddiv (fz_R mm (fz_SM lim dd mm) k) (fz_R dd (fz_SH lim dd) k)) (fz_root (fz_R dd (fz_SH lim dd) k))) (fz_mflux (fz_L dd (fz_SH lim dd) k) (fz_L mm (fz_SM lim dd mm) k) (FP.ddiv (fz_L mm (fz_SM lim dd mm) k) (fz_L dd (fz_SH lim dd) k))) (fz_mflux (fz_R dd (fz_SH lim dd) k) (fz_R mm (fz_SM lim dd mm) k) (FP.ddiv (fz_R mm (fz_SM lim dd mm) k) (fz_R dd (fz_SH lim dd) k))) (FP.dsub (fz_R mm (fz_SM lim dd mm) k) (fz_L mm (fz_SM lim dd mm) k))))), (lf, .inr (2, [.double (fz_L dd (fz_SH lim dd) k), .double (fz_L mm (fz_SM lim dd mm) k), .double (FP.ddiv (fz_L mm (fz_SM lim dd mm) k) (fz_L dd (fz_SH lim dd) k)), .double (fz_root (fz_L dd (fz_SH lim dd) k))])), (rt, .inr (2, [.double (fz_R dd (fz_SH lim dd) k), .double (fz_R mm (fz_SM lim dd mm) k), .double (FP.ddiv (fz_R mm (fz_SM lim dd mm) k) (fz_R dd (fz_SH lim dd) k)), .double (fz_root (fz_R dd (fz_SH lim dd) k))])), (r, .inr (1, [.ref rd, .ref rm, .int (nI n)])), (rd, fz_da cD 28 dd), (rm, fz_da cD 28 mm)] H := by rw [← fz_pre_s 0 k (fz_FHi lim 1 dd mm) FH, fz_FHi1]; exact hP
        have hD : va_D A [(f, .inr (0, [.ref s1, .ref s2, .ref f1, .ref f2, .ref lf, .ref rt])), (s1, fz_da cD 28 (fz_pre 1 (n + 2) (fz_sHg lim dd) sH)), (s2, fz_da cD 28 (fz_pre 1 (n + 2) (fz_sMg lim dd mm) sM)), (f1, fz_da cD 25 (fz_pre 0 (k + 1) (fz_FHi lim 1 dd mm) FH)), (f2, fz_da cD 25 (vf_upd (fz_pre 0 k (fz_FMi lim 1 dd mm) FM) k (fz_bld (fz_xN (FP.ddiv (fz_L mm (fz_SM lim dd mm) k) (fz_L dd (fz_SH lim dd) k)) (fz_root (fz_L dd (fz_SH lim dd) k)) (FP.ddiv (fz_R mm (fz_SM lim dd mm) k) (fz_R dd (fz_SH lim dd) k)) (fz_root (fz_R dd (fz_SH lim dd) k))) (fz_yN (FP.ddiv (fz_L mm (fz_SM lim dd mm) k) (fz_L dd (fz_SH lim dd) k)) (fz_root (fz_L dd (fz_SH lim dd) k)) (FP.ddiv (fz_R mm (fz_SM lim dd mm) k) (fz_R dd (fz_SH lim dd) k)) (fz_root (fz_R dd (fz_SH lim dd) k))) (fz_mflux (fz_L dd (fz_SH lim dd) k) (fz_L mm (fz_SM lim dd mm) k) (FP.ddiv (fz_L mm (fz_SM lim dd mm) k) (fz_L dd (fz_SH lim dd) k))) (fz_mflux (fz_R dd (fz_SH lim dd) k) (fz_R mm (fz_SM lim dd mm) k) (FP.ddiv (fz_R mm (fz_SM lim dd mm) k) (fz_R dd (fz_SH lim dd) k))) (FP.dsub (fz_R mm (fz_SM lim dd mm) k) (fz_L mm (fz_SM lim dd mm) k))))), (lf, .inr (2, [.double (fz_L dd (fz_SH lim dd) k), .double (fz_L mm (fz_SM lim dd mm) k), .double (FP.ddiv (fz_L mm (fz_SM lim dd mm) k) (fz_L dd (fz_SH lim dd) k)), .double (fz_root (fz_L dd (fz_SH lim dd) k))])), (rt, .inr (2, [.double (fz_R dd (fz_SH lim dd) k), .double (fz_R mm (fz_SM lim dd mm) k), .double (FP.ddiv (fz_R mm (fz_SM lim dd mm) k) (fz_R dd (fz_SH lim dd) k)), .double (fz_root (fz_R dd (fz_SH lim dd) k))])), (r, .inr (1, [.ref rd, .ref rm, .int (nI n)])), (rd, fz_da cD 28 dd), (rm, fz_da cD 28 mm)] := by rw [← fz_pre_s 0 k (fz_FHi lim 1 dd mm) FH, fz_FHi1]; exact hD
        have hP : va_P D vwCl [(f, .inr (0, [.ref s1, .ref s2, .ref f1, .ref f2, .ref lf, .ref rt])), (s1, fz_da cD 28 (fz_pre 1 (n + 2) (fz_sHg lim dd) sH)), (s2, fz_da cD 28 (fz_pre 1 (n + 2) (fz_sMg lim dd mm) sM)), (f1, fz_da cD 25 (fz_pre 0 (k + 1) (fz_FHi lim 1 dd mm) FH)), (f2, fz_da cD 25 (fz_pre 0 (k + 1) (fz_FMi lim 1 dd mm) FM)), (lf, .inr (2, [.double (fz_L dd (fz_SH lim dd) k), .double (fz_L mm (fz_SM lim dd mm) k), .double (FP.ddiv (fz_L mm (fz_SM lim dd mm) k) (fz_L dd (fz_SH lim dd) k)), .double (fz_root (fz_L dd (fz_SH lim dd) k))])), (rt, .inr (2, [.double (fz_R dd (fz_SH lim dd) k), .double (fz_R mm (fz_SM lim dd mm) k), .double (FP.ddiv (fz_R mm (fz_SM lim dd mm) k) (fz_R dd (fz_SH lim dd) k)), .double (fz_root (fz_R dd (fz_SH lim dd) k))])), (r, .inr (1, [.ref rd, .ref rm, .int (nI n)])), (rd, fz_da cD 28 dd), (rm, fz_da cD 28 mm)] H := by rw [← fz_pre_s 0 k (fz_FMi lim 1 dd mm) FM, fz_FMi1]; exact hP
        have hD : va_D A [(f, .inr (0, [.ref s1, .ref s2, .ref f1, .ref f2, .ref lf, .ref rt])), (s1, fz_da cD 28 (fz_pre 1 (n + 2) (fz_sHg lim dd) sH)), (s2, fz_da cD 28 (fz_pre 1 (n + 2) (fz_sMg lim dd mm) sM)), (f1, fz_da cD 25 (fz_pre 0 (k + 1) (fz_FHi lim 1 dd mm) FH)), (f2, fz_da cD 25 (fz_pre 0 (k + 1) (fz_FMi lim 1 dd mm) FM)), (lf, .inr (2, [.double (fz_L dd (fz_SH lim dd) k), .double (fz_L mm (fz_SM lim dd mm) k), .double (FP.ddiv (fz_L mm (fz_SM lim dd mm) k) (fz_L dd (fz_SH lim dd) k)), .double (fz_root (fz_L dd (fz_SH lim dd) k))])), (rt, .inr (2, [.double (fz_R dd (fz_SH lim dd) k), .double (fz_R mm (fz_SM lim dd mm) k), .double (FP.ddiv (fz_R mm (fz_SM lim dd mm) k) (fz_R dd (fz_SH lim dd) k)), .double (fz_root (fz_R dd (fz_SH lim dd) k))])), (r, .inr (1, [.ref rd, .ref rm, .int (nI n)])), (rd, fz_da cD 28 dd), (rm, fz_da cD 28 mm)] := by rw [← fz_pre_s 0 k (fz_FMi lim 1 dd mm) FM, fz_FMi1]; exact hD
        refine lv_goto (tgt := 45) hx hb dX0_measure_36 (by decide) ?_
        refine lv_iinc (v := nI (k + 1)) (lv' := [(4, .int (nI (k + 1))), (0, .ref f), (1, .ref r), (2, .int (nI lim)), (3, .int (nI 1))]) hx hb dX0_measure_45 hl (k := 4) rfl (nI_1 _) (by decide) rfl (fun ls hl => ?_)
        refine lv_goto (tgt := 9) hx hb dX0_measure_48 (by decide) ?_
        exact ih (k + 1) (by omega) (by omega) H locs ls (hP) (hD) hS (lv_sub hl [1, 2, 3, 4, 0] rfl)
  exact loop9 (n + 1 + 1) 0 (by omega) (by omega) H locs ls (by rw [fz_pre_0 0 (fz_FHi lim 1 dd mm) FH, fz_pre_0 0 (fz_FMi lim 1 dd mm) FM]; exact hP) (by rw [fz_pre_0 0 (fz_FHi lim 1 dd mm) FH, fz_pre_0 0 (fz_FMi lim 1 dd mm) FM]; exact hD) hS (lv_sub hl [1, 2, 3, 4, 0] rfl)

theorem c_X0_measure (l : Launch) (D : va_G) (cD : ClassId) (r rd rm n : Nat) (dd mm : Nat → UInt64) (f s1 s2 f1 f2 lf rt lim : Nat) (sH sM FH FM : Nat → UInt64) (a0 a1 a2 a3 b0 b1 b2 b3 : UInt64) (hn : n ≤ 24) (hlim : lim ≤ 3) (sol : Nat) (hsol : sol ≤ 1) (hok : fz_msOk lim sol n dd mm) : fz_C l D [(cD, .double)] yX0_measure wsX0_measure ({ frames := 3, cells := 0, slots := 0, locals := 90 }) [.ref f, .ref r, .int (nI lim), .int (nI sol)] [(f, .inr (0, [.ref s1, .ref s2, .ref f1, .ref f2, .ref lf, .ref rt])), (s1, fz_da cD 28 sH), (s2, fz_da cD 28 sM), (f1, fz_da cD 25 FH), (f2, fz_da cD 25 FM), (lf, .inr (2, [.double a0, .double a1, .double a2, .double a3])), (rt, .inr (2, [.double b0, .double b1, .double b2, .double b3])), (r, .inr (1, [.ref rd, .ref rm, .int (nI n)])), (rd, fz_da cD 28 dd), (rm, fz_da cD 28 mm)] [(f, .inr (0, [.ref s1, .ref s2, .ref f1, .ref f2, .ref lf, .ref rt])), (s1, fz_da cD 28 (fz_pre 1 (n + 2) (fz_sHg lim dd) sH)), (s2, fz_da cD 28 (fz_pre 1 (n + 2) (fz_sMg lim dd mm) sM)), (f1, fz_da cD 25 (fz_pre 0 (n + 1) (fz_FHi lim sol dd mm) FH)), (f2, fz_da cD 25 (fz_pre 0 (n + 1) (fz_FMi lim sol dd mm) FM)), (lf, .inr (2, [.double (fz_L dd (fz_SH lim dd) n), .double (fz_L mm (fz_SM lim dd mm) n), .double (FP.ddiv (fz_L mm (fz_SM lim dd mm) n) (fz_L dd (fz_SH lim dd) n)), .double (fz_root (fz_L dd (fz_SH lim dd) n))])), (rt, .inr (2, [.double (fz_R dd (fz_SH lim dd) n), .double (fz_R mm (fz_SM lim dd mm) n), .double (FP.ddiv (fz_R mm (fz_SM lim dd mm) n) (fz_R dd (fz_SH lim dd) n)), .double (fz_root (fz_R dd (fz_SH lim dd) n))])), (r, .inr (1, [.ref rd, .ref rm, .int (nI n)])), (rd, fz_da cD 28 dd), (rm, fz_da cD 28 mm)] none := by
  rcases (show sol = 0 ∨ sol = 1 by omega) with rfl | rfl
  · exact c_X0_measure0 l D cD r rd rm n dd mm f s1 s2 f1 f2 lf rt lim sH sM FH FM a0 a1 a2 a3 b0 b1 b2 b3 hn hlim hok
  · exact c_X0_measure1 l D cD r rd rm n dd mm f s1 s2 f1 f2 lf rt lim sH sM FH FM a0 a1 a2 a3 b0 b1 b2 b3 hn hlim hok
end
section
/-! the contract whose end is told by a property of answer and cells (scratch cells may hold anything) -/
def fz_OE (D : va_G) (tys : List (ClassId × FieldType)) (Post : Option Value → va_W → Prop) (A : Nat → Prop) : Array Value → State → Outcome → State → Prop := fun _ st oc t => (∃ (ov : Option Value) (wo : va_W), oc = .returned ov ∧ Post ov wo ∧ va_P D vwCl wo t.heap ∧ va_D A wo) ∧ va_K D vwCl tys t ∧ va_F A st t
def fz_E (l : Launch) (D : va_G) (tys : List (ClassId × FieldType)) (y : MethodName) (wsY : List Cond) (rm : Room) (av : List Value) (wi : va_W) (Post : Option Value → va_W → Prop) : Prop := ∀ sz : Nat, Met l y wsY rm (va_Pc av (fz_I D tys wi sz)) (fz_OE D tys Post (va_A wi sz)) 0 0 (va_A wi sz)
theorem fz_startE {l : Launch} {D : va_G} {tys : List (ClassId × FieldType)} {y : MethodName} {wsY ws' : List Cond} {rm : Room} {av : List Value} {wi : va_W} {Post : Option Value → va_W → Prop} {cc : ByteArray} {maxL : Nat} {ret : Option FieldType} (hy : plainName y.cls = true) (hw : wsY = Cond.code y cc maxL ret :: ws') (hL : (lg_sl av).length ≤ maxL)
    (body : ∀ (p : Program) (e : Env) (s : State) (m : MethodId) (below : List Frame) (meth : Method) (c : Code) (A : Nat → Prop), p.tables.exec = Jvm.exec → c.code = cc → meth.sig.returnType = ret → meth.locks = false → c.maxLocals = maxL → s.vm.findClass y.cls = some m.cls → (∀ w ∈ wsY, w.before av.toArray s = true) → va_K D vwCl tys s → (∀ q, s.heap.size ≤ q → A q) → fz_NW s → ∀ (H : Heap) (locs : List Loc), va_P D vwCl wi H → va_D A wi → va_S A s.heap H locs → ∀ ls : Array Slot, lv_has ls maxL (lv_args 0 av) → W p l e rm s m av.toArray below meth c H locs 0 0 (MQ below (fz_OE D tys Post A) av.toArray s 0 0 A) (F0 m 0 ls [])) : fz_E l D tys y wsY rm av wi Post := by
  intro sz
  refine Met.ofW hy hw ?_
  intro p e s m args below meth c s₁ B hml hv
  obtain ⟨rfl, rfl, hP, hK, hD0, hNW⟩ := hv
  have hl := lv_entry av (n := maxL) hL
  rw [lg_entry_eq]
  exact body p e s m below meth c _ B.exec B.bytes B.returns B.notSynchronized hml (findClass_of_methodNamed B.named) (atoms_spec (ws := wsY) B.pre) hK (fun q h => Or.inr h) hNW _ _ hP (hD0.self (sz := s.heap.size)) va_S.rf _ hl
section FZE

variable {p : Program} {l : Launch} {e : Env} {R : Room} {s : State} {m : MethodId} {args : Array Value} {below : List Frame} {meth : Method} {c : Code} {H : Heap} {locs : List Loc} {cells slots : Nat} {Q : State → Prop}
variable {cc : ByteArray} {pc : Nat} {ls : Array Slot} {rest : List Value}

variable {D : va_G} {tys : List (ClassId × FieldType)} {ws wi wo wr ws' : va_W} {ov : Option Value} {A : Nat → Prop} {H0 : Heap} {Post : Option Value → va_W → Prop}
theorem fz_dretE {v : UInt64} (hx : p.tables.exec = Jvm.exec) (hb : c.code = cc) (hr : meth.sig.returnType = some .double) (hlocks : meth.locks = false) (hov : Post (some (.double v)) wo) (hP : va_P D vwCl wo H) (hK : va_K D vwCl tys s) (hD : va_D A wo) (hS : va_S A s.heap H locs) (hdg : decode cc pc = .ok (.dreturn, 1)) : W p l e R s m args below meth c H locs cells slots (MQ below (fz_OE D tys Post A) args s cells slots A) (F0 m pc ls [.double v]) := W.dret hx hb hr (fun t ht hW => ⟨⟨_, wo, rfl, hov, by rw [ht]; exact hP, hD⟩, va_K.moved hW.alike hK, hS.F ht⟩) hS.2.2 hdg hlocks
theorem fz_iretE {v : Int32} (hx : p.tables.exec = Jvm.exec) (hb : c.code = cc) (hr : meth.sig.returnType = some .int) (hlocks : meth.locks = false) (hov : Post (some (.int v)) wo) (hP : va_P D vwCl wo H) (hK : va_K D vwCl tys s) (hD : va_D A wo) (hS : va_S A s.heap H locs) (hdg : decode cc pc = .ok (.ireturn, 1)) : W p l e R s m args below meth c H locs cells slots (MQ below (fz_OE D tys Post A) args s cells slots A) (F0 m pc ls [.int v]) := W.iret hx hb hr (fun t ht hW => ⟨⟨_, wo, rfl, hov, by rw [ht]; exact hP, hD⟩, va_K.moved hW.alike hK, hS.F ht⟩) hS.2.2 hdg hlocks
theorem fz_zretE {v : Int32} (hx : p.tables.exec = Jvm.exec) (hb : c.code = cc) (hr : meth.sig.returnType = some .boolean) (hlocks : meth.locks = false) (hn : narrow .boolean (.int v) = .int v) (hov : Post (some (.int v)) wo) (hP : va_P D vwCl wo H) (hK : va_K D vwCl tys s) (hD : va_D A wo) (hS : va_S A s.heap H locs) (hdg : decode cc pc = .ok (.ireturn, 1)) : W p l e R s m args below meth c H locs cells slots (MQ below (fz_OE D tys Post A) args s cells slots A) (F0 m pc ls [.int v]) := W.zret hx hb hr hn (fun t ht hW => ⟨⟨_, wo, rfl, hov, by rw [ht]; exact hP, hD⟩, va_K.moved hW.alike hK, hS.F ht⟩) hS.2.2 hdg hlocks
theorem fz_vretE (hx : p.tables.exec = Jvm.exec) (hb : c.code = cc) (hr : meth.sig.returnType = none) (hlocks : meth.locks = false) (hov : Post (none) wo) (hP : va_P D vwCl wo H) (hK : va_K D vwCl tys s) (hD : va_D A wo) (hS : va_S A s.heap H locs) (hdg : decode cc pc = .ok (.return_, 1)) : W p l e R s m args below meth c H locs cells slots (MQ below (fz_OE D tys Post A) args s cells slots A) (F0 m pc ls []) := W.vret hx hb hr (fun t ht hW => ⟨⟨_, wo, rfl, hov, by rw [ht]; exact hP, hD⟩, va_K.moved hW.alike hK, hS.F ht⟩) hS.2.2 hdg hlocks
theorem fz_callE {a : Array Value} {st0 : List Value} (hr : va_Run p l e R s m args below meth c H locs cells slots 0 0 (F0 m pc ls st0) rest (fz_OE D tys Post (va_A wi H.size) a) (va_A wi H.size)) (hP : va_P D vwCl ws H) (hD : va_D A ws) (hS : va_S A H0 H locs) (hA : ∀ q, H0.size ≤ q → A q) (isC isR : List Nat) (hC : isC.map (fun i => ws[i]?) = wi.map some) (hR : isR.map (fun i => ws[i]?) = wr.map some) (hnR : va_nd isR = true) (hdis : ∀ i ∈ isR, i ∉ isC)
    (kk : ∀ (ov : Option Value) (wo : va_W), Post ov wo → ∀ (H1 : Heap) (locs1 : List Loc), va_P D vwCl (wr ++ wo) H1 → va_D A (wr ++ wo) → va_S A H0 H1 locs1 → W p l e R s m args below meth c H1 locs1 cells slots Q (F0 m (pc + 3) ls (ov.toList ++ rest))) : W p l e R s m args below meth c H locs cells slots Q (F0 m pc ls st0) := by
  intro T hT X
  obtain ⟨v, st₀, t, T', L, h0, X', hL, e1, e2, ⟨⟨ov, wo, hv, hpost, hP1, hD1⟩, hK1, hz, hk⟩, st⟩ := hr T hT X
  cases hv
  rw [h0] at hz hk
  rw [← e1] at hP1 hz hk
  have hF := va_free (wc := wi) hD hS hA isC hC
  obtain ⟨hPj, hDj⟩ := va_join hP hD isC isR hC hR hnR hdis hk hF hP1 hD1
  obtain ⟨t2, a1, b1⟩ := kk _ wo hpost T'.heap (locs ++ L) hPj hDj
    ⟨Nat.le_trans hS.1 hz, fun q h1 h2 => by rw [hk q (Nat.lt_of_lt_of_le h1 hS.1) (fun z => h2 (hF q z))]; exact hS.2.1 q h1 h2, fun q hq => by
      rcases List.mem_append.mp hq with h | h
      · exact hS.2.2 q h
      · exact hF _ (hL q h)⟩ T' rfl X'
  exact ⟨t2, st t2 a1, b1⟩
variable {Ts wsY : List Cond} {own : String} {y : MethodName} {bytes : ByteArray} {maxL nL n index : Nat} {ret : Option FieldType} {rm : Room} {As st0 : List Value} {b : Nat}
theorem fz_callVE {C : String} (S : CallFix p m c cc nL s args Ts own) (hM : fz_E l D tys y wsY rm (.ref b :: As) wi Post) (cw : CallW R s args own C index y bytes maxL ret wsY rm 0 0 n) (hK : va_K D vwCl tys s) (hNW : fz_NW s) (hP : va_P D vwCl ws H) (hD : va_D A ws) (hS : va_S A H0 H locs) (hA : ∀ q, H0.size ≤ q → A q) (isC isR : List Nat) (hC : isC.map (fun i => ws[i]?) = wi.map some) (hnC : va_nd isC = true) (hR : isR.map (fun i => ws[i]?) = wr.map some) (hnR : va_nd isR = true) (hdis : ∀ i ∈ isR, i ∉ isC)
    {q0 ci : Nat} {fs : List Value} {q : vw_C} (hcl : vwCl[ci]? = some q) (hqC : q.1 = C) (he : ws[q0]? = some (b, .inr (ci, fs))) (hn : As.length = n) (hsize : ls.size = nL) (hstack : st0 = As.reverse ++ .ref b :: rest) (hW : (rest.map fun v => v.category).sum ≤ 8) (hdg : decode cc pc = .ok (.invokevirtual index, 3)) (hf : cells + 0 ≤ R.cells ∧ slots + 0 ≤ R.slots)
    (kk : ∀ (ov : Option Value) (wo : va_W), Post ov wo → ∀ (H1 : Heap) (locs1 : List Loc), va_P D vwCl (wr ++ wo) H1 → va_D A (wr ++ wo) → va_S A H0 H1 locs1 → W p l e R s m args below meth c H1 locs1 cells slots Q (F0 m (pc + 3) ls (ov.toList ++ rest))) : W p l e R s m args below meth c H locs cells slots Q (F0 m pc ls st0) := by
  have hp := fz_preS (av := .ref b :: As) hK hNW hP hD isC hC hnC
  subst hqC
  exact fz_callE (va_runV S (hM H.size) cw ⟨hp.1, va_recv hK hP hcl he, hp.2⟩ rfl hn hsize hstack (lv_room hW) hdg hf) hP hD hS hA isC isR hC hR hnR hdis kk
end FZE
theorem fz_pre_c {lo n : Nat} {g g' d : Nat → UInt64} (h : ∀ j, j < n → g j = g' j) : fz_pre lo n g d = fz_pre lo n g' d := by
  funext q
  unfold fz_pre
  by_cases hq : lo ≤ q ∧ q < n + lo
  · rw [if_pos hq, if_pos hq, h _ (by omega)]
  · rw [if_neg hq, if_neg hq]
end
