/-! methods that throw: what a throw needs of the start, and the contract of a call that throws -/
def fz_STq : List (Nat × String) := [(62, "the number of cells is not 4 .. 24"), (67, "there is no such kind of ends, limiter, solver or order"), (73, "there is no such cell"), (79, "the depth is not 0.125 .. 20.0"), (85, "the momentum is not -50.0 .. 50.0"), (98, "the time is not above 0.0 and at most 10.0"), (116, "a cell has no such value"), (121, "there is no such face"), (140, "there is no such count"), (152, "the step is refused")]
def fz_ST (U : State) : Prop := ∀ q ∈ fz_STq, ∃ sa : Nat, vk_R "FlowGrid" q.1 q.2 sa U
theorem fz_ST.warm {s U : State} (hW : s.WarmedH U.vm) (h : fz_ST s) : fz_ST U := fun q hq => (h q hq).imp fun _ h2 => vk_R.warm hW h2
theorem fz_ST.same {u U : State} (hv : u.vm = U.vm) (h : fz_ST u) : fz_ST U := fun q hq => (h q hq).imp fun _ h2 => vk_R.same hv.symm h2
abbrev fz_IAE : String := "java/lang/IllegalArgumentException"
abbrev fz_ISE : String := "java/lang/IllegalStateException"
abbrev fz_NSE : String := "java/util/NoSuchElementException"
abbrev fz_sup : List String := ["java/lang/RuntimeException", "java/lang/Exception", "java/lang/Throwable"]
def fz_CA (U : State) : Prop := (∀ E ∈ [fz_IAE, fz_ISE, fz_NSE], va_Nw (.castable E E) U) ∧ ∀ Y ∈ fz_sup, va_Nw (.declares (Bundle.initS Y)) U
theorem fz_CA.warm {s U : State} (hW : s.WarmedH U.vm) (h : fz_CA s) : fz_CA U := ⟨fun q hq => va_Nw.warmC hW (h.1 q hq), fun q hq => va_Nw.warmD hW (h.2 q hq)⟩
theorem fz_CA.same {u U : State} (hv : u.vm = U.vm) (h : fz_CA u) : fz_CA U := ⟨fun q hq => va_Nw.same rfl hv (h.1 q hq), fun q hq => va_Nw.same rfl hv (h.2 q hq)⟩
def fz_XZ (A : Nat → Prop) (U : State) (H : Heap) : Prop := vx_Zq Bundle.tN "UNASSIGNED_STACK" Bundle.steD A U H ∧ vx_Zq Bundle.tN "SUPPRESSED_SENTINEL" Bundle.listD A U H
theorem fz_XZ.moved {A : Nat → Prop} {u U : State} {H : Heap} (hvm : u.vm.Alike U.vm) (h : fz_XZ A u H) : fz_XZ A U H := ⟨vx_Zq.moved hvm h.1, vx_Zq.moved hvm h.2⟩
theorem fz_XZ.kept {A : Nat → Prop} {U : State} {H H1 : Heap} (h : fz_XZ A U H) (hq : ∀ a : Nat, a < H.size → ¬ A a → H1[a]? = H[a]?) : fz_XZ A U H1 := ⟨vx_Zq.kept h.1 hq, vx_Zq.kept h.2 hq⟩
theorem fz_XZ.narrow {A B : Nat → Prop} {U : State} {H : Heap} (h : fz_XZ A U H) (hAB : ∀ q, B q → A q) : fz_XZ B U H := ⟨vx_Zq.narrow h.1 hAB, vx_Zq.narrow h.2 hAB⟩
def fz_IX (D : va_G) (tys : List (ClassId × FieldType)) (wi : va_W) (sz : Nat) (U : State) : Prop := fz_I D tys wi sz U ∧ fz_ST U ∧ fz_CA U ∧ fz_XZ (va_A wi sz) U U.heap
def fz_XO (D : va_G) (tys : List (ClassId × FieldType)) (E : String) (PostX : va_W → Prop) (A : Nat → Prop) : String → State → State → Prop := fun E' st t => E' = E ∧ (∃ wo : va_W, PostX wo ∧ va_P D vwCl wo t.heap ∧ va_D A wo) ∧ va_K D vwCl tys t ∧ va_F A st t
/-- the call throws an E; the cells are then as PostX says -/
def fz_T (l : Launch) (D : va_G) (tys : List (ClassId × FieldType)) (y : MethodName) (wsY : List Cond) (rm : Room) (av : List Value) (wi : va_W) (E : String) (PostX : va_W → Prop) : Prop := ∀ sz : Nat, vx_Met l y wsY rm (va_Pc av (fz_IX D tys wi sz)) (fun _ _ _ _ => False) (fz_XO D tys E PostX (va_A wi sz)) 1 6 (va_A wi sz)
theorem fz_startT {l : Launch} {D : va_G} {tys : List (ClassId × FieldType)} {y : MethodName} {wsY ws' : List Cond} {rm : Room} {av : List Value} {wi : va_W} {E : String} {PostX : va_W → Prop} {cc : ByteArray} {maxL : Nat} {ret : Option FieldType} (hy : plainName y.cls = true) (hw : wsY = Cond.code y cc maxL ret :: ws') (hL : (lg_sl av).length ≤ maxL)
    (body : ∀ (p : Program) (e : Env) (s : State) (m : MethodId) (below : List Frame) (meth : Method) (c : Code) (A : Nat → Prop), p.tables.exec = Jvm.exec → c.code = cc → meth.sig.returnType = ret → meth.locks = false → c.maxLocals = maxL → s.vm.findClass y.cls = some m.cls → (∀ w ∈ wsY, w.before av.toArray s = true) → va_K D vwCl tys s → (∀ q, s.heap.size ≤ q → A q) → fz_NW s → (∀ x ∈ c.exceptionTable.toList, False) → fz_ST s → fz_CA s → fz_XZ A s s.heap → ∀ (H : Heap) (locs : List Loc), va_P D vwCl wi H → va_D A wi → va_S A s.heap H locs → ∀ ls : Array Slot, lv_has ls maxL (lv_args 0 av) → W p l e rm s m av.toArray below meth c H locs 0 0 (vx_MQ below (fun _ _ _ _ => False) (fz_XO D tys E PostX A) av.toArray s 1 6 A) (F0 m 0 ls [])) : fz_T l D tys y wsY rm av wi E PostX := by
  intro sz
  refine vx_ofW hy hw ?_
  intro p e s m args below meth c s₁ B hml htb hv
  obtain ⟨rfl, ⟨rfl, hP, hK, hD0, hNW⟩, hST, hCA, hXZ⟩ := hv
  have hl := lv_entry av (n := maxL) hL
  rw [lg_entry_eq]
  exact body p e s m below meth c _ B.exec B.bytes B.returns B.notSynchronized hml (findClass_of_methodNamed B.named) (atoms_spec (ws := wsY) B.pre) hK (fun q h => Or.inr h) hNW htb hST hCA hXZ _ _ hP (hD0.self (sz := s.heap.size)) va_S.rf _ hl
section FZT

variable {p : Program} {l : Launch} {e : Env} {R : Room} {s : State} {m : MethodId} {args : Array Value} {below : List Frame} {meth : Method} {c : Code} {H : Heap} {locs : List Loc} {cells slots : Nat} {Q : State → Prop}
variable {cc : ByteArray} {pc : Nat} {ls : Array Slot} {rest : List Value}

variable {D : va_G} {tys : List (ClassId × FieldType)} {ws wi wo wr ws' : va_W} {ov : Option Value} {A : Nat → Prop} {H0 : Heap} {Post : Option Value → va_W → Prop} {PostX : va_W → Prop} {E : String}
/-- 'throw new E("text")' in FlowGrid -/
theorem fz_throw (hx : p.tables.exec = Jvm.exec) (hb : c.code = cc) (hlt : l.stackTraces = false) {text cls : String} {ik is ic : Nat} {Ts : List Cond} (hts : ∀ w ∈ Ts, w.before args s = true) (hown : s.vm.findClass "FlowGrid" = some m.cls) (hfit : Bundle.fit cls = true)
    (hk : (Cond.classLink "FlowGrid" ik cls).before args s = true) (hini : (Cond.initialized cls).before args s = true) (hst : fz_ST s) (hq : (is, text) ∈ fz_STq) (hca : fz_CA s) (hcm : cls ∈ [fz_IAE, fz_ISE, fz_NSE]) (hmem : ∀ w ∈ (vx_atS "FlowGrid" ic cls ["java/lang/RuntimeException", "java/lang/Exception"]).filter goodWord, w ∈ Ts)
    (hng : ∀ w ∈ (vx_atS "FlowGrid" ic cls ["java/lang/RuntimeException", "java/lang/Exception"]).filter (fun w => !goodWord w), w ∈ Cond.castable cls cls :: fz_sup.map (fun Y => Cond.declares (Bundle.initS Y)))
    (hgood : ∀ w ∈ Cond.classLink "FlowGrid" ik cls :: Cond.initialized cls :: vx_atS "FlowGrid" ic cls ["java/lang/RuntimeException", "java/lang/Exception"], vx_ot w = true)
    (hXZ : fz_XZ A s s.heap) (hS : va_S A s.heap H locs) (hsize : ls.size = c.maxLocals) (htb : ∀ x ∈ c.exceptionTable.toList, False)
    (d0 : decode cc pc = .ok (.new ik, 3)) (d3 : decode cc (pc + 3) = .ok (.dup, 1)) (d4 : decode cc (pc + 4) = .ok (.ldc is, 2)) (d6 : decode cc (pc + 6) = .ok (.invokespecial ic, 3)) (d9 : decode cc (pc + 9) = .ok (.athrow, 1))
    (hRf : 5 < R.frames) (hRl : 82 ≤ R.locals) (hRc : 1 ≤ R.cells) (hRs : 6 ≤ R.slots) (hlocks : meth.locks = false)
    (hpost : PostX ws) (hP : va_P D vwCl ws H) (hK : va_K D vwCl tys s) (hD : va_D A ws) :
    W p l e R s m args below meth c H locs 0 0 (vx_MQ below (fun _ _ _ _ => False) (fz_XO D tys cls PostX A) args s 1 6 A) (F0 m pc ls []) := by
  obtain ⟨sa, hstr⟩ := hst (is, text) hq
  refine vx_throwS hx hb hlt hown hfit (fun n hn => ?_) hk hini hstr (vx_hat (fun w hw => hts w (hmem w hw)) hng (vx_c (va_Nw.use rfl (hca.1 cls hcm)) (fun w hw => by obtain ⟨Y, hY, rfl⟩ := List.mem_map.mp hw; exact va_Nw.use rfl (hca.2 Y hY)))) hgood hXZ.1 hXZ.2 hS hsize d0 d3 d4 d6 d9 (fun x hx => (htb x hx).elim) hRf (by show 0 + 82 ≤ _; omega) (by omega) (by omega) hlocks (fun t hvm hz hk => ?_) hS.2.2 (Nat.le_refl _) (Nat.le_refl _)
  · revert hn; revert n; decide +kernel
  · refine ⟨rfl, ⟨ws, hpost, fun k q hq => ?_, hD⟩, va_K.moved hvm hK, Nat.le_trans hS.1 hz, fun q h1 h2 => ?_⟩
    · exact (hP k q hq).kept (hk q.1 (hP k q hq).lt)
    · rw [hk q (Nat.lt_of_lt_of_le h1 hS.1)]; exact hS.2.1 q h1 h2
theorem fz_blindX {av : List Value} {sz : Nat} : FrameBlind (va_Pc av (fz_IX D tys wi sz)) := fun a U g mk q => by
  obtain ⟨q0, q1, q2, q3, q4⟩ := q
  exact ⟨q0, (fz_blind (av := av) a U g mk ⟨q0, q1⟩).2, q2.same rfl, q3.same rfl, q4.moved (Vm.Alike.refl U.vm)⟩
theorem fz_preSX {av : List Value} (hK : va_K D vwCl tys s) (hNW : fz_NW s) (hST : fz_ST s) (hCA : fz_CA s) (hXZ : fz_XZ A s H) (hF : ∀ q, va_A wi H.size q → A q) (hP : va_P D vwCl ws H) (hD : va_D A ws) (isC : List Nat) (hC : isC.map (fun i => ws[i]?) = wi.map some) (hnC : va_nd isC = true) : PreS s H (va_Pc av (fz_IX D tys wi H.size)) av :=
  ⟨fz_blindX, fun U hU hW => ⟨rfl, ((fz_preS (av := av) hK hNW hP hD isC hC hnC).2 U hU hW).2, hST.warm hW, hCA.warm hW, by rw [hU]; exact (hXZ.narrow hF).moved hW.alike⟩⟩
variable {Ts wsY : List Cond} {own : String} {y : MethodName} {bytes : ByteArray} {maxL nL n index : Nat} {ret : Option FieldType} {rm : Room} {As st0 : List Value} {b : Nat}
/-- a call that throws: behind it the exception q9 is on its way in this frame -/
theorem fz_callVT {C : String} (S : CallFix p m c cc nL s args Ts own) (hM : fz_T l D tys y wsY rm (.ref b :: As) wi E PostX) (cw : CallW R s args own C index y bytes maxL ret wsY rm 1 6 n) (hK : va_K D vwCl tys s) (hNW : fz_NW s) (hST : fz_ST s) (hCA : fz_CA s) (hXZ : fz_XZ A s H0) (hP : va_P D vwCl ws H) (hD : va_D A ws) (hS : va_S A H0 H locs) (hA : ∀ q, H0.size ≤ q → A q) (isC isR : List Nat) (hC : isC.map (fun i => ws[i]?) = wi.map some) (hnC : va_nd isC = true) (hR : isR.map (fun i => ws[i]?) = wr.map some) (hnR : va_nd isR = true) (hdis : ∀ i ∈ isR, i ∉ isC)
    {q0 ci : Nat} {fs : List Value} {q : vw_C} (hcl : vwCl[ci]? = some q) (hqC : q.1 = C) (he : ws[q0]? = some (b, .inr (ci, fs))) (hn : As.length = n) (hsize : ls.size = nL) (hstack : st0 = As.reverse ++ .ref b :: rest) (hW : (rest.map fun v => v.category).sum ≤ 8) (hdg : decode cc pc = .ok (.invokevirtual index, 3)) (hf : cells + 1 ≤ R.cells ∧ slots + 6 ≤ R.slots)
    (kx : ∀ (wo : va_W), PostX wo → ∀ (H1 : Heap) (locs1 : List Loc) (ce : Cell) (q9 : Addr), va_P D vwCl (wr ++ wo) H1 → va_D A (wr ++ wo) → va_S A H0 H1 locs1 → H1[q9]? = some ce → ce.vm = .none → s.vm.findClass E = some ce.cls → vx_W p l e R s m args below meth c H1 locs1 (cells + 1) (slots + 6) Q (F0 m pc ls rest) q9) : W p l e R s m args below meth c H locs cells slots Q (F0 m pc ls st0) := by
  have hF := va_free (wc := wi) hD hS hA isC hC
  have hp := fz_preSX (av := .ref b :: As) hK hNW hST hCA (hXZ.kept hS.2.1) hF hP hD isC hC hnC
  subst hqC
  intro T hT X
  rcases vx_runV S (hM H.size) cw ⟨hp.1, va_recv hK hP hcl he, hp.2⟩ rfl hn hsize hstack (lv_room hW) hdg hf T hT X with ⟨v, st₀, t, T', L, h0, X', hL, e1, e2, hfalse, st⟩ | ⟨q9, st₀, t, T', L, E', ce, h0, X', hL, e1, e2, ⟨rfl, ⟨wo, hpost, hP1, hD1⟩, hK1, hz, hk⟩, hce, hcv, hcl2, st⟩
  · exact hfalse.elim
  · rw [h0] at hz hk
    rw [← e1] at hP1 hz hk hce
    obtain ⟨hPj, hDj⟩ := va_join hP hD isC isR hC hR hnR hdis hk hF hP1 hD1
    obtain ⟨t2, a1, b1⟩ := kx wo hpost T'.heap (locs ++ L) ce q9 hPj hDj
      ⟨Nat.le_trans hS.1 hz, fun q h1 h2 => by rw [hk q (Nat.lt_of_lt_of_le h1 hS.1) (fun z => h2 (hF q z))]; exact hS.2.1 q h1 h2, fun q hq => by
        rcases List.mem_append.mp hq with h | h
        · exact hS.2.2 q h
        · exact hF _ (hL q h)⟩ hce hcv hcl2 T' rfl X'
    exact ⟨t2, st.trans a1, b1⟩
/-- the exception leaves this method too -/
theorem fz_pass {ce : Cell} {q9 : Addr} (htb : ∀ x ∈ c.exceptionTable.toList, False) (hlocks : meth.locks = false) (hce : H[q9]? = some ce) (hcv : ce.vm = .none) (hcl : s.vm.findClass E = some ce.cls) (hpost : PostX ws) (hP : va_P D vwCl ws H) (hK : va_K D vwCl tys s) (hD : va_D A ws) (hS : va_S A s.heap H locs) :
    vx_W p l e R s m args below meth c H locs (0 + 1) (0 + 6) (vx_MQ below (fun _ _ _ _ => False) (fz_XO D tys E PostX A) args s 1 6 A) (F0 m pc ls rest) q9 :=
  vx_out (fun x hx => (htb x hx).elim) hlocks hce hcv hcl (fun t ht hvm => ⟨rfl, ⟨ws, hpost, by rw [ht]; exact hP, hD⟩, va_K.moved hvm hK, hS.F ht⟩) hS.2.2 (Nat.le_refl _) (Nat.le_refl _)
end FZT
