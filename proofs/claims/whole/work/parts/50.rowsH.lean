/-! the law's helpers: a call within try, and its catch; each makes at most one exception -/
def fz_IH (D : va_G) (tys : List (ClassId × FieldType)) (wi : va_W) (sz : Nat) (U : State) : Prop := fz_IX D tys wi sz U ∧ va_Nc fz_ISE fz_IAE U
def fz_H (l : Launch) (D : va_G) (tys : List (ClassId × FieldType)) (y : MethodName) (wsY : List Cond) (rm : Room) (av : List Value) (wi : va_W) (Post : Option Value → va_W → Prop) : Prop := ∀ sz : Nat, Met l y wsY rm (va_Pc av (fz_IH D tys wi sz)) (fz_OE D tys Post (va_A wi sz)) 1 6 (va_A wi sz)
theorem fz_startH {l : Launch} {D : va_G} {tys : List (ClassId × FieldType)} {y : MethodName} {wsY ws' : List Cond} {rm : Room} {av : List Value} {wi : va_W} {Post : Option Value → va_W → Prop} {cc : ByteArray} {maxL : Nat} {ret : Option FieldType} {hh : List (Nat × Nat × Nat × Nat)} (hy : plainName y.cls = true) (hw : wsY = Cond.codeWith y cc maxL ret hh :: ws') (hL : (lg_sl av).length ≤ maxL)
    (body : ∀ (p : Program) (e : Env) (s : State) (m : MethodId) (below : List Frame) (meth : Method) (c : Code) (A : Nat → Prop), p.tables.exec = Jvm.exec → c.code = cc → meth.sig.returnType = ret → meth.locks = false → c.maxLocals = maxL → s.vm.findClass y.cls = some m.cls → (∀ w ∈ wsY, w.before av.toArray s = true) → va_K D vwCl tys s → (∀ q, s.heap.size ≤ q → A q) → fz_NW s → c.exceptionTable.toList = tableOf hh → fz_ST s → fz_CA s → fz_XZ A s s.heap → va_Nc fz_ISE fz_IAE s → ∀ (H : Heap) (locs : List Loc), va_P D vwCl wi H → va_D A wi → va_S A s.heap H locs → ∀ ls : Array Slot, lv_has ls maxL (lv_args 0 av) → W p l e rm s m av.toArray below meth c H locs 0 0 (MQ below (fz_OE D tys Post A) av.toArray s 1 6 A) (F0 m 0 ls [])) : fz_H l D tys y wsY rm av wi Post := by
  intro sz
  refine va_MetW hy hw ?_
  intro p e s m args below meth c s₁ B hml hv
  obtain ⟨rfl, ⟨⟨rfl, hP, hK, hD0, hNW⟩, hST, hCA, hXZ⟩, hNc⟩ := hv
  have hl := lv_entry av (n := maxL) hL
  have hts := atoms_spec (ws := wsY) B.pre
  have htb := vx_table (x := y) B (hts _ (by rw [hw]; exact List.mem_cons_self))
  rw [lg_entry_eq]
  exact body p e s m below meth c _ B.exec B.bytes B.returns B.notSynchronized hml (findClass_of_methodNamed B.named) hts hK (fun q h => Or.inr h) hNW htb hST hCA hXZ hNc _ _ hP (hD0.self (sz := s.heap.size)) va_S.rf _ hl
section FZH

variable {p : Program} {l : Launch} {e : Env} {R : Room} {s : State} {m : MethodId} {args : Array Value} {below : List Frame} {meth : Method} {c : Code} {H : Heap} {locs : List Loc} {cells slots : Nat} {Q : State → Prop}
variable {cc : ByteArray} {pc : Nat} {ls : Array Slot} {rest : List Value}

variable {D : va_G} {tys : List (ClassId × FieldType)} {ws wi wo wr ws' : va_W} {ov : Option Value} {A : Nat → Prop} {H0 : Heap} {Post : Option Value → va_W → Prop}
theorem fz_widen {g : JFrame} {k n : Nat} (h1 : cells ≤ k) (h2 : slots ≤ n) (kk : W p l e R s m args below meth c H locs k n Q g) : W p l e R s m args below meth c H locs cells slots Q g := fun T hT X => kk T hT (stand_widen X h1 h2)
theorem fz_preSH {av : List Value} (hK : va_K D vwCl tys s) (hNW : fz_NW s) (hST : fz_ST s) (hCA : fz_CA s) (hXZ : fz_XZ A s H) (hNc : va_Nc fz_ISE fz_IAE s) (hF : ∀ q, va_A wi H.size q → A q) (hP : va_P D vwCl ws H) (hD : va_D A ws) (isC : List Nat) (hC : isC.map (fun i => ws[i]?) = wi.map some) (hnC : va_nd isC = true) : PreS s H (va_Pc av (fz_IH D tys wi H.size)) av :=
  ⟨fun a U g mk q => ⟨q.1, (fz_blindX (av := av) a U g mk ⟨q.1, q.2.1⟩).2, va_Nc.moved (u := U) (U := U.calling g mk a) (Vm.Alike.refl U.vm) q.2.2⟩,
   fun U hU hW => ⟨rfl, ((fz_preSX (av := av) hK hNW hST hCA hXZ hF hP hD isC hC hnC).2 U hU hW).2, va_Nc.moved hW.alike hNc⟩⟩
variable {Ts wsY : List Cond} {own : String} {y : MethodName} {bytes : ByteArray} {maxL nL n index : Nat} {ret : Option FieldType} {rm : Room} {As st0 : List Value} {b : Nat} {hh : List (Nat × Nat × Nat × Nat)}
theorem fz_callH (S : CallFix p m c cc nL s args Ts own) (hM : fz_H l D tys y wsY rm As wi Post) (cw : vx_CSW R s args own index y bytes maxL ret hh wsY rm 1 6 n) (hK : va_K D vwCl tys s) (hNW : fz_NW s) (hST : fz_ST s) (hCA : fz_CA s) (hXZ : fz_XZ A s H0) (hNc : va_Nc fz_ISE fz_IAE s) (hP : va_P D vwCl ws H) (hD : va_D A ws) (hS : va_S A H0 H locs) (hA : ∀ q, H0.size ≤ q → A q) (isC isR : List Nat) (hC : isC.map (fun i => ws[i]?) = wi.map some) (hnC : va_nd isC = true) (hR : isR.map (fun i => ws[i]?) = wr.map some) (hnR : va_nd isR = true) (hdis : ∀ i ∈ isR, i ∉ isC)
    (hn : As.length = n) (hsize : ls.size = nL) (hstack : st0 = As.reverse ++ rest) (hW : (rest.map fun v => v.category).sum ≤ 8) (hdg : decode cc pc = .ok (.invokestatic index, 3)) (hf : cells + 1 ≤ R.cells ∧ slots + 6 ≤ R.slots)
    (kk : ∀ (ov : Option Value) (wo : va_W), Post ov wo → ∀ (H1 : Heap) (locs1 : List Loc), va_P D vwCl (wr ++ wo) H1 → va_D A (wr ++ wo) → va_S A H0 H1 locs1 → W p l e R s m args below meth c H1 locs1 (cells + 1) (slots + 6) Q (F0 m (pc + 3) ls (ov.toList ++ rest))) : W p l e R s m args below meth c H locs cells slots Q (F0 m pc ls st0) :=
  fz_callM (vx_runSW S (hM H.size) cw (fz_preSH hK hNW hST hCA (hXZ.kept hS.2.1) hNc (va_free (wc := wi) hD hS hA isC hC) hP hD isC hC hnC) rfl hn hsize hstack (lv_room hW) hdg hf) hP hD hS hA isC isR hC hR hnR hdis kk
/-- the end of a helper: v on the stack, at most one exception made -/
theorem fz_iretH {v : Int32} (hc : cells ≤ 1) (hs : slots ≤ 6) (hx : p.tables.exec = Jvm.exec) (hb : c.code = cc) (hr : meth.sig.returnType = some .int) (hlocks : meth.locks = false) (hov : Post (some (.int v)) wo) (hP : va_P D vwCl wo H) (hK : va_K D vwCl tys s) (hD : va_D A wo) (hS : va_S A s.heap H locs) (hdg : decode cc pc = .ok (.ireturn, 1)) : W p l e R s m args below meth c H locs cells slots (MQ below (fz_OE D tys Post A) args s 1 6 A) (F0 m pc ls [.int v]) := fz_widen hc hs (fz_iretE hx hb hr hlocks hov hP hK hD hS hdg)
/-- caught by the first row of the table -/
theorem fz_catch1 {E : String} {ce : Cell} {q9 : Addr} {x : ExceptionTableEntry} {suf : List ExceptionTableEntry} (hown : s.vm.findClass own = some m.cls) (htb : c.exceptionTable.toList = x :: suf) (hcov : covers x pc = true) (h0 : x.catchType ≠ 0) (hlink : (Cond.classLink own x.catchType E).before args s = true) (hca : fz_CA s) (hE : E ∈ [fz_IAE, fz_ISE, fz_NSE]) (hce : H[q9]? = some ce) (hcv : ce.vm = .none) (hcl : s.vm.findClass E = some ce.cls)
    (kk : W p l e R s m args below meth c H locs cells slots Q (F0 m x.handlerPc ls [.ref q9])) : vx_W p l e R s m args below meth c H locs cells slots Q (F0 m pc ls rest) q9 :=
  vx_catch hown [] x suf htb (fun _ h => absurd h List.not_mem_nil) hcov h0 hlink (va_Nw.use rfl (hca.1 E hE)) hce hcv hcl kk
/-- an ISE: past the first row, which names IAE -/
theorem fz_catch2 {ce : Cell} {q9 : Addr} {z x : ExceptionTableEntry} {suf : List ExceptionTableEntry} (hown : s.vm.findClass own = some m.cls) (htb : c.exceptionTable.toList = z :: x :: suf) (hz0 : z.catchType ≠ 0) (hzl : (Cond.classLink own z.catchType fz_IAE).before args s = true) (hNc : va_Nc fz_ISE fz_IAE s) (hcov : covers x pc = true) (h0 : x.catchType ≠ 0) (hlink : (Cond.classLink own x.catchType fz_ISE).before args s = true) (hca : fz_CA s) (hce : H[q9]? = some ce) (hcv : ce.vm = .none) (hcl : s.vm.findClass fz_ISE = some ce.cls)
    (kk : W p l e R s m args below meth c H locs cells slots Q (F0 m x.handlerPc ls [.ref q9])) : vx_W p l e R s m args below meth c H locs cells slots Q (F0 m pc ls rest) q9 :=
  vx_catch hown [z] x suf htb (fun w hw => by
    cases List.mem_singleton.mp hw
    exact Or.inr ⟨hz0, _, hzl, hNc⟩) hcov h0 hlink (va_Nw.use rfl (hca.1 fz_ISE (by decide))) hce hcv hcl kk
end FZH
