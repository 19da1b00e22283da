/-! the contract whose end is told by a property of answer and cells (scratch cells may hold anything) -/
def fz_OE (D : va_G) (tys : List (ClassId × FieldType)) (Post : Option Value → va_W → Prop) (A : Nat → Prop) : Array Value → State → Outcome → State → Prop := fun _ st oc t => (∃ (ov : Option Value) (wo : va_W), oc = .returned ov ∧ Post ov wo ∧ va_P D vwCl wo t.heap ∧ va_D A wo) ∧ va_K D vwCl tys t ∧ va_F A st t
def fz_E (l : Launch) (D : va_G) (tys : List (ClassId × FieldType)) (y : MethodName) (wsY : List Cond) (rm : Room) (av : List Value) (wi : va_W) (Post : Option Value → va_W → Prop) : Prop := ∀ sz : Nat, Met l y wsY rm (va_Pc av (fz_I D tys wi sz)) (fz_OE D tys Post (va_A wi sz)) 0 0 (va_A wi sz)
theorem fz_startE {l : Launch} {D : va_G} {tys : List (ClassId × FieldType)} {y : MethodName} {wsY ws' : List Cond} {rm : Room} {av : List Value} {wi : va_W} {Post : Option Value → va_W → Prop} {cc : ByteArray} {maxL : Nat} {ret : Option FieldType} (hy : plainName y.cls = true) (hw : wsY = Cond.code y cc maxL ret :: ws') (hL : (lg_sl av).length ≤ maxL)
    (body : ∀ (p : Program) (e : Env) (s : State) (m : MethodId) (below : List Frame) (meth : Method) (c : Code) (A : Nat → Prop), p.tables.exec = Jvm.exec → c.code = cc → meth.sig.returnType = ret → meth.locks = false → c.maxLocals = maxL → s.vm.findClass y.cls = some m.cls → (∀ w ∈ wsY, w.before av.toArray s = true) → va_K D vwCl tys s → (∀ q, s.heap.size ≤ q → A q) → fz_NW s → ∀ (H : Heap) (locs : List Loc), va_P D vwCl wi H → va_D A wi → va_S A s.heap H locs → ∀ ls : Array Slot, lv_has ls maxL (lv_args 0 av) → W p l e rm s m av.toArray below meth c H locs 0 0 (MQ below (fz_OE D tys Post A) av.toArray s 0 0 A) (F0 m 0 ls [])) : fz_E l D tys y wsY rm av wi Post := by
  intro sz
  refine Met.ofW hy hw ?_
  intro p e s m args below meth c s₁ B hml hv
  obtain ⟨rfl, rfl, hP, hK, hD0, hNW⟩ := hv
  have hl := lv_entry av (n := maxL) hL
  rw [lg_entry_eq]
  exact body p e s m below meth c _ B.exec B.bytes B.returns B.notSynchronized hml (findClass_of_methodNamed B.named) (atoms_spec (ws := wsY) B.pre) hK (fun q h => Or.inr h) hNW _ _ hP (hD0.self (sz := s.heap.size)) va_S.rf _ hl
section FZE

variable {p : Program} {l : Launch} {e : Env} {R : Room} {s : State} {m : MethodId} {args : Array Value} {below : List Frame} {meth : Method} {c : Code} {H : Heap} {locs : List Loc} {cells slots : Nat} {Q : State → Prop}
variable {cc : ByteArray} {pc : Nat} {ls : Array Slot} {rest : List Value}

variable {D : va_G} {tys : List (ClassId × FieldType)} {ws wi wo wr ws' : va_W} {ov : Option Value} {A : Nat → Prop} {H0 : Heap} {Post : Option Value → va_W → Prop}
theorem fz_dretE {v : UInt64} (hx : p.tables.exec = Jvm.exec) (hb : c.code = cc) (hr : meth.sig.returnType = some .double) (hlocks : meth.locks = false) (hov : Post (some (.double v)) wo) (hP : va_P D vwCl wo H) (hK : va_K D vwCl tys s) (hD : va_D A wo) (hS : va_S A s.heap H locs) (hdg : decode cc pc = .ok (.dreturn, 1)) : W p l e R s m args below meth c H locs cells slots (MQ below (fz_OE D tys Post A) args s cells slots A) (F0 m pc ls [.double v]) := W.dret hx hb hr (fun t ht hW => ⟨⟨_, wo, rfl, hov, by rw [ht]; exact hP, hD⟩, va_K.moved hW.alike hK, hS.F ht⟩) hS.2.2 hdg hlocks
theorem fz_iretE {v : Int32} (hx : p.tables.exec = Jvm.exec) (hb : c.code = cc) (hr : meth.sig.returnType = some .int) (hlocks : meth.locks = false) (hov : Post (some (.int v)) wo) (hP : va_P D vwCl wo H) (hK : va_K D vwCl tys s) (hD : va_D A wo) (hS : va_S A s.heap H locs) (hdg : decode cc pc = .ok (.ireturn, 1)) : W p l e R s m args below meth c H locs cells slots (MQ below (fz_OE D tys Post A) args s cells slots A) (F0 m pc ls [.int v]) := W.iret hx hb hr (fun t ht hW => ⟨⟨_, wo, rfl, hov, by rw [ht]; exact hP, hD⟩, va_K.moved hW.alike hK, hS.F ht⟩) hS.2.2 hdg hlocks
theorem fz_zretE {v : Int32} (hx : p.tables.exec = Jvm.exec) (hb : c.code = cc) (hr : meth.sig.returnType = some .boolean) (hlocks : meth.locks = false) (hn : narrow .boolean (.int v) = .int v) (hov : Post (some (.int v)) wo) (hP : va_P D vwCl wo H) (hK : va_K D vwCl tys s) (hD : va_D A wo) (hS : va_S A s.heap H locs) (hdg : decode cc pc = .ok (.ireturn, 1)) : W p l e R s m args below meth c H locs cells slots (MQ below (fz_OE D tys Post A) args s cells slots A) (F0 m pc ls [.int v]) := W.zret hx hb hr hn (fun t ht hW => ⟨⟨_, wo, rfl, hov, by rw [ht]; exact hP, hD⟩, va_K.moved hW.alike hK, hS.F ht⟩) hS.2.2 hdg hlocks
theorem fz_vretE (hx : p.tables.exec = Jvm.exec) (hb : c.code = cc) (hr : meth.sig.returnType = none) (hlocks : meth.locks = false) (hov : Post (none) wo) (hP : va_P D vwCl wo H) (hK : va_K D vwCl tys s) (hD : va_D A wo) (hS : va_S A s.heap H locs) (hdg : decode cc pc = .ok (.return_, 1)) : W p l e R s m args below meth c H locs cells slots (MQ below (fz_OE D tys Post A) args s cells slots A) (F0 m pc ls []) := W.vret hx hb hr (fun t ht hW => ⟨⟨_, wo, rfl, hov, by rw [ht]; exact hP, hD⟩, va_K.moved hW.alike hK, hS.F ht⟩) hS.2.2 hdg hlocks
theorem fz_callE {a : Array Value} {st0 : List Value} (hr : va_Run p l e R s m args below meth c H locs cells slots 0 0 (F0 m pc ls st0) rest (fz_OE D tys Post (va_A wi H.size) a) (va_A wi H.size)) (hP : va_P D vwCl ws H) (hD : va_D A ws) (hS : va_S A H0 H locs) (hA : ∀ q, H0.size ≤ q → A q) (isC isR : List Nat) (hC : isC.map (fun i => ws[i]?) = wi.map some) (hR : isR.map (fun i => ws[i]?) = wr.map some) (hnR : va_nd isR = true) (hdis : ∀ i ∈ isR, i ∉ isC)
    (kk : ∀ (ov : Option Value) (wo : va_W), Post ov wo → ∀ (H1 : Heap) (locs1 : List Loc), va_P D vwCl (wr ++ wo) H1 → va_D A (wr ++ wo) → va_S A H0 H1 locs1 → W p l e R s m args below meth c H1 locs1 cells slots Q (F0 m (pc + 3) ls (ov.toList ++ rest))) : W p l e R s m args below meth c H locs cells slots Q (F0 m pc ls st0) := by
  intro T hT X
  obtain ⟨v, st₀, t, T', L, h0, X', hL, e1, e2, ⟨⟨ov, wo, hv, hpost, hP1, hD1⟩, hK1, hz, hk⟩, st⟩ := hr T hT X
  cases hv
  rw [h0] at hz hk
  rw [← e1] at hP1 hz hk
  have hF := va_free (wc := wi) hD hS hA isC hC
  obtain ⟨hPj, hDj⟩ := va_join hP hD isC isR hC hR hnR hdis hk hF hP1 hD1
  obtain ⟨t2, a1, b1⟩ := kk _ wo hpost T'.heap (locs ++ L) hPj hDj
    ⟨Nat.le_trans hS.1 hz, fun q h1 h2 => by rw [hk q (Nat.lt_of_lt_of_le h1 hS.1) (fun z => h2 (hF q z))]; exact hS.2.1 q h1 h2, fun q hq => by
      rcases List.mem_append.mp hq with h | h
      · exact hS.2.2 q h
      · exact hF _ (hL q h)⟩ T' rfl X'
  exact ⟨t2, st t2 a1, b1⟩
variable {Ts wsY : List Cond} {own : String} {y : MethodName} {bytes : ByteArray} {maxL nL n index : Nat} {ret : Option FieldType} {rm : Room} {As st0 : List Value} {b : Nat}
theorem fz_callVE {C : String} (S : CallFix p m c cc nL s args Ts own) (hM : fz_E l D tys y wsY rm (.ref b :: As) wi Post) (cw : CallW R s args own C index y bytes maxL ret wsY rm 0 0 n) (hK : va_K D vwCl tys s) (hNW : fz_NW s) (hP : va_P D vwCl ws H) (hD : va_D A ws) (hS : va_S A H0 H locs) (hA : ∀ q, H0.size ≤ q → A q) (isC isR : List Nat) (hC : isC.map (fun i => ws[i]?) = wi.map some) (hnC : va_nd isC = true) (hR : isR.map (fun i => ws[i]?) = wr.map some) (hnR : va_nd isR = true) (hdis : ∀ i ∈ isR, i ∉ isC)
    {q0 ci : Nat} {fs : List Value} {q : vw_C} (hcl : vwCl[ci]? = some q) (hqC : q.1 = C) (he : ws[q0]? = some (b, .inr (ci, fs))) (hn : As.length = n) (hsize : ls.size = nL) (hstack : st0 = As.reverse ++ .ref b :: rest) (hW : (rest.map fun v => v.category).sum ≤ 8) (hdg : decode cc pc = .ok (.invokevirtual index, 3)) (hf : cells + 0 ≤ R.cells ∧ slots + 0 ≤ R.slots)
    (kk : ∀ (ov : Option Value) (wo : va_W), Post ov wo → ∀ (H1 : Heap) (locs1 : List Loc), va_P D vwCl (wr ++ wo) H1 → va_D A (wr ++ wo) → va_S A H0 H1 locs1 → W p l e R s m args below meth c H1 locs1 cells slots Q (F0 m (pc + 3) ls (ov.toList ++ rest))) : W p l e R s m args below meth c H locs cells slots Q (F0 m pc ls st0) := by
  have hp := fz_preS (av := .ref b :: As) hK hNW hP hD isC hC hnC
  subst hqC
  exact fz_callE (va_runV S (hM H.size) cw ⟨hp.1, va_recv hK hP hcl he, hp.2⟩ rfl hn hsize hstack (lv_room hW) hdg hf) hP hD hS hA isC isR hC hR hnR hdis kk
end FZE
theorem fz_pre_c {lo n : Nat} {g g' d : Nat → UInt64} (h : ∀ j, j < n → g j = g' j) : fz_pre lo n g d = fz_pre lo n g' d := by
  funext q
  unfold fz_pre
  by_cases hq : lo ≤ q ∧ q < n + lo
  · rw [if_pos hq, if_pos hq, h _ (by omega)]
  · rw [if_neg hq, if_neg hq]
