/-! constructors: contracts that make cells -/
def fz_M (l : Launch) (D : va_G) (tys : List (ClassId × FieldType)) (y : MethodName) (wsY : List Cond) (rm : Room) (av : List Value) (wi : va_W) (Post : Option Value → va_W → Prop) (mc ms : Nat) : Prop := ∀ sz : Nat, Met l y wsY rm (va_Pc av (fz_I D tys wi sz)) (fz_OE D tys Post (va_A wi sz)) mc ms (va_A wi sz)
theorem fz_startM {l : Launch} {D : va_G} {tys : List (ClassId × FieldType)} {y : MethodName} {wsY ws' : List Cond} {rm : Room} {av : List Value} {wi : va_W} {Post : Option Value → va_W → Prop} {mc ms : Nat} {cc : ByteArray} {maxL : Nat} {ret : Option FieldType} (hy : plainName y.cls = true) (hw : wsY = Cond.code y cc maxL ret :: ws') (hL : (lg_sl av).length ≤ maxL)
    (body : ∀ (p : Program) (e : Env) (s : State) (m : MethodId) (below : List Frame) (meth : Method) (c : Code) (A : Nat → Prop), p.tables.exec = Jvm.exec → c.code = cc → meth.sig.returnType = ret → meth.locks = false → c.maxLocals = maxL → s.vm.findClass y.cls = some m.cls → (∀ w ∈ wsY, w.before av.toArray s = true) → va_K D vwCl tys s → (∀ q, s.heap.size ≤ q → A q) → fz_NW s → meth.name = y.name → ∀ (H : Heap) (locs : List Loc), va_P D vwCl wi H → va_D A wi → va_S A s.heap H locs → ∀ ls : Array Slot, lv_has ls maxL (lv_args 0 av) → W p l e rm s m av.toArray below meth c H locs 0 0 (MQ below (fz_OE D tys Post A) av.toArray s mc ms A) (F0 m 0 ls [])) : fz_M l D tys y wsY rm av wi Post mc ms := by
  intro sz
  refine Met.ofW hy hw ?_
  intro p e s m args below meth c s₁ B hml hv
  obtain ⟨rfl, rfl, hP, hK, hD0, hNW⟩ := hv
  have hl := lv_entry av (n := maxL) hL
  rw [lg_entry_eq]
  exact body p e s m below meth c _ B.exec B.bytes B.returns B.notSynchronized hml (findClass_of_methodNamed B.named) (atoms_spec (ws := wsY) B.pre) hK (fun q h => Or.inr h) hNW (name_of_methodNamed B.named B.method).1 _ _ hP (hD0.self (sz := s.heap.size)) va_S.rf _ hl
section FZM

variable {p : Program} {l : Launch} {e : Env} {R : Room} {s : State} {m : MethodId} {args : Array Value} {below : List Frame} {meth : Method} {c : Code} {H : Heap} {locs : List Loc} {cells slots : Nat} {Q : State → Prop}
variable {cc : ByteArray} {pc : Nat} {ls : Array Slot} {rest : List Value}

variable {D : va_G} {tys : List (ClassId × FieldType)} {ws wi wo wr ws' : va_W} {ov : Option Value} {A : Nat → Prop} {H0 : Heap} {Post : Option Value → va_W → Prop}
theorem fz_newar (hx : p.tables.exec = Jvm.exec) (hb : c.code = cc) (harr : (Cond.arrayClass .double).before args s = true) (hK : va_K D vwCl tys s) {cD : ClassId} (t0 : Nat) (ht : tys[t0]? = some (cD, .double)) (hP : va_P D vwCl ws H) (hD : va_D A ws) (hS : va_S A H0 H locs) (hA : ∀ q, H0.size ≤ q → A q) {N : Nat} (hN : N < 2 ^ 31) (hbytes : N * componentBytes .double ≤ 536870912) (hcells : cells + 1 ≤ R.cells) (hslots : slots + N ≤ R.slots) (hdg : decode cc pc = .ok (.newarray .double, 2))
    (kk : ∀ (q : Nat) (H1 : Heap), va_P D vwCl (ws ++ [(q, fz_da cD N (fun _ => FP.dconst0))]) H1 → va_D A (ws ++ [(q, fz_da cD N (fun _ => FP.dconst0))]) → va_S A H0 H1 locs → W p l e R s m args below meth c H1 locs (cells + 1) (slots + N) Q (F0 m (pc + 2) ls (.ref q :: rest))) : W p l e R s m args below meth c H locs cells slots Q (F0 m pc ls (.int (nI N) :: rest)) := by
  refine va_newa (atype := .double) (ty := .double) (a0 := (N, .inr (.inr (.inr (.inl (fun _ => FP.dconst0)))))) hx hb harr rfl hK hP hD hS hA (fun cA => rfl) (nI_pos hN) (nI_clamp hN) hbytes hcells hslots hdg (fun q cA H1 hK2 hP2 hD2 hS2 => ?_)
  have h1 := (hK.2 t0 _ ht).2
  have h2 := (hK2.2 tys.length (cA, .double) (by rw [List.getElem?_append_right (Nat.le_refl _), Nat.sub_self]; rfl)).2
  have h3 : cA = cD := Option.some.inj ((show s.vm.findClass _ = some cA from h2).symm.trans (show s.vm.findClass _ = some cD from h1))
  subst h3
  exact kk q H1 hP2 hD2 hS2
theorem fz_callM {a : Array Value} {st0 : List Value} {mc ms : Nat} (hr : va_Run p l e R s m args below meth c H locs cells slots mc ms (F0 m pc ls st0) rest (fz_OE D tys Post (va_A wi H.size) a) (va_A wi H.size)) (hP : va_P D vwCl ws H) (hD : va_D A ws) (hS : va_S A H0 H locs) (hA : ∀ q, H0.size ≤ q → A q) (isC isR : List Nat) (hC : isC.map (fun i => ws[i]?) = wi.map some) (hR : isR.map (fun i => ws[i]?) = wr.map some) (hnR : va_nd isR = true) (hdis : ∀ i ∈ isR, i ∉ isC)
    (kk : ∀ (ov : Option Value) (wo : va_W), Post ov wo → ∀ (H1 : Heap) (locs1 : List Loc), va_P D vwCl (wr ++ wo) H1 → va_D A (wr ++ wo) → va_S A H0 H1 locs1 → W p l e R s m args below meth c H1 locs1 (cells + mc) (slots + ms) Q (F0 m (pc + 3) ls (ov.toList ++ rest))) : W p l e R s m args below meth c H locs cells slots Q (F0 m pc ls st0) := by
  intro T hT X
  obtain ⟨v, st₀, t, T', L, h0, X', hL, e1, e2, ⟨⟨ov, wo, hv, hpost, hP1, hD1⟩, hK1, hz, hk⟩, st⟩ := hr T hT X
  cases hv
  rw [h0] at hz hk
  rw [← e1] at hP1 hz hk
  have hF := va_free (wc := wi) hD hS hA isC hC
  obtain ⟨hPj, hDj⟩ := va_join hP hD isC isR hC hR hnR hdis hk hF hP1 hD1
  obtain ⟨t2, a1, b1⟩ := kk _ wo hpost T'.heap (locs ++ L) hPj hDj
    ⟨Nat.le_trans hS.1 hz, fun q h1 h2 => by rw [hk q (Nat.lt_of_lt_of_le h1 hS.1) (fun z => h2 (hF q z))]; exact hS.2.1 q h1 h2, fun q hq => by
      rcases List.mem_append.mp hq with h | h
      · exact hS.2.2 q h
      · exact hF _ (hL q h)⟩ T' rfl X'
  exact ⟨t2, st t2 a1, b1⟩
variable {Ts wsY : List Cond} {own : String} {y : MethodName} {bytes : ByteArray} {maxL nL n index mc ms : Nat} {ret : Option FieldType} {rm : Room} {As st0 : List Value} {b : Nat}
theorem fz_callIN {host : String} (S : CallFix p m c cc nL s args Ts own) (hM : fz_M l D tys y wsY rm (.ref b :: As) wi Post mc ms) (cw : va_CN R s args own index y host bytes maxL none wsY rm mc ms n ∧ y.name = "<init>" ∧ (Cond.instanceMethod y).before args s = true) (hK : va_K D vwCl tys s) (hNW : fz_NW s) (hP : va_P D vwCl ws H) (hD : va_D A ws) (hS : va_S A H0 H locs) (hA : ∀ q, H0.size ≤ q → A q) (isC isR : List Nat) (hC : isC.map (fun i => ws[i]?) = wi.map some) (hnC : va_nd isC = true) (hR : isR.map (fun i => ws[i]?) = wr.map some) (hnR : va_nd isR = true) (hdis : ∀ i ∈ isR, i ∉ isC)
    (hn : As.length = n) (hsize : ls.size = nL) (hstack : st0 = As.reverse ++ .ref b :: rest) (hW : (rest.map fun v => v.category).sum ≤ 8) (hdg : decode cc pc = .ok (.invokespecial index, 3)) (hf : cells + mc ≤ R.cells ∧ slots + ms ≤ R.slots)
    (kk : ∀ (ov : Option Value) (wo : va_W), Post ov wo → ∀ (H1 : Heap) (locs1 : List Loc), va_P D vwCl (wr ++ wo) H1 → va_D A (wr ++ wo) → va_S A H0 H1 locs1 → W p l e R s m args below meth c H1 locs1 (cells + mc) (slots + ms) Q (F0 m (pc + 3) ls (ov.toList ++ rest))) : W p l e R s m args below meth c H locs cells slots Q (F0 m pc ls st0) :=
  fz_callM (va_runIN S (hM H.size) cw (fz_preS hK hNW hP hD isC hC hnC) rfl hn hsize hstack (lv_room hW) hdg hf) hP hD hS hA isC isR hC hR hnR hdis kk
theorem fz_callI (S : CallFix p m c cc nL s args Ts own) (hM : fz_M l D tys y wsY rm (.ref b :: As) wi Post mc ms) (cw : CallB R s args own index y bytes maxL none wsY rm mc ms n ∧ y.name = "<init>" ∧ (Cond.instanceMethod y).before args s = true) (hK : va_K D vwCl tys s) (hNW : fz_NW s) (hP : va_P D vwCl ws H) (hD : va_D A ws) (hS : va_S A H0 H locs) (hA : ∀ q, H0.size ≤ q → A q) (isC isR : List Nat) (hC : isC.map (fun i => ws[i]?) = wi.map some) (hnC : va_nd isC = true) (hR : isR.map (fun i => ws[i]?) = wr.map some) (hnR : va_nd isR = true) (hdis : ∀ i ∈ isR, i ∉ isC)
    (hn : As.length = n) (hsize : ls.size = nL) (hstack : st0 = As.reverse ++ .ref b :: rest) (hW : (rest.map fun v => v.category).sum ≤ 8) (hdg : decode cc pc = .ok (.invokespecial index, 3)) (hf : cells + mc ≤ R.cells ∧ slots + ms ≤ R.slots)
    (kk : ∀ (ov : Option Value) (wo : va_W), Post ov wo → ∀ (H1 : Heap) (locs1 : List Loc), va_P D vwCl (wr ++ wo) H1 → va_D A (wr ++ wo) → va_S A H0 H1 locs1 → W p l e R s m args below meth c H1 locs1 (cells + mc) (slots + ms) Q (F0 m (pc + 3) ls (ov.toList ++ rest))) : W p l e R s m args below meth c H locs cells slots Q (F0 m pc ls st0) :=
  fz_callM (va_runI S (hM H.size) cw (fz_preS hK hNW hP hD isC hC hnC) rfl hn hsize hstack (lv_room hW) hdg hf) hP hD hS hA isC isR hC hR hnR hdis kk
end FZM
