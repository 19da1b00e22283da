section FZTN
variable {p : Program} {l : Launch} {e : Env} {R : Room} {s : State} {m : MethodId} {args : Array Value} {below : List Frame} {meth : Method} {c : Code} {H : Heap} {locs : List Loc}
variable {cc : ByteArray} {pc : Nat} {ls : Array Slot}
variable {D : va_G} {tys : List (ClassId × FieldType)} {ws : va_W} {A : Nat → Prop} {PostX : va_W → Prop}
/-- 'throw new NoSuchElementException("text")' in FlowGrid -/
theorem fz_throwN (hx : p.tables.exec = Jvm.exec) (hb : c.code = cc) (hlt : l.stackTraces = false) {text : String} {ik is : Nat} {Ts : List Cond} (hts : ∀ w ∈ Ts, w.before args s = true) (hown : s.vm.findClass "FlowGrid" = some m.cls) (hfit : Bundle.fit fz_NSE = true)
    (hk : (Cond.classLink "FlowGrid" ik fz_NSE).before args s = true) (hini : (Cond.initialized fz_NSE).before args s = true) (hst : fz_ST s) (hq : (is, text) ∈ fz_STq) (hca : fz_CA s) (hcm : fz_NSE ∈ [fz_IAE, fz_ISE, fz_NSE]) (hmem : ∀ w ∈ (vn_atS "FlowGrid" 108).filter goodWord, w ∈ Ts)
    (hng : ∀ w ∈ (vn_atS "FlowGrid" 108).filter (fun w => !goodWord w), w ∈ Cond.castable fz_NSE fz_NSE :: fz_sup.map (fun Y => Cond.declares (Bundle.initS Y)))
    (hgood : ∀ w ∈ Cond.classLink "FlowGrid" ik fz_NSE :: Cond.initialized fz_NSE :: vn_atS "FlowGrid" 108, vx_ot w = true)
    (hXZ : fz_XZ A s s.heap) (hS : va_S A s.heap H locs) (hsize : ls.size = c.maxLocals) (htb : ∀ x ∈ c.exceptionTable.toList, False)
    (d0 : decode cc pc = .ok (.new ik, 3)) (d3 : decode cc (pc + 3) = .ok (.dup, 1)) (d4 : decode cc (pc + 4) = .ok (.ldc is, 2)) (d6 : decode cc (pc + 6) = .ok (.invokespecial 108, 3)) (d9 : decode cc (pc + 9) = .ok (.athrow, 1))
    (hRf : 5 < R.frames) (hRl : 82 ≤ R.locals) (hRc : 1 ≤ R.cells) (hRs : 6 ≤ R.slots) (hlocks : meth.locks = false)
    (hpost : PostX ws) (hP : va_P D vwCl ws H) (hK : va_K D vwCl tys s) (hD : va_D A ws) :
    W p l e R s m args below meth c H locs 0 0 (vx_MQ below (fun _ _ _ _ => False) (fz_XO D tys fz_NSE PostX A) args s 1 6 A) (F0 m pc ls []) := by
  obtain ⟨sa, hstr⟩ := hst (is, text) hq
  refine vn_throwS hx hb hlt hown hk hini hstr (vx_hat (fun w hw => hts w (hmem w hw)) hng (vx_c (va_Nw.use rfl (hca.1 fz_NSE hcm)) (fun w hw => by obtain ⟨Y, hY, rfl⟩ := List.mem_map.mp hw; exact va_Nw.use rfl (hca.2 Y hY)))) hgood hXZ.1 hXZ.2 hS hsize d0 d3 d4 d6 d9 (fun x hx => (htb x hx).elim) hRf (by show 0 + 82 ≤ _; omega) (by omega) (by omega) hlocks (fun t hvm hz hk => ?_) hS.2.2 (Nat.le_refl _) (Nat.le_refl _)
  refine ⟨rfl, ⟨ws, hpost, fun k q hq => ?_, hD⟩, va_K.moved hvm hK, Nat.le_trans hS.1 hz, fun q h1 h2 => ?_⟩
  · exact (hP k q hq).kept (hk q.1 (hP k q hq).lt)
  · rw [hk q (Nat.lt_of_lt_of_le h1 hS.1)]; exact hS.2.1 q h1 h2
end FZTN
