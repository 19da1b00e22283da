/-! fused rows: ints that are nI of a Nat, doubles compared, the standard contract of a method that makes nothing -/
def fz_lt (x y : UInt64) : Bool := FP.dcmp x y == some .lt
def fz_le (x y : UInt64) : Bool := FP.dcmp x y == some .lt || FP.dcmp x y == some .eq
def fz_eq (x y : UInt64) : Bool := FP.dcmp x y == some .eq
theorem fz_swap (x y : UInt64) : FP.dcmp y x = (FP.dcmp x y).map Ordering.swap := FP.Core.dcmp_swap x y
section FZ
variable {p : Program} {l : Launch} {e : Env} {R : Room} {s : State} {m : MethodId} {args : Array Value} {below : List Frame} {meth : Method} {c : Code} {H : Heap} {locs : List Loc} {cells slots : Nat} {Q : State → Prop}
variable {cc : ByteArray} {pc : Nat} {ls : Array Slot} {rest : List Value}

theorem fz_iaddN (hx : p.tables.exec = Jvm.exec) (hb : c.code = cc) {a b : Nat} (hdg : decode cc pc = .ok (.iadd, 1)) (k : W p l e R s m args below meth c H locs cells slots Q (F0 m (pc + 1) ls (.int (nI (a + b)) :: rest))) : W p l e R s m args below meth c H locs cells slots Q (F0 m pc ls (.int (nI b) :: .int (nI a) :: rest)) := lv_iadd hx hb hdg (by rw [nI_add]; exact k)
theorem fz_imulN (hx : p.tables.exec = Jvm.exec) (hb : c.code = cc) {a b : Nat} (hdg : decode cc pc = .ok (.imul, 1)) (k : W p l e R s m args below meth c H locs cells slots Q (F0 m (pc + 1) ls (.int (nI (a * b)) :: rest))) : W p l e R s m args below meth c H locs cells slots Q (F0 m pc ls (.int (nI b) :: .int (nI a) :: rest)) := lv_imul hx hb hdg (by rw [pk_mul]; exact k)
theorem fz_isubN (hx : p.tables.exec = Jvm.exec) (hb : c.code = cc) {a b : Nat} (hba : b ≤ a) (hdg : decode cc pc = .ok (.isub, 1)) (k : W p l e R s m args below meth c H locs cells slots Q (F0 m (pc + 1) ls (.int (nI (a - b)) :: rest))) : W p l e R s m args below meth c H locs cells slots Q (F0 m pc ls (.int (nI b) :: .int (nI a) :: rest)) := lv_isub hx hb hdg (by rw [pk_sub hba]; exact k)
theorem fz_topn {a b : Nat} (hab : a = b) (k : W p l e R s m args below meth c H locs cells slots Q (F0 m pc ls (.int (nI b) :: rest))) : W p l e R s m args below meth c H locs cells slots Q (F0 m pc ls (.int (nI a) :: rest)) := by rw [hab]; exact k
theorem fz_icmp_geN (hx : p.tables.exec = Jvm.exec) (hb : c.code = cc) {a b : Nat} (h1 : a < 2 ^ 31) (h2 : b < 2 ^ 31) {off : Int} {tgt : Nat} (hdg : decode cc pc = .ok (.if_icmp .ge off, 3)) (ht : (pc : Int) + off = (tgt : Int)) (kt : b ≤ a → W p l e R s m args below meth c H locs cells slots Q (F0 m tgt ls rest)) (kf : a < b → W p l e R s m args below meth c H locs cells slots Q (F0 m (pc + 3) ls rest)) : W p l e R s m args below meth c H locs cells slots Q (F0 m pc ls (.int (nI b) :: .int (nI a) :: rest)) := lv_icmp_ge hx hb hdg ht (fun h => kt ((nI_leI h2 h1).mp h)) (fun h => kf (Nat.lt_of_not_le (fun q => h ((nI_leI h2 h1).mpr q))))
theorem fz_icmp_gtN (hx : p.tables.exec = Jvm.exec) (hb : c.code = cc) {a b : Nat} (h1 : a < 2 ^ 31) (h2 : b < 2 ^ 31) {off : Int} {tgt : Nat} (hdg : decode cc pc = .ok (.if_icmp .gt off, 3)) (ht : (pc : Int) + off = (tgt : Int)) (kt : b < a → W p l e R s m args below meth c H locs cells slots Q (F0 m tgt ls rest)) (kf : a ≤ b → W p l e R s m args below meth c H locs cells slots Q (F0 m (pc + 3) ls rest)) : W p l e R s m args below meth c H locs cells slots Q (F0 m pc ls (.int (nI b) :: .int (nI a) :: rest)) := lv_icmp_gt hx hb hdg ht (fun h => kt ((nI_ltI h2 h1).mp h)) (fun h => kf (Nat.le_of_not_lt (fun q => h ((nI_ltI h2 h1).mpr q))))
theorem fz_icmp_leN (hx : p.tables.exec = Jvm.exec) (hb : c.code = cc) {a b : Nat} (h1 : a < 2 ^ 31) (h2 : b < 2 ^ 31) {off : Int} {tgt : Nat} (hdg : decode cc pc = .ok (.if_icmp .le off, 3)) (ht : (pc : Int) + off = (tgt : Int)) (kt : a ≤ b → W p l e R s m args below meth c H locs cells slots Q (F0 m tgt ls rest)) (kf : b < a → W p l e R s m args below meth c H locs cells slots Q (F0 m (pc + 3) ls rest)) : W p l e R s m args below meth c H locs cells slots Q (F0 m pc ls (.int (nI b) :: .int (nI a) :: rest)) := lv_icmp_le hx hb hdg ht (fun h => kt ((nI_leI h1 h2).mp h)) (fun h => kf (Nat.lt_of_not_le (fun q => h ((nI_leI h1 h2).mpr q))))
theorem fz_icmp_ltN (hx : p.tables.exec = Jvm.exec) (hb : c.code = cc) {a b : Nat} (h1 : a < 2 ^ 31) (h2 : b < 2 ^ 31) {off : Int} {tgt : Nat} (hdg : decode cc pc = .ok (.if_icmp .lt off, 3)) (ht : (pc : Int) + off = (tgt : Int)) (kt : a < b → W p l e R s m args below meth c H locs cells slots Q (F0 m tgt ls rest)) (kf : b ≤ a → W p l e R s m args below meth c H locs cells slots Q (F0 m (pc + 3) ls rest)) : W p l e R s m args below meth c H locs cells slots Q (F0 m pc ls (.int (nI b) :: .int (nI a) :: rest)) := lv_icmp_lt hx hb hdg ht (fun h => kt ((nI_ltI h1 h2).mp h)) (fun h => kf (Nat.le_of_not_lt (fun q => h ((nI_ltI h1 h2).mpr q))))
theorem fz_icmp_eqN (hx : p.tables.exec = Jvm.exec) (hb : c.code = cc) {a b : Nat} (h1 : a < 2 ^ 31) (h2 : b < 2 ^ 31) {off : Int} {tgt : Nat} (hdg : decode cc pc = .ok (.if_icmp .eq off, 3)) (ht : (pc : Int) + off = (tgt : Int)) (kt : a = b → W p l e R s m args below meth c H locs cells slots Q (F0 m tgt ls rest)) (kf : a ≠ b → W p l e R s m args below meth c H locs cells slots Q (F0 m (pc + 3) ls rest)) : W p l e R s m args below meth c H locs cells slots Q (F0 m pc ls (.int (nI b) :: .int (nI a) :: rest)) := lv_icmp_eq hx hb hdg ht (fun h => kt ((nI_eq h1 h2).mp h)) (fun h => kf (fun q => h ((nI_eq h1 h2).mpr q)))
theorem fz_icmp_neN (hx : p.tables.exec = Jvm.exec) (hb : c.code = cc) {a b : Nat} (h1 : a < 2 ^ 31) (h2 : b < 2 ^ 31) {off : Int} {tgt : Nat} (hdg : decode cc pc = .ok (.if_icmp .ne off, 3)) (ht : (pc : Int) + off = (tgt : Int)) (kt : a ≠ b → W p l e R s m args below meth c H locs cells slots Q (F0 m tgt ls rest)) (kf : a = b → W p l e R s m args below meth c H locs cells slots Q (F0 m (pc + 3) ls rest)) : W p l e R s m args below meth c H locs cells slots Q (F0 m pc ls (.int (nI b) :: .int (nI a) :: rest)) := lv_icmp_ne hx hb hdg ht (fun h => kt (fun q => h ((nI_eq h1 h2).mpr q))) (fun h => kf ((nI_eq h1 h2).mp h))
theorem fz_dg_ge (hx : p.tables.exec = Jvm.exec) (hb : c.code = cc) {x y : UInt64} {off : Int} {tgt : Nat} (h1 : decode cc pc = .ok (.dcmp .g, 1)) (h2 : decode cc (pc + 1) = .ok (.ifCond .ge off, 3)) (ht : ((pc + 1 : Nat) : Int) + off = (tgt : Int)) (kt : fz_lt x y = false → W p l e R s m args below meth c H locs cells slots Q (F0 m tgt ls rest)) (kf : fz_lt x y = true → W p l e R s m args below meth c H locs cells slots Q (F0 m (pc + 1 + 3) ls rest)) : W p l e R s m args below meth c H locs cells slots Q (F0 m pc ls (.double y :: .double x :: rest)) := by
  refine lv_dcmp hx hb h1 (lv_if_ge hx hb h2 ht (fun h => kt ?_) (fun h => kf ?_))
  · revert h; unfold fz_lt; generalize FP.dcmp x y = o; rcases o with _ | (_ | _ | _) <;> decide
  · revert h; unfold fz_lt; generalize FP.dcmp x y = o; rcases o with _ | (_ | _ | _) <;> decide
theorem fz_dg_lt (hx : p.tables.exec = Jvm.exec) (hb : c.code = cc) {x y : UInt64} {off : Int} {tgt : Nat} (h1 : decode cc pc = .ok (.dcmp .g, 1)) (h2 : decode cc (pc + 1) = .ok (.ifCond .lt off, 3)) (ht : ((pc + 1 : Nat) : Int) + off = (tgt : Int)) (kt : fz_lt x y = true → W p l e R s m args below meth c H locs cells slots Q (F0 m tgt ls rest)) (kf : fz_lt x y = false → W p l e R s m args below meth c H locs cells slots Q (F0 m (pc + 1 + 3) ls rest)) : W p l e R s m args below meth c H locs cells slots Q (F0 m pc ls (.double y :: .double x :: rest)) := by
  refine lv_dcmp hx hb h1 (lv_if_lt hx hb h2 ht (fun h => kt ?_) (fun h => kf ?_))
  · revert h; unfold fz_lt; generalize FP.dcmp x y = o; rcases o with _ | (_ | _ | _) <;> decide
  · revert h; unfold fz_lt; generalize FP.dcmp x y = o; rcases o with _ | (_ | _ | _) <;> decide
theorem fz_dg_gt (hx : p.tables.exec = Jvm.exec) (hb : c.code = cc) {x y : UInt64} {off : Int} {tgt : Nat} (h1 : decode cc pc = .ok (.dcmp .g, 1)) (h2 : decode cc (pc + 1) = .ok (.ifCond .gt off, 3)) (ht : ((pc + 1 : Nat) : Int) + off = (tgt : Int)) (kt : fz_le x y = false → W p l e R s m args below meth c H locs cells slots Q (F0 m tgt ls rest)) (kf : fz_le x y = true → W p l e R s m args below meth c H locs cells slots Q (F0 m (pc + 1 + 3) ls rest)) : W p l e R s m args below meth c H locs cells slots Q (F0 m pc ls (.double y :: .double x :: rest)) := by
  refine lv_dcmp hx hb h1 (lv_if_gt hx hb h2 ht (fun h => kt ?_) (fun h => kf ?_))
  · revert h; unfold fz_le; generalize FP.dcmp x y = o; rcases o with _ | (_ | _ | _) <;> decide
  · revert h; unfold fz_le; generalize FP.dcmp x y = o; rcases o with _ | (_ | _ | _) <;> decide
theorem fz_dg_le (hx : p.tables.exec = Jvm.exec) (hb : c.code = cc) {x y : UInt64} {off : Int} {tgt : Nat} (h1 : decode cc pc = .ok (.dcmp .g, 1)) (h2 : decode cc (pc + 1) = .ok (.ifCond .le off, 3)) (ht : ((pc + 1 : Nat) : Int) + off = (tgt : Int)) (kt : fz_le x y = true → W p l e R s m args below meth c H locs cells slots Q (F0 m tgt ls rest)) (kf : fz_le x y = false → W p l e R s m args below meth c H locs cells slots Q (F0 m (pc + 1 + 3) ls rest)) : W p l e R s m args below meth c H locs cells slots Q (F0 m pc ls (.double y :: .double x :: rest)) := by
  refine lv_dcmp hx hb h1 (lv_if_le hx hb h2 ht (fun h => kt ?_) (fun h => kf ?_))
  · revert h; unfold fz_le; generalize FP.dcmp x y = o; rcases o with _ | (_ | _ | _) <;> decide
  · revert h; unfold fz_le; generalize FP.dcmp x y = o; rcases o with _ | (_ | _ | _) <;> decide
theorem fz_dl_le (hx : p.tables.exec = Jvm.exec) (hb : c.code = cc) {x y : UInt64} {off : Int} {tgt : Nat} (h1 : decode cc pc = .ok (.dcmp .l, 1)) (h2 : decode cc (pc + 1) = .ok (.ifCond .le off, 3)) (ht : ((pc + 1 : Nat) : Int) + off = (tgt : Int)) (kt : fz_lt y x = false → W p l e R s m args below meth c H locs cells slots Q (F0 m tgt ls rest)) (kf : fz_lt y x = true → W p l e R s m args below meth c H locs cells slots Q (F0 m (pc + 1 + 3) ls rest)) : W p l e R s m args below meth c H locs cells slots Q (F0 m pc ls (.double y :: .double x :: rest)) := by
  refine lv_dcmp hx hb h1 (lv_if_le hx hb h2 ht (fun h => kt ?_) (fun h => kf ?_))
  · revert h; unfold fz_lt; rw [fz_swap x y]; generalize FP.dcmp x y = o; rcases o with _ | (_ | _ | _) <;> decide
  · revert h; unfold fz_lt; rw [fz_swap x y]; generalize FP.dcmp x y = o; rcases o with _ | (_ | _ | _) <;> decide
theorem fz_dl_gt (hx : p.tables.exec = Jvm.exec) (hb : c.code = cc) {x y : UInt64} {off : Int} {tgt : Nat} (h1 : decode cc pc = .ok (.dcmp .l, 1)) (h2 : decode cc (pc + 1) = .ok (.ifCond .gt off, 3)) (ht : ((pc + 1 : Nat) : Int) + off = (tgt : Int)) (kt : fz_lt y x = true → W p l e R s m args below meth c H locs cells slots Q (F0 m tgt ls rest)) (kf : fz_lt y x = false → W p l e R s m args below meth c H locs cells slots Q (F0 m (pc + 1 + 3) ls rest)) : W p l e R s m args below meth c H locs cells slots Q (F0 m pc ls (.double y :: .double x :: rest)) := by
  refine lv_dcmp hx hb h1 (lv_if_gt hx hb h2 ht (fun h => kt ?_) (fun h => kf ?_))
  · revert h; unfold fz_lt; rw [fz_swap x y]; generalize FP.dcmp x y = o; rcases o with _ | (_ | _ | _) <;> decide
  · revert h; unfold fz_lt; rw [fz_swap x y]; generalize FP.dcmp x y = o; rcases o with _ | (_ | _ | _) <;> decide
theorem fz_dl_lt (hx : p.tables.exec = Jvm.exec) (hb : c.code = cc) {x y : UInt64} {off : Int} {tgt : Nat} (h1 : decode cc pc = .ok (.dcmp .l, 1)) (h2 : decode cc (pc + 1) = .ok (.ifCond .lt off, 3)) (ht : ((pc + 1 : Nat) : Int) + off = (tgt : Int)) (kt : fz_le y x = false → W p l e R s m args below meth c H locs cells slots Q (F0 m tgt ls rest)) (kf : fz_le y x = true → W p l e R s m args below meth c H locs cells slots Q (F0 m (pc + 1 + 3) ls rest)) : W p l e R s m args below meth c H locs cells slots Q (F0 m pc ls (.double y :: .double x :: rest)) := by
  refine lv_dcmp hx hb h1 (lv_if_lt hx hb h2 ht (fun h => kt ?_) (fun h => kf ?_))
  · revert h; unfold fz_le; rw [fz_swap x y]; generalize FP.dcmp x y = o; rcases o with _ | (_ | _ | _) <;> decide
  · revert h; unfold fz_le; rw [fz_swap x y]; generalize FP.dcmp x y = o; rcases o with _ | (_ | _ | _) <;> decide
theorem fz_dl_ge (hx : p.tables.exec = Jvm.exec) (hb : c.code = cc) {x y : UInt64} {off : Int} {tgt : Nat} (h1 : decode cc pc = .ok (.dcmp .l, 1)) (h2 : decode cc (pc + 1) = .ok (.ifCond .ge off, 3)) (ht : ((pc + 1 : Nat) : Int) + off = (tgt : Int)) (kt : fz_le y x = true → W p l e R s m args below meth c H locs cells slots Q (F0 m tgt ls rest)) (kf : fz_le y x = false → W p l e R s m args below meth c H locs cells slots Q (F0 m (pc + 1 + 3) ls rest)) : W p l e R s m args below meth c H locs cells slots Q (F0 m pc ls (.double y :: .double x :: rest)) := by
  refine lv_dcmp hx hb h1 (lv_if_ge hx hb h2 ht (fun h => kt ?_) (fun h => kf ?_))
  · revert h; unfold fz_le; rw [fz_swap x y]; generalize FP.dcmp x y = o; rcases o with _ | (_ | _ | _) <;> decide
  · revert h; unfold fz_le; rw [fz_swap x y]; generalize FP.dcmp x y = o; rcases o with _ | (_ | _ | _) <;> decide
theorem fz_dl_eq (hx : p.tables.exec = Jvm.exec) (hb : c.code = cc) {x y : UInt64} {off : Int} {tgt : Nat} (h1 : decode cc pc = .ok (.dcmp .l, 1)) (h2 : decode cc (pc + 1) = .ok (.ifCond .eq off, 3)) (ht : ((pc + 1 : Nat) : Int) + off = (tgt : Int)) (kt : fz_eq x y = true → W p l e R s m args below meth c H locs cells slots Q (F0 m tgt ls rest)) (kf : fz_eq x y = false → W p l e R s m args below meth c H locs cells slots Q (F0 m (pc + 1 + 3) ls rest)) : W p l e R s m args below meth c H locs cells slots Q (F0 m pc ls (.double y :: .double x :: rest)) := by
  refine lv_dcmp hx hb h1 (lv_if_eq hx hb h2 ht (fun h => kt ?_) (fun h => kf ?_))
  · revert h; unfold fz_eq; generalize FP.dcmp x y = o; rcases o with _ | (_ | _ | _) <;> decide
  · revert h; unfold fz_eq; generalize FP.dcmp x y = o; rcases o with _ | (_ | _ | _) <;> decide
theorem fz_dl_ne (hx : p.tables.exec = Jvm.exec) (hb : c.code = cc) {x y : UInt64} {off : Int} {tgt : Nat} (h1 : decode cc pc = .ok (.dcmp .l, 1)) (h2 : decode cc (pc + 1) = .ok (.ifCond .ne off, 3)) (ht : ((pc + 1 : Nat) : Int) + off = (tgt : Int)) (kt : fz_eq x y = false → W p l e R s m args below meth c H locs cells slots Q (F0 m tgt ls rest)) (kf : fz_eq x y = true → W p l e R s m args below meth c H locs cells slots Q (F0 m (pc + 1 + 3) ls rest)) : W p l e R s m args below meth c H locs cells slots Q (F0 m pc ls (.double y :: .double x :: rest)) := by
  refine lv_dcmp hx hb h1 (lv_if_ne hx hb h2 ht (fun h => kt ?_) (fun h => kf ?_))
  · revert h; unfold fz_eq; generalize FP.dcmp x y = o; rcases o with _ | (_ | _ | _) <;> decide
  · revert h; unfold fz_eq; generalize FP.dcmp x y = o; rcases o with _ | (_ | _ | _) <;> decide
variable {D : va_G} {cl : List vw_C} {tys : List (ClassId × FieldType)} {ws : va_W} {a : Nat} {A : Nat → Prop} {H0 : Heap}
theorem fz_dald (hx : p.tables.exec = Jvm.exec) (hb : c.code = cc) (hK : va_K D cl tys s) (hP : va_P D cl ws H) (q0 t0 : Nat) {cA : ClassId} {n : Nat} {f : Nat → UInt64} (ha : ws[q0]? = some (a, .inl (cA, n, .inr (.inr (.inr (.inl f)))))) (ht : tys[t0]? = some (cA, .double)) {i : Nat} (hi : i < n) (hn : n < 2 ^ 31) (hdg : decode cc pc = .ok (.daload, 1)) (k : W p l e R s m args below meth c H locs cells slots Q (F0 m (pc + 1) ls (.double (f i) :: rest))) : W p l e R s m args below meth c H locs cells slots Q (F0 m pc ls (.int (nI i) :: .ref a :: rest)) := va_dald hx hb hK hP q0 t0 ha ht (vp_in_nI hi hn) hdg (by rw [nI_clamp (Nat.lt_trans hi hn)]; exact k)
theorem fz_dast (hx : p.tables.exec = Jvm.exec) (hb : c.code = cc) (hK : va_K D cl tys s) (hP : va_P D cl ws H) (hD : va_D A ws) (hS : va_S A H0 H locs) (q0 t0 : Nat) {cA : ClassId} {n : Nat} {f : Nat → UInt64} (ha : ws[q0]? = some (a, .inl (cA, n, .inr (.inr (.inr (.inl f)))))) (ht : tys[t0]? = some (cA, .double)) {i : Nat} {x : UInt64} (hi : i < n) (hn : n < 2 ^ 31) (hdg : decode cc pc = .ok (.dastore, 1)) (kk : ∀ (H1 : Heap) (locs1 : List Loc), va_P D cl (ws.set q0 (a, .inl (cA, n, .inr (.inr (.inr (.inl (vf_upd f i x))))))) H1 → va_D A (ws.set q0 (a, .inl (cA, n, .inr (.inr (.inr (.inl (vf_upd f i x))))))) → va_S A H0 H1 locs1 → W p l e R s m args below meth c H1 locs1 cells slots Q (F0 m (pc + 1) ls rest)) : W p l e R s m args below meth c H locs cells slots Q (F0 m pc ls (.double x :: .int (nI i) :: .ref a :: rest)) := va_dast hx hb hK hP hD hS q0 t0 ha ht (vp_in_nI hi hn) hdg (by rw [nI_clamp (Nat.lt_trans hi hn)]; exact kk)
end FZ
/-! nest words -/
def fz_NWq : List (String × Nat × MethodName) := [("FlowGrid$Row", 51, ⟨"FlowGrid", "speedOf", "(DD)D"⟩), ("FlowGrid$Row", 55, ⟨"FlowGrid", "absolute", "(D)D"⟩), ("FlowGrid$Row", 59, ⟨"FlowGrid", "root", "(D)D"⟩), ("FlowGrid$Row", 62, ⟨"FlowGrid", "greater", "(DD)D"⟩), ("FlowGrid$Row", 67, ⟨"FlowGrid", "lesser", "(DD)D"⟩), ("FlowGrid$State", 22, ⟨"FlowGrid", "speedOf", "(DD)D"⟩), ("FlowGrid$State", 28, ⟨"FlowGrid", "root", "(D)D"⟩), ("FlowGrid$State", 32, ⟨"FlowGrid", "absolute", "(D)D"⟩), ("FlowGrid$Faces", 85, ⟨"FlowGrid", "greater", "(DD)D"⟩), ("FlowGrid$Faces", 107, ⟨"FlowGrid", "lesser", "(DD)D"⟩), ("FlowGrid$Faces", 26, ⟨"FlowGrid$State", "<init>", "()V"⟩), ("FlowGrid", 11, ⟨"FlowGrid$Row", "<init>", "()V"⟩), ("FlowGrid", 21, ⟨"FlowGrid$Faces", "<init>", "()V"⟩)]
def fz_NW (U : State) : Prop := ∀ q ∈ fz_NWq, va_Nw (.methodLinkNest q.1 q.2.1 q.2.2 "FlowGrid") U
theorem fz_NW.warm {s U : State} (hW : s.WarmedH U.vm) (h : fz_NW s) : fz_NW U := fun q hq => va_Nw.warmM hW (h q hq)
theorem fz_NW.same {u U : State} (hv : u.vm = U.vm) (h : fz_NW u) : fz_NW U := fun q hq => va_Nw.same rfl hv (h q hq)
/-- the cells wi lie in the heap, apart; what the tables say; the nest words -/
def fz_I (D : va_G) (tys : List (ClassId × FieldType)) (wi : va_W) (sz : Nat) (U : State) : Prop := U.heap.size = sz ∧ va_P D vwCl wi U.heap ∧ va_K D vwCl tys U ∧ va_D (fun _ => True) wi ∧ fz_NW U
def fz_O (D : va_G) (tys : List (ClassId × FieldType)) (wo : va_W) (ov : Option Value) (A : Nat → Prop) : Array Value → State → Outcome → State → Prop := fun _ st oc t => oc = .returned ov ∧ va_P D vwCl wo t.heap ∧ va_K D vwCl tys t ∧ va_D A wo ∧ va_F A st t
/-- THE STANDARD CONTRACT: from the cells wi to the cells wo, the answer ov; nothing is made -/
def fz_C (l : Launch) (D : va_G) (tys : List (ClassId × FieldType)) (y : MethodName) (wsY : List Cond) (rm : Room) (av : List Value) (wi wo : va_W) (ov : Option Value) : Prop := ∀ sz : Nat, Met l y wsY rm (va_Pc av (fz_I D tys wi sz)) (fz_O D tys wo ov (va_A wi sz)) 0 0 (va_A wi sz)
theorem fz_start {l : Launch} {D : va_G} {tys : List (ClassId × FieldType)} {y : MethodName} {wsY ws' : List Cond} {rm : Room} {av : List Value} {wi wo : va_W} {ov : Option Value} {cc : ByteArray} {maxL : Nat} {ret : Option FieldType} (hy : plainName y.cls = true) (hw : wsY = Cond.code y cc maxL ret :: ws') (hL : (lg_sl av).length ≤ maxL)
    (body : ∀ (p : Program) (e : Env) (s : State) (m : MethodId) (below : List Frame) (meth : Method) (c : Code) (A : Nat → Prop), p.tables.exec = Jvm.exec → c.code = cc → meth.sig.returnType = ret → meth.locks = false → c.maxLocals = maxL → s.vm.findClass y.cls = some m.cls → (∀ w ∈ wsY, w.before av.toArray s = true) → va_K D vwCl tys s → (∀ q, s.heap.size ≤ q → A q) → fz_NW s → ∀ (H : Heap) (locs : List Loc), va_P D vwCl wi H → va_D A wi → va_S A s.heap H locs → ∀ ls : Array Slot, lv_has ls maxL (lv_args 0 av) → W p l e rm s m av.toArray below meth c H locs 0 0 (MQ below (fz_O D tys wo ov A) av.toArray s 0 0 A) (F0 m 0 ls [])) : fz_C l D tys y wsY rm av wi wo ov := by
  intro sz
  refine Met.ofW hy hw ?_
  intro p e s m args below meth c s₁ B hml hv
  obtain ⟨rfl, rfl, hP, hK, hD0, hNW⟩ := hv
  have hl := lv_entry av (n := maxL) hL
  rw [lg_entry_eq]
  exact body p e s m below meth c _ B.exec B.bytes B.returns B.notSynchronized hml (findClass_of_methodNamed B.named) (atoms_spec (ws := wsY) B.pre) hK (fun q h => Or.inr h) hNW _ _ hP (hD0.self (sz := s.heap.size)) va_S.rf _ hl
theorem fz_fm {α β : Type} {f : α → Option β} {is : List α} {ws : List β} (h : is.map f = ws.map some) : is.filterMap f = ws := by
  have h2 : is.filterMap f = (is.map f).filterMap id := by rw [List.filterMap_map]; rfl
  rw [h2, h, List.filterMap_map]
  exact List.filterMap_some
section FZC

variable {p : Program} {l : Launch} {e : Env} {R : Room} {s : State} {m : MethodId} {args : Array Value} {below : List Frame} {meth : Method} {c : Code} {H : Heap} {locs : List Loc} {cells slots : Nat} {Q : State → Prop}
variable {cc : ByteArray} {pc : Nat} {ls : Array Slot} {rest : List Value}

variable {D : va_G} {tys : List (ClassId × FieldType)} {ws wi wo wr ws' : va_W} {ov : Option Value} {A : Nat → Prop} {H0 : Heap}
theorem fz_dret {v : UInt64} (hx : p.tables.exec = Jvm.exec) (hb : c.code = cc) (hr : meth.sig.returnType = some .double) (hlocks : meth.locks = false) (hov : ov = some (.double v)) (hP : va_P D vwCl wo H) (hK : va_K D vwCl tys s) (hD : va_D A wo) (hS : va_S A s.heap H locs) (hdg : decode cc pc = .ok (.dreturn, 1)) : W p l e R s m args below meth c H locs 0 0 (MQ below (fz_O D tys wo ov A) args s 0 0 A) (F0 m pc ls [.double v]) := W.dret hx hb hr (fun t ht hW => ⟨by rw [hov], by rw [ht]; exact hP, va_K.moved hW.alike hK, hD, hS.F ht⟩) hS.2.2 hdg hlocks
theorem fz_iret {v : Int32} (hx : p.tables.exec = Jvm.exec) (hb : c.code = cc) (hr : meth.sig.returnType = some .int) (hlocks : meth.locks = false) (hov : ov = some (.int v)) (hP : va_P D vwCl wo H) (hK : va_K D vwCl tys s) (hD : va_D A wo) (hS : va_S A s.heap H locs) (hdg : decode cc pc = .ok (.ireturn, 1)) : W p l e R s m args below meth c H locs 0 0 (MQ below (fz_O D tys wo ov A) args s 0 0 A) (F0 m pc ls [.int v]) := W.iret hx hb hr (fun t ht hW => ⟨by rw [hov], by rw [ht]; exact hP, va_K.moved hW.alike hK, hD, hS.F ht⟩) hS.2.2 hdg hlocks
theorem fz_zret {v : Int32} (hx : p.tables.exec = Jvm.exec) (hb : c.code = cc) (hr : meth.sig.returnType = some .boolean) (hlocks : meth.locks = false) (hn : narrow .boolean (.int v) = .int v) (hov : ov = some (.int v)) (hP : va_P D vwCl wo H) (hK : va_K D vwCl tys s) (hD : va_D A wo) (hS : va_S A s.heap H locs) (hdg : decode cc pc = .ok (.ireturn, 1)) : W p l e R s m args below meth c H locs 0 0 (MQ below (fz_O D tys wo ov A) args s 0 0 A) (F0 m pc ls [.int v]) := W.zret hx hb hr hn (fun t ht hW => ⟨by rw [hov], by rw [ht]; exact hP, va_K.moved hW.alike hK, hD, hS.F ht⟩) hS.2.2 hdg hlocks
theorem fz_vret (hx : p.tables.exec = Jvm.exec) (hb : c.code = cc) (hr : meth.sig.returnType = none) (hlocks : meth.locks = false) (hov : ov = none) (hP : va_P D vwCl wo H) (hK : va_K D vwCl tys s) (hD : va_D A wo) (hS : va_S A s.heap H locs) (hdg : decode cc pc = .ok (.return_, 1)) : W p l e R s m args below meth c H locs 0 0 (MQ below (fz_O D tys wo ov A) args s 0 0 A) (F0 m pc ls []) := W.vret hx hb hr (fun t ht hW => ⟨by rw [hov], by rw [ht]; exact hP, va_K.moved hW.alike hK, hD, hS.F ht⟩) hS.2.2 hdg hlocks
theorem fz_blind {av : List Value} {sz : Nat} : FrameBlind (va_Pc av (fz_I D tys wi sz)) := fun a U g mk q => by
  obtain ⟨q0, q1, qP, qK, qD, qN⟩ := q
  exact ⟨q0, q1, qP, va_K.moved (u := U) (U := U.calling g mk a) (Vm.Alike.refl U.vm) qK, qD, qN.same rfl⟩
theorem fz_preS {av : List Value} (hK : va_K D vwCl tys s) (hNW : fz_NW s) (hP : va_P D vwCl ws H) (hD : va_D A ws) (isC : List Nat) (hC : isC.map (fun i => ws[i]?) = wi.map some) (hnC : va_nd isC = true) : PreS s H (va_Pc av (fz_I D tys wi H.size)) av :=
  ⟨fz_blind, fun U hU hW => ⟨rfl, by rw [hU], by rw [hU]; exact hP.sub isC (fz_fm hC), va_K.moved hW.alike hK, (hD.sub isC hnC hC).weaken (fun _ _ _ _ => trivial), hNW.warm hW⟩⟩
theorem fz_call {a : Array Value} {st0 : List Value} (hr : va_Run p l e R s m args below meth c H locs cells slots 0 0 (F0 m pc ls st0) rest (fz_O D tys wo ov (va_A wi H.size) a) (va_A wi H.size)) (hP : va_P D vwCl ws H) (hD : va_D A ws) (hS : va_S A H0 H locs) (hA : ∀ q, H0.size ≤ q → A q) (isC isR is : List Nat) (hC : isC.map (fun i => ws[i]?) = wi.map some) (hR : isR.map (fun i => ws[i]?) = wr.map some) (hnR : va_nd isR = true) (hdis : ∀ i ∈ isR, i ∉ isC) (hnI : va_nd is = true) (hs : is.map (fun i => (wr ++ wo)[i]?) = ws'.map some)
    (kk : ∀ (H1 : Heap) (locs1 : List Loc), va_P D vwCl ws' H1 → va_D A ws' → va_S A H0 H1 locs1 → W p l e R s m args below meth c H1 locs1 cells slots Q (F0 m (pc + 3) ls (ov.toList ++ rest))) : W p l e R s m args below meth c H locs cells slots Q (F0 m pc ls st0) := by
  intro T hT X
  obtain ⟨v, st₀, t, T', L, h0, X', hL, e1, e2, ⟨hv, hP1, hK1, hD1, hz, hk⟩, st⟩ := hr T hT X
  cases hv
  rw [h0] at hz hk
  rw [← e1] at hP1 hz hk
  have hF := va_free (wc := wi) hD hS hA isC hC
  obtain ⟨hPj, hDj⟩ := va_join hP hD isC isR hC hR hnR hdis hk hF hP1 hD1
  obtain ⟨t2, a1, b1⟩ := kk T'.heap (locs ++ L) (hPj.sub is (fz_fm hs)) (hDj.sub is hnI hs)
    ⟨Nat.le_trans hS.1 hz, fun q h1 h2 => by rw [hk q (Nat.lt_of_lt_of_le h1 hS.1) (fun z => h2 (hF q z))]; exact hS.2.1 q h1 h2, fun q hq => by
      rcases List.mem_append.mp hq with h | h
      · exact hS.2.2 q h
      · exact hF _ (hL q h)⟩ T' rfl X'
  exact ⟨t2, st t2 a1, b1⟩
variable {Ts wsY : List Cond} {own : String} {y : MethodName} {bytes : ByteArray} {maxL nL n index : Nat} {ret : Option FieldType} {rm : Room} {As st0 : List Value} {b : Nat}
theorem fz_callV {C : String} (S : CallFix p m c cc nL s args Ts own) (hM : fz_C l D tys y wsY rm (.ref b :: As) wi wo ov) (cw : CallW R s args own C index y bytes maxL ret wsY rm 0 0 n) (hK : va_K D vwCl tys s) (hNW : fz_NW s) (hP : va_P D vwCl ws H) (hD : va_D A ws) (hS : va_S A H0 H locs) (hA : ∀ q, H0.size ≤ q → A q) (isC isR is : List Nat) (hC : isC.map (fun i => ws[i]?) = wi.map some) (hnC : va_nd isC = true) (hR : isR.map (fun i => ws[i]?) = wr.map some) (hnR : va_nd isR = true) (hdis : ∀ i ∈ isR, i ∉ isC) (hnI : va_nd is = true) (hs : is.map (fun i => (wr ++ wo)[i]?) = ws'.map some)
    {q0 ci : Nat} {fs : List Value} {q : vw_C} (hcl : vwCl[ci]? = some q) (hqC : q.1 = C) (he : ws[q0]? = some (b, .inr (ci, fs))) (hn : As.length = n) (hsize : ls.size = nL) (hstack : st0 = As.reverse ++ .ref b :: rest) (hW : (rest.map fun v => v.category).sum ≤ 8) (hdg : decode cc pc = .ok (.invokevirtual index, 3)) (hf : cells + 0 ≤ R.cells ∧ slots + 0 ≤ R.slots)
    (kk : ∀ (H1 : Heap) (locs1 : List Loc), va_P D vwCl ws' H1 → va_D A ws' → va_S A H0 H1 locs1 → W p l e R s m args below meth c H1 locs1 cells slots Q (F0 m (pc + 3) ls (ov.toList ++ rest))) : W p l e R s m args below meth c H locs cells slots Q (F0 m pc ls st0) := by
  have hp := fz_preS (av := .ref b :: As) hK hNW hP hD isC hC hnC
  subst hqC
  exact fz_call (va_runV S (hM H.size) cw ⟨hp.1, va_recv hK hP hcl he, hp.2⟩ rfl hn hsize hstack (lv_room hW) hdg hf) hP hD hS hA isC isR is hC hR hnR hdis hnI hs kk
theorem fz_callS (S : CallFix p m c cc nL s args Ts own) (hM : fz_C l D tys y wsY rm As wi wo ov) (cw : CallB R s args own index y bytes maxL ret wsY rm 0 0 n ∧ (Cond.static y).before args s = true) (hK : va_K D vwCl tys s) (hNW : fz_NW s) (hP : va_P D vwCl ws H) (hD : va_D A ws) (hS : va_S A H0 H locs) (hA : ∀ q, H0.size ≤ q → A q) (isC isR is : List Nat) (hC : isC.map (fun i => ws[i]?) = wi.map some) (hnC : va_nd isC = true) (hR : isR.map (fun i => ws[i]?) = wr.map some) (hnR : va_nd isR = true) (hdis : ∀ i ∈ isR, i ∉ isC) (hnI : va_nd is = true) (hs : is.map (fun i => (wr ++ wo)[i]?) = ws'.map some)
    (hn : As.length = n) (hsize : ls.size = nL) (hstack : st0 = As.reverse ++ rest) (hW : (rest.map fun v => v.category).sum ≤ 8) (hdg : decode cc pc = .ok (.invokestatic index, 3)) (hf : cells + 0 ≤ R.cells ∧ slots + 0 ≤ R.slots)
    (kk : ∀ (H1 : Heap) (locs1 : List Loc), va_P D vwCl ws' H1 → va_D A ws' → va_S A H0 H1 locs1 → W p l e R s m args below meth c H1 locs1 cells slots Q (F0 m (pc + 3) ls (ov.toList ++ rest))) : W p l e R s m args below meth c H locs cells slots Q (F0 m pc ls st0) :=
  fz_call (va_runS S (hM H.size) cw (fz_preS hK hNW hP hD isC hC hnC) rfl hn hsize hstack (lv_room hW) hdg hf) hP hD hS hA isC isR is hC hR hnR hdis hnI hs kk
theorem fz_callN {host : String} (S : CallFix p m c cc nL s args Ts own) (hM : fz_C l D tys y wsY rm As wi wo ov) (cw : va_CN R s args own index y host bytes maxL ret wsY rm 0 0 n ∧ (Cond.static y).before args s = true ∧ True) (hK : va_K D vwCl tys s) (hNW : fz_NW s) (hP : va_P D vwCl ws H) (hD : va_D A ws) (hS : va_S A H0 H locs) (hA : ∀ q, H0.size ≤ q → A q) (isC isR is : List Nat) (hC : isC.map (fun i => ws[i]?) = wi.map some) (hnC : va_nd isC = true) (hR : isR.map (fun i => ws[i]?) = wr.map some) (hnR : va_nd isR = true) (hdis : ∀ i ∈ isR, i ∉ isC) (hnI : va_nd is = true) (hs : is.map (fun i => (wr ++ wo)[i]?) = ws'.map some)
    (hn : As.length = n) (hsize : ls.size = nL) (hstack : st0 = As.reverse ++ rest) (hW : (rest.map fun v => v.category).sum ≤ 8) (hdg : decode cc pc = .ok (.invokestatic index, 3)) (hf : cells + 0 ≤ R.cells ∧ slots + 0 ≤ R.slots)
    (kk : ∀ (H1 : Heap) (locs1 : List Loc), va_P D vwCl ws' H1 → va_D A ws' → va_S A H0 H1 locs1 → W p l e R s m args below meth c H1 locs1 cells slots Q (F0 m (pc + 3) ls (ov.toList ++ rest))) : W p l e R s m args below meth c H locs cells slots Q (F0 m pc ls st0) :=
  fz_call (va_runSN S (hM H.size) cw (fz_preS hK hNW hP hD isC hC hnC) rfl hn hsize hstack (lv_room hW) hdg hf) hP hD hS hA isC isR is hC hR hnR hdis hnI hs kk
end FZC
/-! rows that a loop fills: the places lo .. lo + k - 1 hold g 0 .. g (k - 1) already -/
def fz_pre (lo k : Nat) (g d : Nat → UInt64) : Nat → UInt64 := fun q => if lo ≤ q ∧ q < k + lo then g (q - lo) else d q
theorem fz_pre_0 (lo : Nat) (g d : Nat → UInt64) : fz_pre lo 0 g d = d := by
  funext q; unfold fz_pre; rw [if_neg (by omega)]
theorem fz_pre_s (lo k : Nat) (g d : Nat → UInt64) : vf_upd (fz_pre lo k g d) (k + lo) (g k) = fz_pre lo (k + 1) g d := by
  funext q
  unfold vf_upd fz_pre
  by_cases h : q = k + lo
  · subst h; rw [if_pos rfl, if_pos (by omega), Nat.add_sub_cancel]
  · rw [if_neg h]
    by_cases h2 : lo ≤ q ∧ q < k + lo
    · rw [if_pos h2, if_pos (by omega)]
    · rw [if_neg h2, if_neg (by omega)]
theorem fz_pre_at {lo k q : Nat} (g d : Nat → UInt64) (h : k + lo ≤ q) : fz_pre lo k g d q = d q := by
  unfold fz_pre; rw [if_neg (by omega)]
theorem fz_pre_in {lo k j : Nat} (g d : Nat → UInt64) (h : j < k) : fz_pre lo k g d (j + lo) = g j := by
  unfold fz_pre; rw [if_pos (by omega), Nat.add_sub_cancel]
abbrev fz_da (cD : ClassId) (n : Nat) (f : Nat → UInt64) : va_E := .inl (cD, n, .inr (.inr (.inr (.inl f))))
theorem fz_cellq {cD : ClassId} {n : Nat} {f g : Nat → UInt64} (h : ∀ i, i < n → f i = g i) : vp_cell cD (n, .inr (.inr (.inr (.inl f)))) = vp_cell cD (n, .inr (.inr (.inr (.inl g)))) := by
  rw [vp_cell_d, vp_cell_d]
  have h2 : (fun (j : Fin n) => Value.double (f j.val)) = (fun (j : Fin n) => Value.double (g j.val)) := funext fun j => by rw [h j.val j.isLt]
  unfold arrV
  rw [h2]
theorem fz_swapf {D : va_G} {cl : List vw_C} {ws : va_W} {H : Heap} {A : Nat → Prop} {a : Nat} {cD : ClassId} {n : Nat} {f g : Nat → UInt64} (q0 : Nat) (he : ws[q0]? = some (a, fz_da cD n f)) (h : ∀ i, i < n → f i = g i) (hP : va_P D cl ws H) (hD : va_D A ws) : va_P D cl (ws.set q0 (a, fz_da cD n g)) H ∧ va_D A (ws.set q0 (a, fz_da cD n g)) := by
  refine ⟨hP.set hD he ?_ (fun _ _ => rfl), hD.set he⟩
  show H[a]? = some (vp_cell cD (n, .inr (.inr (.inr (.inl g)))))
  rw [← fz_cellq h]
  exact hP q0 _ he
