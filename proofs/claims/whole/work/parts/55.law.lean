/-! what the law's start gives, the loop, the start -/
theorem fz_arr {args : Array Value} {s : State} {ty : FieldType} (h : (Cond.arrayClass ty).before args s = true) (hn : ∀ C, ty ≠ .object C) : ∃ cA, ArrOfT s cA ty ∧ s.vm.findClass ("[" ++ ty.toString) = some cA := by
  obtain ⟨cA, kA, comp, h1, h2, h3⟩ := Cond.arrayClass_spec (args := args) (first := s) (o := none) (s := s) (idx := []) h
  exact ⟨cA, fun n z => ⟨fun k h => (by cases h), kA, h2, comp, h3⟩, h1⟩
theorem fz_Kof {args : Array Value} {s : State} (hts : ∀ w ∈ lw_tbl, w.before args s = true) : ∃ (D : va_G) (cD cL : ClassId), va_K D vwCl [(cD, .double), (cL, .long)] s := by
  obtain ⟨c0, i0, k0⟩ := u_known hts wsL_iX0 (hts (.instantiable RX0 6) (by decide +kernel))
  obtain ⟨c1, i1, k1⟩ := u_known hts wsL_iX1 (hts (.instantiable RX1 3) (by decide +kernel))
  obtain ⟨c2, i2, k2⟩ := u_known hts wsL_iX2 (hts (.instantiable RX2 4) (by decide +kernel))
  obtain ⟨c3, i3, k3⟩ := u_known hts wsL_iX3 (hts (.instantiable RX3 11) (by decide +kernel))
  obtain ⟨c4, i4, k4⟩ := u_known hts wsL_iX4 (hts (.instantiable RX4 20) (by decide +kernel))
  obtain ⟨cD, d1, d2⟩ := fz_arr (hts (.arrayClass .double) (by decide +kernel)) (fun _ h => by cases h)
  obtain ⟨cL, e1, e2⟩ := fz_arr (hts (.arrayClass .long) (by decide +kernel)) (fun _ h => by cases h)
  refine ⟨(fun c => match c with | 0 => c0 | 1 => c1 | 2 => c2 | 3 => c3 | _ => c4, fun c => match c with | 0 => i0 | 1 => i1 | 2 => i2 | 3 => i3 | _ => i4), cD, cL, fun c q hq => ?_, fun k q hq => ?_⟩
  · rcases (show c = 0 ∨ c = 1 ∨ c = 2 ∨ c = 3 ∨ c = 4 ∨ 5 ≤ c by omega) with rfl | rfl | rfl | rfl | rfl | h
    · cases hq; exact k0
    · cases hq; exact k1
    · cases hq; exact k2
    · cases hq; exact k3
    · cases hq; exact k4
    · rw [List.getElem?_eq_none (show vwCl.length ≤ c from h)] at hq; cases hq
  · rcases (show k = 0 ∨ k = 1 ∨ 2 ≤ k by omega) with rfl | rfl | h
    · cases hq; exact ⟨d1, d2⟩
    · cases hq; exact ⟨e1, e2⟩
    · rw [List.getElem?_eq_none (show [(cD, FieldType.double), (cL, FieldType.long)].length ≤ k from h)] at hq; cases hq
theorem fz_NWof {args : Array Value} {s : State} (hts : ∀ w ∈ lw_tbl, w.before args s = true) : fz_NW s := fun q hq => va_Nw.of rfl (hts (.methodLinkNest q.1 q.2.1 q.2.2 "FlowGrid") ((by decide +kernel : ∀ q ∈ fz_NWq, Cond.methodLinkNest q.1 q.2.1 q.2.2 "FlowGrid" ∈ lw_tbl) q hq))
theorem fz_CAof {args : Array Value} {s : State} (hts : ∀ w ∈ lw_tbl, w.before args s = true) : fz_CA s := ⟨fun E hE => va_Nw.of rfl (hts (.castable E E) ((by decide +kernel : ∀ E ∈ [fz_IAE, fz_ISE, fz_NSE], Cond.castable E E ∈ lw_tbl) E hE)), fun Y hY => va_Nw.of rfl (hts (.declares (Bundle.initS Y)) ((by decide +kernel : ∀ Y ∈ fz_sup, Cond.declares (Bundle.initS Y) ∈ lw_tbl) Y hY))⟩
theorem fz_STof {args : Array Value} {s : State} (hts : ∀ w ∈ lw_tbl, w.before args s = true) (hgv : (Jvm.Cond.and given_1 narrow_1).before args s = true) : fz_ST s := fun q hq => by
  have h1 := hts (.stringRef "FlowGrid" q.1 q.2) ((by decide +kernel : ∀ q ∈ fz_STq, Cond.stringRef "FlowGrid" q.1 q.2 ∈ lw_tbl) q hq)
  have h2 := flat_of_before _ hgv (Cond.exactly (.string "FlowGrid" q.1) "java/lang/String") ((by decide +kernel : ∀ q ∈ fz_STq, Cond.exactly (.string "FlowGrid" q.1) "java/lang/String" ∈ _) q hq)
  obtain ⟨a, c, cA, kA, q1, -⟩ := Cond.exactly_spec (args := args) (first := s) (o := none) (s := s) (idx := []) h2
  exact ⟨a, vk_R.of h1 q1⟩
theorem fz_XZof {args : Array Value} {s : State} (hts : ∀ w ∈ lw_tbl, w.before args s = true) (hgv : (Jvm.Cond.and given_1 narrow_1).before args s = true) : fz_XZ (fun q => s.heap.size ≤ q) s s.heap :=
  have hA : ∀ a : Nat, a < s.heap.size → ¬ s.heap.size ≤ a := fun a h => Nat.not_le.mpr h
  ⟨vx_Zqof (hts _ (by decide +kernel)) (hts _ (by decide +kernel)) (flat_of_before _ hgv _ (by decide +kernel)) hA, vx_Zqof (hts _ (by decide +kernel)) (hts _ (by decide +kernel)) (flat_of_before _ hgv _ (by decide +kernel)) hA⟩
theorem fz_Ncof {args : Array Value} {s : State} (hgv : (Jvm.Cond.and given_1 narrow_1).before args s = true) : va_Nc fz_ISE fz_IAE s := va_Nc.of (flat_of_before _ hgv (Cond.not (.castable fz_ISE fz_IAE)) (by decide +kernel))
theorem fz_drop {p : Program} {l : Launch} {e : Env} {R : Room} {s : State} {m : MethodId} {args : Array Value} {below : List Frame} {meth : Method} {c : Code} {H : Heap} {locs : List Loc} {cells slots k n : Nat} {Q : State → Prop} {g : JFrame} (hf : ∀ z ∈ locs, s.heap.size ≤ z.base) (h1 : cells ≤ k) (h2 : slots ≤ n) (kk : W p l e R s m args below meth c H [] k n Q g) : W p l e R s m args below meth c H locs cells slots Q g := fun T hT X => kk T hT { X with same := X.same.weaken (fun y hy hlt => absurd hlt (Nat.not_lt.mpr (hf y hy))) h1 h2 }
theorem fz_le5 {i L : Nat} (hL : L ≤ 2560) (hi : i ≤ 2560) (h : ¬ nI L - nI 5 < nI i) : i + 5 ≤ L := by
  rw [Int32.lt_iff_toInt_lt, pk_sub_toInt (by omega) (by omega), show (nI i).toInt = (i : Int) from Int32.toInt_ofNat_of_lt (by omega)] at h
  omega
theorem fz_newal {p : Program} {l : Launch} {e : Env} {R : Room} {s : State} {m : MethodId} {args : Array Value} {below : List Frame} {meth : Method} {c : Code} {H : Heap} {locs : List Loc} {cells slots : Nat} {Q : State → Prop} {cc : ByteArray} {pc : Nat} {ls : Array Slot} {rest : List Value} {D : va_G} {tys : List (ClassId × FieldType)} {ws : va_W} {A : Nat → Prop} {H0 : Heap} (hx : p.tables.exec = Jvm.exec) (hb : c.code = cc) (harr : (Cond.arrayClass .long).before args s = true) (hK : va_K D vwCl tys s) {cL : ClassId} (t0 : Nat) (ht : tys[t0]? = some (cL, .long)) (hP : va_P D vwCl ws H) (hD : va_D A ws) (hS : va_S A H0 H locs) (hA : ∀ q, H0.size ≤ q → A q) {N : Nat} (hN : N < 2 ^ 31) (hbytes : N * componentBytes .long ≤ 536870912) (hcells : cells + 1 ≤ R.cells) (hslots : slots + N ≤ R.slots) (hdg : decode cc pc = .ok (.newarray .long, 2))
    (kk : ∀ (q : Nat) (H1 : Heap), va_P D vwCl (ws ++ [(q, fz_la cL N (fun _ => 0))]) H1 → va_D A (ws ++ [(q, fz_la cL N (fun _ => 0))]) → va_S A H0 H1 locs → W p l e R s m args below meth c H1 locs (cells + 1) (slots + N) Q (F0 m (pc + 2) ls (.ref q :: rest))) : W p l e R s m args below meth c H locs cells slots Q (F0 m pc ls (.int (nI N) :: rest)) := by
  refine va_newa (atype := .long) (ty := .long) (a0 := (N, .inr (.inl (fun _ => 0)))) hx hb harr rfl hK hP hD hS hA (fun cA => rfl) (nI_pos hN) (nI_clamp hN) hbytes hcells hslots hdg (fun q cA H1 hK2 hP2 hD2 hS2 => ?_)
  have h1 := (hK.2 t0 _ ht).2
  have h2 := (hK2.2 tys.length (cA, .long) (by rw [List.getElem?_append_right (Nat.le_refl _), Nat.sub_self]; rfl)).2
  have h3 : cA = cL := Option.some.inj ((show s.vm.findClass _ = some cA from h2).symm.trans (show s.vm.findClass _ = some cL from h1))
  subst h3
  exact kk q H1 hP2 hD2 hS2
set_option maxHeartbeats 8000000 in
set_option maxRecDepth 100000 in
theorem fz_loop {p : Program} {e : Env} {s : State} {m : MethodId} {below : List Frame} {meth : Method} {c : Code} (l : Launch) (D : va_G) (cD cL : ClassId) (b g r rd rm q qd qm f s1 s2 f1 f2 lf rt o dp mp od ol : Nat) (hlt : l.stackTraces = false) {L : Nat} {xs : Nat → Int32} (hx : p.tables.exec = Jvm.exec) (hb : c.code = cL_law) (hml : c.maxLocals = 10) (hown : s.vm.findClass RL = some m.cls) (hts : ∀ w ∈ wsL_law, w.before #[Value.ref b] s = true) (hK : va_K D vwCl [(cD, .double), (cL, .long)] s) (hA : ∀ q, s.heap.size ≤ q → s.heap.size ≤ q) (hNW : fz_NW s) (hST : fz_ST s) (hCA : fz_CA s) (hXZ : fz_XZ (fun q => s.heap.size ≤ q) s s.heap) (hNc : va_Nc fz_ISE fz_IAE s) (hX : va_X b L xs s s.heap) (hbl : b < s.heap.size) (hbA : ¬ s.heap.size ≤ b) (hL : L ≤ 2560) (hr : meth.sig.returnType = ret) (hlocks : meth.locks = false) : ∀ (it k : Nat), 5 * k ≤ L → L < 5 * k + it → ∀ (n kd lim sol ord n2 : Nat) (dd mm ee ff sH sM FH FM dR mR fo : Nat → UInt64) (fl : Nat → Int64) (a0 a1 a2 a3 b0 b1 b2 b3 v0 v1 v2 v3 v4 v5 v6 v7 gone : UInt64) (thr cst cfl crf : Int32), fz_Inv k n kd lim sol ord dd mm dR mR gone → ∀ (H : Heap) (locs : List Loc) (ls : Array Slot), va_P D vwCl (fz_w19 cD cL g r rd rm q qd qm f s1 s2 f1 f2 lf rt o dp mp od ol n kd lim sol ord n2 dd mm ee ff sH sM FH FM dR mR fo fl a0 a1 a2 a3 b0 b1 b2 b3 v0 v1 v2 v3 v4 v5 v6 v7 gone thr cst cfl crf) H → va_D (fun q => s.heap.size ≤ q) (fz_w19 cD cL g r rd rm q qd qm f s1 s2 f1 f2 lf rt o dp mp od ol n kd lim sol ord n2 dd mm ee ff sH sM FH FM dR mR fo fl a0 a1 a2 a3 b0 b1 b2 b3 v0 v1 v2 v3 v4 v5 v6 v7 gone thr cst cfl crf) → va_S (fun q => s.heap.size ≤ q) s.heap H locs → lv_has ls 10 [(0, .ref b), (1, .ref g), (2, .ref o), (3, .ref ol), (4, .ref od), (5, .int (nI (5 * k)))] → W p l e room_1 s m #[Value.ref b] below meth c H locs (19 + k) (439 + 6 * k) (lw_Z below #[Value.ref b] s) (F0 m 28 ls []) := by
  intro it
  induction it with
  | zero => intro k h1 h2; omega
  | succ it ih =>
    intro k hkL hit n kd lim sol ord n2 dd mm ee ff sH sM FH FM dR mR fo fl a0 a1 a2 a3 b0 b1 b2 b3 v0 v1 v2 v3 v4 v5 v6 v7 gone thr cst cfl crf inv H locs ls hP hD hS hl
    refine lv_iload hx hb dL_law_28 (lv_at hl 5 rfl) ?_
    refine lv_aload_n hx hb dL_law_30 rfl (lv_at hl 0 rfl) ?_
    refine va_slen hx hb hX hbl hbA hS dL_law_31 ?_
    refine lv_iconst (v := nI 5) hx hb dL_law_32 (by decide) ?_
    refine lv_isub hx hb dL_law_33 ?_
    refine lv_icmp_gt (tgt := 807) hx hb dL_law_34 (by decide) (fun _ => ?_) (fun hgt => ?_)
    · refine lv_iconst (v := 1) hx hb dL_law_807 (by decide) ?_
      exact fz_drop (fun z hz => hS.2.2 z hz) (by omega) (by omega) (lw_ret hx hb hr hlocks dL_law_808)
    have h5 : 5 * k + 5 ≤ L := fz_le5 hL (by omega) hgt
    refine lv_aload_n hx hb dL_law_37 rfl (lv_at hl 0 rfl) ?_
    refine lv_iload hx hb dL_law_38 (lv_at hl 5 rfl) ?_
    refine fz_sld (v := xs (5 * k)) hx hb hX hbl hbA hS (by omega) hL rfl dL_law_40 ?_
    refine lv_bipush (v := nI 15) hx hb dL_law_41 (by decide) ?_
    refine lv_iand hx hb dL_law_43 ?_
    obtain ⟨j, hj, ej⟩ := pk_andE (xs (5 * k)) (m := nI 15) 4 (by decide)
    rw [ej]
    have kk : fz_KK p e s m #[Value.ref b] below meth c (lw_Z below #[Value.ref b] s) l D cD cL (fun q => s.heap.size ≤ q) b (5 * k) k g r rd rm q qd qm f s1 s2 f1 f2 lf rt o dp mp od ol := by
      intro n kd lim sol ord n2 dd mm ee ff sH sM FH FM dR mR fo fl a0 a1 a2 a3 b0 b1 b2 b3 v0 v1 v2 v3 v4 v5 v6 v7 gone thr cst cfl crf inv H locs ls hP hD hS hl
      refine lv_iinc (v := nI (5 * (k + 1))) (lv' := [(5, .int (nI (5 * (k + 1)))), (0, .ref b), (1, .ref g), (2, .ref o), (3, .ref ol), (4, .ref od)]) hx hb dL_law_801 hl (k := 5) rfl (by rw [show Int32.ofInt 5 = nI 5 from by decide, nI_add, Nat.mul_succ]) (by decide) rfl (fun ls hl => ?_)
      refine lv_goto (tgt := 28) hx hb dL_law_804 (by decide) ?_
      rw [show 19 + k + 1 = 19 + (k + 1) by omega, show 439 + 6 * k + 6 = 439 + 6 * (k + 1) by omega]
      exact ih (k + 1) (by omega) (by omega) n kd lim sol ord n2 dd mm ee ff sH sM FH FM dR mR fo fl a0 a1 a2 a3 b0 b1 b2 b3 v0 v1 v2 v3 v4 v5 v6 v7 gone thr cst cfl crf inv H locs ls hP hD hS (lv_sub hl [1, 2, 3, 4, 5, 0] rfl)
    rcases (show j = 0 ∨ j = 1 ∨ j = 2 ∨ j = 3 ∨ j = 4 ∨ j = 5 ∨ j = 6 ∨ j = 7 ∨ j = 8 ∨ j = 9 ∨ 10 ≤ j by omega) with rfl | rfl | rfl | rfl | rfl | rfl | rfl | rfl | rfl | rfl | h10
    · refine lv_tableIn (off := 56) (tgt := 100) hx hb dL_law_44 (by decide) (by decide) (by decide) (by decide) ?_
      exact k_cells p e s m #[Value.ref b] below meth c (lw_Z below #[Value.ref b] s) l D cD cL (fun q => s.heap.size ≤ q) b (5 * k) k g r rd rm q qd qm f s1 s2 f1 f2 lf rt o dp mp od ol hlt hx hb hml hown hts hK hA hNW hST hCA hXZ hNc hX hbl hbA hL (by omega) (by omega) n kd lim sol ord n2 dd mm ee ff sH sM FH FM dR mR fo fl a0 a1 a2 a3 b0 b1 b2 b3 v0 v1 v2 v3 v4 v5 v6 v7 gone thr cst cfl crf inv H locs ls hP hD hS hl kk
    · refine lv_tableIn (off := 92) (tgt := 136) hx hb dL_law_44 (by decide) (by decide) (by decide) (by decide) ?_
      exact k_choose p e s m #[Value.ref b] below meth c (lw_Z below #[Value.ref b] s) l D cD cL (fun q => s.heap.size ≤ q) b (5 * k) k g r rd rm q qd qm f s1 s2 f1 f2 lf rt o dp mp od ol hlt hx hb hml hown hts hK hA hNW hST hCA hXZ hNc hX hbl hbA hL (by omega) (by omega) n kd lim sol ord n2 dd mm ee ff sH sM FH FM dR mR fo fl a0 a1 a2 a3 b0 b1 b2 b3 v0 v1 v2 v3 v4 v5 v6 v7 gone thr cst cfl crf inv H locs ls hP hD hS hl kk
    · refine lv_tableIn (off := 164) (tgt := 208) hx hb dL_law_44 (by decide) (by decide) (by decide) (by decide) ?_
      exact k_put p e s m #[Value.ref b] below meth c (lw_Z below #[Value.ref b] s) l D cD cL (fun q => s.heap.size ≤ q) b (5 * k) k g r rd rm q qd qm f s1 s2 f1 f2 lf rt o dp mp od ol hlt hx hb hml hown hts hK hA hNW hST hCA hXZ hNc hX hbl hbA hL (by omega) (by omega) n kd lim sol ord n2 dd mm ee ff sH sM FH FM dR mR fo fl a0 a1 a2 a3 b0 b1 b2 b3 v0 v1 v2 v3 v4 v5 v6 v7 gone thr cst cfl crf inv H locs ls hP hD hS hl kk
    · refine lv_tableIn (off := 244) (tgt := 288) hx hb dL_law_44 (by decide) (by decide) (by decide) (by decide) ?_
      exact k_step p e s m #[Value.ref b] below meth c (lw_Z below #[Value.ref b] s) l D cD cL (fun q => s.heap.size ≤ q) b (5 * k) k g r rd rm q qd qm f s1 s2 f1 f2 lf rt o dp mp od ol hlt hx hb hml hown hts hK hA hNW hST hCA hXZ hNc hX hbl hbA hL (by omega) (by omega) n kd lim sol ord n2 dd mm ee ff sH sM FH FM dR mR fo fl a0 a1 a2 a3 b0 b1 b2 b3 v0 v1 v2 v3 v4 v5 v6 v7 gone thr cst cfl crf inv H locs ls hP hD hS hl kk
    · refine lv_tableIn (off := 331) (tgt := 375) hx hb dL_law_44 (by decide) (by decide) (by decide) (by decide) ?_
      exact k_run p e s m #[Value.ref b] below meth c (lw_Z below #[Value.ref b] s) l D cD cL (fun q => s.heap.size ≤ q) b (5 * k) k g r rd rm q qd qm f s1 s2 f1 f2 lf rt o dp mp od ol hlt hx hb hml hown hts hK hA hNW hST hCA hXZ hNc hX hbl hbA hL (by omega) (by omega) n kd lim sol ord n2 dd mm ee ff sH sM FH FM dR mR fo fl a0 a1 a2 a3 b0 b1 b2 b3 v0 v1 v2 v3 v4 v5 v6 v7 gone thr cst cfl crf inv H locs ls hP hD hS hl kk
    · refine lv_tableIn (off := 397) (tgt := 441) hx hb dL_law_44 (by decide) (by decide) (by decide) (by decide) ?_
      exact k_cell p e s m #[Value.ref b] below meth c (lw_Z below #[Value.ref b] s) l D cD cL (fun q => s.heap.size ≤ q) b (5 * k) k g r rd rm q qd qm f s1 s2 f1 f2 lf rt o dp mp od ol hlt hx hb hml hown hts hK hA hNW hST hCA hXZ hNc hX hbl hbA hL (by omega) (by omega) n kd lim sol ord n2 dd mm ee ff sH sM FH FM dR mR fo fl a0 a1 a2 a3 b0 b1 b2 b3 v0 v1 v2 v3 v4 v5 v6 v7 gone thr cst cfl crf inv H locs ls hP hD hS hl kk
    · refine lv_tableIn (off := 486) (tgt := 530) hx hb dL_law_44 (by decide) (by decide) (by decide) (by decide) ?_
      exact k_flux p e s m #[Value.ref b] below meth c (lw_Z below #[Value.ref b] s) l D cD cL (fun q => s.heap.size ≤ q) b (5 * k) k g r rd rm q qd qm f s1 s2 f1 f2 lf rt o dp mp od ol hlt hx hb hml hown hts hK hA hNW hST hCA hXZ hNc hX hbl hbA hL (by omega) (by omega) n kd lim sol ord n2 dd mm ee ff sH sM FH FM dR mR fo fl a0 a1 a2 a3 b0 b1 b2 b3 v0 v1 v2 v3 v4 v5 v6 v7 gone thr cst cfl crf inv H locs ls hP hD hS hl kk
    · refine lv_tableIn (off := 591) (tgt := 635) hx hb dL_law_44 (by decide) (by decide) (by decide) (by decide) ?_
      exact k_sum p e s m #[Value.ref b] below meth c (lw_Z below #[Value.ref b] s) l D cD cL (fun q => s.heap.size ≤ q) b (5 * k) k g r rd rm q qd qm f s1 s2 f1 f2 lf rt o dp mp od ol hlt hx hb hml hown hts hK hA hNW hST hCA hXZ hNc hX hbl hbA hL (by omega) (by omega) n kd lim sol ord n2 dd mm ee ff sH sM FH FM dR mR fo fl a0 a1 a2 a3 b0 b1 b2 b3 v0 v1 v2 v3 v4 v5 v6 v7 gone thr cst cfl crf inv H locs ls hP hD hS hl kk
    · refine lv_tableIn (off := 660) (tgt := 704) hx hb dL_law_44 (by decide) (by decide) (by decide) (by decide) ?_
      exact k_time p e s m #[Value.ref b] below meth c (lw_Z below #[Value.ref b] s) l D cD cL (fun q => s.heap.size ≤ q) b (5 * k) k g r rd rm q qd qm f s1 s2 f1 f2 lf rt o dp mp od ol hlt hx hb hml hown hts hK hA hNW hST hCA hXZ hNc hX hbl hbA hL (by omega) (by omega) n kd lim sol ord n2 dd mm ee ff sH sM FH FM dR mR fo fl a0 a1 a2 a3 b0 b1 b2 b3 v0 v1 v2 v3 v4 v5 v6 v7 gone thr cst cfl crf inv H locs ls hP hD hS hl kk
    · refine lv_tableIn (off := 701) (tgt := 745) hx hb dL_law_44 (by decide) (by decide) (by decide) (by decide) ?_
      exact k_count p e s m #[Value.ref b] below meth c (lw_Z below #[Value.ref b] s) l D cD cL (fun q => s.heap.size ≤ q) b (5 * k) k g r rd rm q qd qm f s1 s2 f1 f2 lf rt o dp mp od ol hlt hx hb hml hown hts hK hA hNW hST hCA hXZ hNc hX hbl hbA hL (by omega) (by omega) n kd lim sol ord n2 dd mm ee ff sH sM FH FM dR mR fo fl a0 a1 a2 a3 b0 b1 b2 b3 v0 v1 v2 v3 v4 v5 v6 v7 gone thr cst cfl crf inv H locs ls hP hD hS hl kk
    · refine lv_tableOut (tgt := 801) hx hb dL_law_44 (Or.inr (by rw [show (nI j).toInt = (j : Int) from Int32.toInt_ofNat_of_lt (by omega)]; omega)) (by decide) ?_
      obtain ⟨hn4, hn, hkd, hlim, hsol, ho, ho2, hSt, hiD, hiM, hG⟩ := inv
      have sb := fz_SSb (k := k) (by omega)
      exact fz_widen (by omega) (by omega) (kk n kd lim sol ord n2 dd mm ee ff sH sM FH FM dR mR fo fl a0 a1 a2 a3 b0 b1 b2 b3 v0 v1 v2 v3 v4 v5 v6 v7 gone thr cst cfl crf ⟨hn4, hn, hkd, hlim, hsol, ho, ho2, hSt.mono sb.2.2.2.2.2.2.2.2.1, hiD, hiM, hG.mono sb.2.2.2.2.2.2.2.2.2.1⟩ H locs ls hP hD hS hl)
set_option maxHeartbeats 8000000 in
set_option maxRecDepth 100000 in
theorem whole_start {p : Program} {e : Env} {s : State} {m : MethodId} {below : List Frame} {meth : Method} {c : Code} (l : Launch) (hlt : l.stackTraces = false) {b L : Nat} {xs : Nat → Int32} (hL : L ≤ 2560) (C0 : lw_At p s m meth c b L xs) : W p l e room_1 s m #[Value.ref b] below meth c s.heap [] 0 0 (lw_Z below #[Value.ref b] s) (entryFrame m ([Value.ref b] : List Value).toArray 10) := by
  obtain ⟨hx, hb, hr, hml, hown, htsT, hX, hbl, hlocks, hgv⟩ := C0
  obtain ⟨D, cD, cL, hK⟩ := fz_Kof htsT
  have hNW := fz_NWof htsT
  have hCA := fz_CAof htsT
  have hST := fz_STof htsT hgv
  have hXZ := fz_XZof htsT hgv
  have hNc := fz_Ncof hgv
  have hts : ∀ w ∈ wsL_law, w.before #[Value.ref b] s = true := fun w hw => htsT w (wsL_law_in w hw)
  have hA : ∀ q, s.heap.size ≤ q → s.heap.size ≤ q := fun _ h => h
  have hbA : ¬ s.heap.size ≤ b := Nat.not_le.mpr hbl
  have hb : c.code = cL_law := hb
  have hown : s.vm.findClass RL = some m.cls := hown
  have hK1 : va_K D vwCl [(cD, .double)] s := hK.sub [0] rfl
  rw [lg_entry_eq]
  suffices main : ∀ ls : Array Slot, lv_has ls 10 [(0, .ref b)] → W p l e room_1 s m #[Value.ref b] below meth c s.heap [] 0 0 (lw_Z below #[Value.ref b] s) (F0 m 0 ls []) from main _ (lv_entry [Value.ref b] (n := 10) (Nat.le_of_ble_eq_true rfl))
  intro ls hl
  have hP : va_P D vwCl [] s.heap := fun k q h => by simp at h
  have hD : va_D (fun q => s.heap.size ≤ q) [] := ⟨fun i j p q h => by simp at h, fun k q h => by simp at h⟩
  have hS : va_S (fun q => s.heap.size ≤ q) s.heap s.heap [] := va_S.rf
  refine va_new (ci := 3) (fs := [.null, .null, .null, .int 0, .int 0, .int 0, .int 0, .double FP.dconst0, .int 0, .int 0, .int 0]) (C := RX3) (T := TX3) (N := 11) hx hb htsT wsL_iX3 tyX3 tyX3_ok hown (htsT _ (by decide +kernel : Cond.classLink RL 8 RX3 ∈ lw_tbl)) (htsT _ (by decide +kernel : Cond.instantiable RX3 11 ∈ lw_tbl)) (htsT _ (by decide +kernel : Cond.initialized RX3 ∈ lw_tbl)) hK hP hD hS hA rfl (fun j hj => by rcases (show j = 0 ∨ j = 1 ∨ j = 2 ∨ j = 3 ∨ j = 4 ∨ j = 5 ∨ j = 6 ∨ j = 7 ∨ j = 8 ∨ j = 9 ∨ j = 10 by omega) with rfl | rfl | rfl | rfl | rfl | rfl | rfl | rfl | rfl | rfl | rfl <;> rfl) (Nat.le_of_ble_eq_true rfl) (Nat.le_of_ble_eq_true rfl) dL_law_0 (fun g H hP hD hS => ?_)
  refine lv_dup hx hb dL_law_3 rfl ?_
  refine fz_callI (wr := []) (As := []) (rest := [.ref g]) ⟨hx, hb, hml, hown, hts⟩ (c_X3_init l D cD g) (cwI 0 hts gL_law_X3_init rfl rfl rfl (htsT (.initialized RX3) (by decide +kernel)) (htsT (.methodLink RL 47 yX3_init) (by decide +kernel)) (htsT (.instanceMethod yX3_init) (by decide +kernel)) rfl (by decide +kernel) ⟨Nat.le_of_ble_eq_true rfl, Nat.le_of_ble_eq_true rfl⟩) hK1 hNW hP hD hS hA [0] [] rfl rfl rfl rfl (by decide) rfl hl.1 rfl (Nat.le_of_ble_eq_true rfl) dL_law_4 ⟨Nat.le_of_ble_eq_true rfl, Nat.le_of_ble_eq_true rfl⟩ (fun ov wo hpost H locs hP hD hS => ?_)
  obtain ⟨r, rd, rm, q, qd, qm, f, s1, s2, f1, f2, lf, rt, rfl, rfl⟩ := hpost
  refine lv_astore_n (lv' := [(1, .ref g), (0, .ref b)]) hx hb dL_law_7 rfl hl (by decide) rfl (fun ls hl => ?_)
  refine va_new (ci := 4) (fs := [.int 0, .int 0, .int 0, .int 0, .int 0, .int 0, .double FP.dconst0, .int 0, .int 0, .int 0, .null, .null, .double FP.dconst0, .double FP.dconst0, .double FP.dconst0, .double FP.dconst0, .double FP.dconst0, .double FP.dconst0, .double FP.dconst0, .double FP.dconst0]) (C := RX4) (T := TX4) (N := 20) hx hb htsT wsL_iX4 tyX4 tyX4_ok hown (htsT _ (by decide +kernel : Cond.classLink RL 48 RX4 ∈ lw_tbl)) (htsT _ (by decide +kernel : Cond.instantiable RX4 20 ∈ lw_tbl)) (htsT _ (by decide +kernel : Cond.initialized RX4 ∈ lw_tbl)) hK hP hD hS hA rfl (fun j hj => by rcases (show j = 0 ∨ j = 1 ∨ j = 2 ∨ j = 3 ∨ j = 4 ∨ j = 5 ∨ j = 6 ∨ j = 7 ∨ j = 8 ∨ j = 9 ∨ j = 10 ∨ j = 11 ∨ j = 12 ∨ j = 13 ∨ j = 14 ∨ j = 15 ∨ j = 16 ∨ j = 17 ∨ j = 18 ∨ j = 19 by omega) with rfl | rfl | rfl | rfl | rfl | rfl | rfl | rfl | rfl | rfl | rfl | rfl | rfl | rfl | rfl | rfl | rfl | rfl | rfl | rfl <;> rfl) (Nat.le_of_ble_eq_true rfl) (Nat.le_of_ble_eq_true rfl) dL_law_8 (fun o H hP hD hS => ?_)
  refine lv_dup hx hb dL_law_11 rfl ?_
  refine fz_callI (wr := [(g, .inr (3, [.ref r, .ref q, .ref f, .int (nI 0), .int (nI 1), .int (nI 0), .int (nI 1), .double FP.dconst0, .int (nI 0), .int (nI 0), .int (nI 0)])), (r, .inr (1, [.ref rd, .ref rm, .int (nI 8)])), (rd, fz_da cD 28 (fz_pre 0 28 (fun _ => FP.dconst1) (fun _ => FP.dconst0))), (rm, fz_da cD 28 (fz_pre 0 28 (fun _ => FP.dconst0) (fun _ => FP.dconst0))), (q, .inr (1, [.ref qd, .ref qm, .int (nI 0)])), (qd, fz_da cD 28 ((fun _ => FP.dconst0))), (qm, fz_da cD 28 ((fun _ => FP.dconst0))), (f, .inr (0, [.ref s1, .ref s2, .ref f1, .ref f2, .ref lf, .ref rt])), (s1, fz_da cD 28 ((fun _ => FP.dconst0))), (s2, fz_da cD 28 ((fun _ => FP.dconst0))), (f1, fz_da cD 25 ((fun _ => FP.dconst0))), (f2, fz_da cD 25 ((fun _ => FP.dconst0))), (lf, .inr (2, [.double FP.dconst1, .double FP.dconst0, .double FP.dconst0, .double FP.dconst1])), (rt, .inr (2, [.double FP.dconst1, .double FP.dconst0, .double FP.dconst0, .double FP.dconst1]))]) (As := []) (rest := [.ref o]) ⟨hx, hb, hml, hown, hts⟩ (c_X4_init l D cD o) (cwI 0 hts gL_law_X4_init rfl rfl rfl (htsT (.initialized RX4) (by decide +kernel)) (htsT (.methodLink RL 50 yX4_init) (by decide +kernel)) (htsT (.instanceMethod yX4_init) (by decide +kernel)) rfl (by decide +kernel) ⟨Nat.le_of_ble_eq_true rfl, Nat.le_of_ble_eq_true rfl⟩) hK1 hNW hP hD hS hA [14] [0, 1, 2, 3, 4, 5, 6, 7, 8, 9, 10, 11, 12, 13] rfl rfl rfl rfl (by decide) rfl hl.1 rfl (Nat.le_of_ble_eq_true rfl) dL_law_12 ⟨Nat.le_of_ble_eq_true rfl, Nat.le_of_ble_eq_true rfl⟩ (fun ov wo hpost H locs hP hD hS => ?_)
  obtain ⟨dp, mp, rfl, rfl⟩ := hpost
  refine lv_astore_n (lv' := [(2, .ref o), (1, .ref g), (0, .ref b)]) hx hb dL_law_15 rfl hl (by decide) rfl (fun ls hl => ?_)
  refine lv_iconst (v := nI 1) hx hb dL_law_16 (by decide) ?_
  refine fz_newal hx hb (htsT _ (by decide +kernel : Cond.arrayClass .long ∈ lw_tbl)) hK 1 rfl hP hD hS hA (N := 1) (by decide) (by decide) (Nat.le_of_ble_eq_true rfl) (Nat.le_of_ble_eq_true rfl) dL_law_17 (fun ol H hP hD hS => ?_)
  refine lv_astore_n (lv' := [(3, .ref ol), (2, .ref o), (1, .ref g), (0, .ref b)]) hx hb dL_law_19 rfl hl (by decide) rfl (fun ls hl => ?_)
  refine lv_iconst (v := nI 1) hx hb dL_law_20 (by decide) ?_
  refine fz_newar hx hb (htsT _ (by decide +kernel : Cond.arrayClass .double ∈ lw_tbl)) hK 0 rfl hP hD hS hA (N := 1) (by decide) (by decide) (Nat.le_of_ble_eq_true rfl) (Nat.le_of_ble_eq_true rfl) dL_law_21 (fun od H hP hD hS => ?_)
  refine lv_astore (lv' := [(4, .ref od), (3, .ref ol), (2, .ref o), (1, .ref g), (0, .ref b)]) hx hb dL_law_23 hl (by decide) rfl (fun ls hl => ?_)
  refine lv_iconst (v := nI 0) hx hb dL_law_25 (by decide) ?_
  refine lv_istore (lv' := [(5, .int (nI 0)), (4, .ref od), (3, .ref ol), (2, .ref o), (1, .ref g), (0, .ref b)]) hx hb dL_law_26 hl (by decide) rfl (fun ls hl => ?_)
  have hP := hP.sub (ws' := (fz_w19 cD cL g r rd rm q qd qm f s1 s2 f1 f2 lf rt o dp mp od ol 8 0 1 0 1 0 (fz_pre 0 28 (fun _ => FP.dconst1) (fun _ => FP.dconst0)) (fz_pre 0 28 (fun _ => FP.dconst0) (fun _ => FP.dconst0)) ((fun _ => FP.dconst0)) ((fun _ => FP.dconst0)) ((fun _ => FP.dconst0)) ((fun _ => FP.dconst0)) ((fun _ => FP.dconst0)) ((fun _ => FP.dconst0)) (fz_pre 2 8 (fun _ => FP.dconst1) (fun _ => FP.dconst0)) (fz_pre 2 8 (fun _ => FP.dconst0) (fun _ => FP.dconst0)) ((fun _ => FP.dconst0)) ((fun _ => 0)) FP.dconst1 FP.dconst0 FP.dconst0 FP.dconst1 FP.dconst1 FP.dconst0 FP.dconst0 FP.dconst1 FP.dconst0 FP.dconst0 FP.dconst0 FP.dconst0 FP.dconst0 FP.dconst0 FP.dconst0 FP.dconst0 FP.dconst0 (nI 0) (nI 0) (nI 0) (nI 0))) [0, 1, 2, 3, 4, 5, 6, 7, 8, 9, 10, 11, 12, 13, 14, 15, 16, 18, 17] rfl
  have hD := hD.sub (ws' := (fz_w19 cD cL g r rd rm q qd qm f s1 s2 f1 f2 lf rt o dp mp od ol 8 0 1 0 1 0 (fz_pre 0 28 (fun _ => FP.dconst1) (fun _ => FP.dconst0)) (fz_pre 0 28 (fun _ => FP.dconst0) (fun _ => FP.dconst0)) ((fun _ => FP.dconst0)) ((fun _ => FP.dconst0)) ((fun _ => FP.dconst0)) ((fun _ => FP.dconst0)) ((fun _ => FP.dconst0)) ((fun _ => FP.dconst0)) (fz_pre 2 8 (fun _ => FP.dconst1) (fun _ => FP.dconst0)) (fz_pre 2 8 (fun _ => FP.dconst0) (fun _ => FP.dconst0)) ((fun _ => FP.dconst0)) ((fun _ => 0)) FP.dconst1 FP.dconst0 FP.dconst0 FP.dconst1 FP.dconst1 FP.dconst0 FP.dconst0 FP.dconst1 FP.dconst0 FP.dconst0 FP.dconst0 FP.dconst0 FP.dconst0 FP.dconst0 FP.dconst0 FP.dconst0 FP.dconst0 (nI 0) (nI 0) (nI 0) (nI 0))) [0, 1, 2, 3, 4, 5, 6, 7, 8, 9, 10, 11, 12, 13, 14, 15, 16, 18, 17] rfl rfl
  have h1 := fz_SSb (k := 0) (by omega)
  exact fz_loop l D cD cL b g r rd rm q qd qm f s1 s2 f1 f2 lf rt o dp mp od ol hlt hx hb hml hown hts hK hA hNW hST hCA hXZ hNc hX hbl hbA hL hr hlocks (L + 1) 0 (by omega) (by omega) 8 0 1 0 1 0 (fz_pre 0 28 (fun _ => FP.dconst1) (fun _ => FP.dconst0)) (fz_pre 0 28 (fun _ => FP.dconst0) (fun _ => FP.dconst0)) ((fun _ => FP.dconst0)) ((fun _ => FP.dconst0)) ((fun _ => FP.dconst0)) ((fun _ => FP.dconst0)) ((fun _ => FP.dconst0)) ((fun _ => FP.dconst0)) (fz_pre 2 8 (fun _ => FP.dconst1) (fun _ => FP.dconst0)) (fz_pre 2 8 (fun _ => FP.dconst0) (fun _ => FP.dconst0)) ((fun _ => FP.dconst0)) ((fun _ => 0)) FP.dconst1 FP.dconst0 FP.dconst0 FP.dconst1 FP.dconst1 FP.dconst0 FP.dconst0 FP.dconst1 FP.dconst0 FP.dconst0 FP.dconst0 FP.dconst0 FP.dconst0 FP.dconst0 FP.dconst0 FP.dconst0 FP.dconst0 (nI 0) (nI 0) (nI 0) (nI 0) ⟨by decide, by decide, by decide, by decide, by decide, by decide, by decide, (fq_St1 (by decide) (fun a ha => fz_pre_in0 (j := a + 2) _ _ (by omega)) (fun a ha => fz_pre_in0 (j := a + 2) _ _ (by omega))).mono (by unfold fz_SS; rw [show ((41 * 0 + 1 : Nat) : Int) = 1 from rfl, Int.one_mul]; exact Int.le_refl _), fun a ha => by rw [fz_pre_in _ _ ha, fz_pre_in0 (j := a + 2) _ _ (by omega)], fun a ha => by rw [fz_pre_in _ _ ha, fz_pre_in0 (j := a + 2) _ _ (by omega)], fq_tm0.mono (by unfold fz_GG; omega)⟩ H locs ls hP hD hS (lv_sub hl [5, 4, 3, 2, 1, 0] rfl)
