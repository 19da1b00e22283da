/-! the law's helpers, out of the class's contracts -/
abbrev fz_HR : Room := { frames := 8, cells := 1, slots := 6, locals := 220 }
abbrev fz_la (cL : ClassId) (n : Nat) (f : Nat → Int64) : va_E := .inl (cL, n, .inr (.inl f))
theorem fz_last {p : Program} {l : Launch} {e : Env} {R : Room} {s : State} {m : MethodId} {args : Array Value} {below : List Frame} {meth : Method} {c : Code} {H : Heap} {locs : List Loc} {cells slots : Nat} {Q : State → Prop} {cc : ByteArray} {pc : Nat} {ls : Array Slot} {rest : List Value} {D : va_G} {cl : List vw_C} {tys : List (ClassId × FieldType)} {ws : va_W} {a : Nat} {A : Nat → Prop} {H0 : Heap} (hx : p.tables.exec = Jvm.exec) (hb : c.code = cc) (hK : va_K D cl tys s) (hP : va_P D cl ws H) (hD : va_D A ws) (hS : va_S A H0 H locs) (q0 t0 : Nat) {cA : ClassId} {n : Nat} {f : Nat → Int64} (ha : ws[q0]? = some (a, .inl (cA, n, .inr (.inl f)))) (ht : tys[t0]? = some (cA, .long)) {i : Nat} {x : Int64} (hi : i < n) (hn : n < 2 ^ 31) (hdg : decode cc pc = .ok (.lastore, 1)) (kk : ∀ (H1 : Heap) (locs1 : List Loc), va_P D cl (ws.set q0 (a, .inl (cA, n, .inr (.inl (vf_upd f i x))))) H1 → va_D A (ws.set q0 (a, .inl (cA, n, .inr (.inl (vf_upd f i x))))) → va_S A H0 H1 locs1 → W p l e R s m args below meth c H1 locs1 cells slots Q (F0 m (pc + 1) ls rest)) : W p l e R s m args below meth c H locs cells slots Q (F0 m pc ls (.long x :: .int (nI i) :: .ref a :: rest)) := va_last hx hb hK hP hD hS q0 t0 ha ht (vp_in_nI hi hn) hdg (by rw [nI_clamp (Nat.lt_trans hi hn)]; exact kk)
set_option maxHeartbeats 4000000 in
set_option maxRecDepth 100000 in
theorem h_cells (l : Launch) (D : va_G) (cD cL : ClassId) (g : Nat) (fs : List Value) (v : Int32) (e1 e2 e3 o0 o1 o2 o3 : Nat × va_E) (rm : Room) (hrm : rm.cells = 0 ∧ rm.slots = 0 ∧ rm.frames ≤ 7 ∧ rm.locals ≤ 190) (hM : fz_C l D [(cD, .double)] yX3_cells wsX3_cells rm [.ref g, .int v] [(g, .inr (3, fs)), e1, e2, e3] [o0, o1, o2, o3] none) : fz_H l D [(cD, .double), (cL, .long)] yL_cells wsL_cells fz_HR [.ref g, .int v] [(g, .inr (3, fs)), e1, e2, e3] (fun ov w => ov = some (.int (nI 0)) ∧ w = [o0, o1, o2, o3]) := by
  refine fz_startH (cc := cL_cells) (maxL := 3) (ret := some .int) (hh := [(0, 5, 8, 13)]) (by decide) rfl (Nat.le_of_ble_eq_true rfl) ?_
  intro p e s m below meth c A hx hb hr hlocks hml hown hts hK hA hNW htb hST hCA hXZ hNc H locs hP hD hS ls hl
  have hl : lv_has ls 3 [(0, .ref g), (1, .int v)] := hl
  have hown : s.vm.findClass RL = some m.cls := hown
  have hK1 : va_K D vwCl [(cD, .double)] s := hK.sub [0] rfl
  refine lv_aload_n hx hb dL_cells_0 rfl (lv_at hl 0 rfl) ?_
  refine lv_iload_n hx hb dL_cells_1 rfl (lv_at hl 1 rfl) ?_
  refine fz_callV (ws' := [o0, o1, o2, o3]) (wr := []) (As := [.int v]) (rest := []) ⟨hx, hb, hml, hown, hts⟩ hM (cwV 1 hts gL_cells_X3_cells rfl hrm.1 hrm.2.1 (by decide +kernel) ⟨by show rm.frames + 1 ≤ 8; omega, by show _ ≤ 220; have := hrm.2.2.2; omega⟩) hK1 hNW hP hD hS hA [0, 1, 2, 3] [] [0, 1, 2, 3] rfl rfl rfl rfl (by decide) rfl rfl (q0 := 0) (ci := 3) rfl rfl rfl rfl hl.1 rfl (Nat.le_of_ble_eq_true rfl) dL_cells_2 ⟨Nat.zero_le _, Nat.zero_le _⟩ (fun H locs hP hD hS => ?_)
  refine lv_goto (tgt := 11) hx hb dL_cells_5 (by decide) ?_
  refine lv_iconst (v := nI 0) hx hb dL_cells_11 (by decide) ?_
  exact fz_iretH (Nat.zero_le _) (Nat.zero_le _) hx hb hr hlocks ⟨rfl, rfl⟩ hP hK hD hS dL_cells_12
set_option maxHeartbeats 4000000 in
set_option maxRecDepth 100000 in
theorem h_cellsT (l : Launch) (D : va_G) (cD cL : ClassId) (g : Nat) (fs : List Value) (v : Int32) (e1 e2 e3 : Nat × va_E) (rm : Room) (hrm : rm.cells = 1 ∧ rm.slots = 6 ∧ rm.frames ≤ 7 ∧ rm.locals ≤ 190) (PX : va_W → Prop) (hM : fz_T l D [(cD, .double)] yX3_cells wsX3_cells rm [.ref g, .int v] [(g, .inr (3, fs)), e1, e2, e3] fz_IAE PX) : fz_H l D [(cD, .double), (cL, .long)] yL_cells wsL_cells fz_HR [.ref g, .int v] [(g, .inr (3, fs)), e1, e2, e3] (fun ov w => ov = some (.int (nI 1)) ∧ PX w) := by
  refine fz_startH (cc := cL_cells) (maxL := 3) (ret := some .int) (hh := [(0, 5, 8, 13)]) (by decide) rfl (Nat.le_of_ble_eq_true rfl) ?_
  intro p e s m below meth c A hx hb hr hlocks hml hown hts hK hA hNW htb hST hCA hXZ hNc H locs hP hD hS ls hl
  have hl : lv_has ls 3 [(0, .ref g), (1, .int v)] := hl
  have hown : s.vm.findClass RL = some m.cls := hown
  have hK1 : va_K D vwCl [(cD, .double)] s := hK.sub [0] rfl
  refine lv_aload_n hx hb dL_cells_0 rfl (lv_at hl 0 rfl) ?_
  refine lv_iload_n hx hb dL_cells_1 rfl (lv_at hl 1 rfl) ?_
  refine fz_callVT (wr := []) (As := [.int v]) (rest := []) ⟨hx, hb, hml, hown, hts⟩ hM (cwV 1 hts gL_cells_X3_cells rfl hrm.1 hrm.2.1 (by decide +kernel) ⟨by show rm.frames + 1 ≤ 8; omega, by show _ ≤ 220; have := hrm.2.2.2; omega⟩) hK1 hNW hST hCA hXZ hP hD hS hA [0, 1, 2, 3] [] rfl rfl rfl rfl (by decide) (q0 := 0) (ci := 3) rfl rfl rfl rfl hl.1 rfl (Nat.le_of_ble_eq_true rfl) dL_cells_2 ⟨Nat.le_refl _, Nat.le_refl _⟩ (fun wo hpost H locs ce q9 hP hD hS hce hcv hcl => ?_)
  refine fz_catch1 (x := ⟨0, 5, 8, 13⟩) hown htb (by decide) (by decide) (hts _ (by decide +kernel : Cond.classLink RL 13 "java/lang/IllegalArgumentException" ∈ wsL_cells)) hCA (by decide) hce hcv hcl ?_
  refine lv_astore_n (lv' := [(2, .ref q9), (0, .ref g), (1, .int v)]) hx hb dL_cells_8 rfl hl (by decide) rfl (fun ls hl => ?_)
  refine lv_iconst (v := nI 1) hx hb dL_cells_9 (by decide) ?_
  exact fz_iretH (Nat.le_refl _) (Nat.le_refl _) hx hb hr hlocks ⟨rfl, hpost⟩ hP hK hD hS dL_cells_10
set_option maxHeartbeats 4000000 in
set_option maxRecDepth 100000 in
theorem h_choose (l : Launch) (D : va_G) (cD cL : ClassId) (g : Nat) (fs : List Value) (v1 : Int32) (v2 : Int32) (v3 : Int32) (v4 : Int32) (e1 e2 e3 o0 o1 o2 o3 : Nat × va_E) (rm : Room) (hrm : rm.cells = 0 ∧ rm.slots = 0 ∧ rm.frames ≤ 7 ∧ rm.locals ≤ 190) (hM : fz_C l D [(cD, .double)] yX3_choose wsX3_choose rm [.ref g, .int v1, .int v2, .int v3, .int v4] [(g, .inr (3, fs)), e1, e2, e3] [o0, o1, o2, o3] none) : fz_H l D [(cD, .double), (cL, .long)] yL_choose wsL_choose fz_HR [.ref g, .int v1, .int v2, .int v3, .int v4] [(g, .inr (3, fs)), e1, e2, e3] (fun ov w => ov = some (.int (nI 0)) ∧ w = [o0, o1, o2, o3]) := by
  refine fz_startH (cc := cL_choose) (maxL := 6) (ret := some .int) (hh := [(0, 9, 12, 13)]) (by decide) rfl (Nat.le_of_ble_eq_true rfl) ?_
  intro p e s m below meth c A hx hb hr hlocks hml hown hts hK hA hNW htb hST hCA hXZ hNc H locs hP hD hS ls hl
  have hl : lv_has ls 6 [(0, .ref g), (1, .int v1), (2, .int v2), (3, .int v3), (4, .int v4)] := hl
  have hown : s.vm.findClass RL = some m.cls := hown
  have hK1 : va_K D vwCl [(cD, .double)] s := hK.sub [0] rfl
  refine lv_aload_n hx hb dL_choose_0 rfl (lv_at hl 0 rfl) ?_
  refine lv_iload_n hx hb dL_choose_1 rfl (lv_at hl 1 rfl) ?_
  refine lv_iload_n hx hb dL_choose_2 rfl (lv_at hl 2 rfl) ?_
  refine lv_iload_n hx hb dL_choose_3 rfl (lv_at hl 3 rfl) ?_
  refine lv_iload hx hb dL_choose_4 (lv_at hl 4 rfl) ?_
  refine fz_callV (ws' := [o0, o1, o2, o3]) (wr := []) (As := [.int v1, .int v2, .int v3, .int v4]) (rest := []) ⟨hx, hb, hml, hown, hts⟩ hM (cwV 4 hts gL_choose_X3_choose rfl hrm.1 hrm.2.1 (by decide +kernel) ⟨by show rm.frames + 1 ≤ 8; omega, by show _ ≤ 220; have := hrm.2.2.2; omega⟩) hK1 hNW hP hD hS hA [0, 1, 2, 3] [] [0, 1, 2, 3] rfl rfl rfl rfl (by decide) rfl rfl (q0 := 0) (ci := 3) rfl rfl rfl rfl hl.1 rfl (Nat.le_of_ble_eq_true rfl) dL_choose_6 ⟨Nat.zero_le _, Nat.zero_le _⟩ (fun H locs hP hD hS => ?_)
  refine lv_goto (tgt := 16) hx hb dL_choose_9 (by decide) ?_
  refine lv_iconst (v := nI 0) hx hb dL_choose_16 (by decide) ?_
  exact fz_iretH (Nat.zero_le _) (Nat.zero_le _) hx hb hr hlocks ⟨rfl, rfl⟩ hP hK hD hS dL_choose_17
set_option maxHeartbeats 4000000 in
set_option maxRecDepth 100000 in
theorem h_chooseT (l : Launch) (D : va_G) (cD cL : ClassId) (g : Nat) (fs : List Value) (v1 : Int32) (v2 : Int32) (v3 : Int32) (v4 : Int32) (e1 e2 e3 : Nat × va_E) (rm : Room) (hrm : rm.cells = 1 ∧ rm.slots = 6 ∧ rm.frames ≤ 7 ∧ rm.locals ≤ 190) (PX : va_W → Prop) (hM : fz_T l D [(cD, .double)] yX3_choose wsX3_choose rm [.ref g, .int v1, .int v2, .int v3, .int v4] [(g, .inr (3, fs)), e1, e2, e3] fz_IAE PX) : fz_H l D [(cD, .double), (cL, .long)] yL_choose wsL_choose fz_HR [.ref g, .int v1, .int v2, .int v3, .int v4] [(g, .inr (3, fs)), e1, e2, e3] (fun ov w => ov = some (.int (nI 1)) ∧ PX w) := by
  refine fz_startH (cc := cL_choose) (maxL := 6) (ret := some .int) (hh := [(0, 9, 12, 13)]) (by decide) rfl (Nat.le_of_ble_eq_true rfl) ?_
  intro p e s m below meth c A hx hb hr hlocks hml hown hts hK hA hNW htb hST hCA hXZ hNc H locs hP hD hS ls hl
  have hl : lv_has ls 6 [(0, .ref g), (1, .int v1), (2, .int v2), (3, .int v3), (4, .int v4)] := hl
  have hown : s.vm.findClass RL = some m.cls := hown
  have hK1 : va_K D vwCl [(cD, .double)] s := hK.sub [0] rfl
  refine lv_aload_n hx hb dL_choose_0 rfl (lv_at hl 0 rfl) ?_
  refine lv_iload_n hx hb dL_choose_1 rfl (lv_at hl 1 rfl) ?_
  refine lv_iload_n hx hb dL_choose_2 rfl (lv_at hl 2 rfl) ?_
  refine lv_iload_n hx hb dL_choose_3 rfl (lv_at hl 3 rfl) ?_
  refine lv_iload hx hb dL_choose_4 (lv_at hl 4 rfl) ?_
  refine fz_callVT (wr := []) (As := [.int v1, .int v2, .int v3, .int v4]) (rest := []) ⟨hx, hb, hml, hown, hts⟩ hM (cwV 4 hts gL_choose_X3_choose rfl hrm.1 hrm.2.1 (by decide +kernel) ⟨by show rm.frames + 1 ≤ 8; omega, by show _ ≤ 220; have := hrm.2.2.2; omega⟩) hK1 hNW hST hCA hXZ hP hD hS hA [0, 1, 2, 3] [] rfl rfl rfl rfl (by decide) (q0 := 0) (ci := 3) rfl rfl rfl rfl hl.1 rfl (Nat.le_of_ble_eq_true rfl) dL_choose_6 ⟨Nat.le_refl _, Nat.le_refl _⟩ (fun wo hpost H locs ce q9 hP hD hS hce hcv hcl => ?_)
  refine fz_catch1 (x := ⟨0, 9, 12, 13⟩) hown htb (by decide) (by decide) (hts _ (by decide +kernel : Cond.classLink RL 13 "java/lang/IllegalArgumentException" ∈ wsL_choose)) hCA (by decide) hce hcv hcl ?_
  refine lv_astore (lv' := [(5, .ref q9), (0, .ref g), (1, .int v1), (2, .int v2), (3, .int v3), (4, .int v4)]) hx hb dL_choose_12 hl (by decide) rfl (fun ls hl => ?_)
  refine lv_iconst (v := nI 1) hx hb dL_choose_14 (by decide) ?_
  exact fz_iretH (Nat.le_refl _) (Nat.le_refl _) hx hb hr hlocks ⟨rfl, hpost⟩ hP hK hD hS dL_choose_15
set_option maxHeartbeats 4000000 in
set_option maxRecDepth 100000 in
theorem h_put (l : Launch) (D : va_G) (cD cL : ClassId) (g : Nat) (fs : List Value) (v : Int32) (x : UInt64) (y : UInt64) (e1 e2 e3 o0 o1 o2 o3 : Nat × va_E) (rm : Room) (hrm : rm.cells = 0 ∧ rm.slots = 0 ∧ rm.frames ≤ 7 ∧ rm.locals ≤ 190) (hM : fz_C l D [(cD, .double)] yX3_put wsX3_put rm [.ref g, .int v, .double x, .double y] [(g, .inr (3, fs)), e1, e2, e3] [o0, o1, o2, o3] none) : fz_H l D [(cD, .double), (cL, .long)] yL_put wsL_put fz_HR [.ref g, .int v, .double x, .double y] [(g, .inr (3, fs)), e1, e2, e3] (fun ov w => ov = some (.int (nI 0)) ∧ w = [o0, o1, o2, o3]) := by
  refine fz_startH (cc := cL_put) (maxL := 7) (ret := some .int) (hh := [(0, 8, 11, 13)]) (by decide) rfl (Nat.le_of_ble_eq_true rfl) ?_
  intro p e s m below meth c A hx hb hr hlocks hml hown hts hK hA hNW htb hST hCA hXZ hNc H locs hP hD hS ls hl
  have hl : lv_has ls 7 [(0, .ref g), (1, .int v), (2, .double x), (4, .double y)] := hl
  have hown : s.vm.findClass RL = some m.cls := hown
  have hK1 : va_K D vwCl [(cD, .double)] s := hK.sub [0] rfl
  refine lv_aload_n hx hb dL_put_0 rfl (lv_at hl 0 rfl) ?_
  refine lv_iload_n hx hb dL_put_1 rfl (lv_at hl 1 rfl) ?_
  refine lv_dload_n hx hb dL_put_2 rfl (lv_at hl 2 rfl) ?_
  refine lv_dload hx hb dL_put_3 (lv_at hl 3 rfl) ?_
  refine fz_callV (ws' := [o0, o1, o2, o3]) (wr := []) (As := [.int v, .double x, .double y]) (rest := []) ⟨hx, hb, hml, hown, hts⟩ hM (cwV 3 hts gL_put_X3_put rfl hrm.1 hrm.2.1 (by decide +kernel) ⟨by show rm.frames + 1 ≤ 8; omega, by show _ ≤ 220; have := hrm.2.2.2; omega⟩) hK1 hNW hP hD hS hA [0, 1, 2, 3] [] [0, 1, 2, 3] rfl rfl rfl rfl (by decide) rfl rfl (q0 := 0) (ci := 3) rfl rfl rfl rfl hl.1 rfl (Nat.le_of_ble_eq_true rfl) dL_put_5 ⟨Nat.zero_le _, Nat.zero_le _⟩ (fun H locs hP hD hS => ?_)
  refine lv_goto (tgt := 15) hx hb dL_put_8 (by decide) ?_
  refine lv_iconst (v := nI 0) hx hb dL_put_15 (by decide) ?_
  exact fz_iretH (Nat.zero_le _) (Nat.zero_le _) hx hb hr hlocks ⟨rfl, rfl⟩ hP hK hD hS dL_put_16
set_option maxHeartbeats 4000000 in
set_option maxRecDepth 100000 in
theorem h_putT (l : Launch) (D : va_G) (cD cL : ClassId) (g : Nat) (fs : List Value) (v : Int32) (x : UInt64) (y : UInt64) (e1 e2 e3 : Nat × va_E) (rm : Room) (hrm : rm.cells = 1 ∧ rm.slots = 6 ∧ rm.frames ≤ 7 ∧ rm.locals ≤ 190) (PX : va_W → Prop) (hM : fz_T l D [(cD, .double)] yX3_put wsX3_put rm [.ref g, .int v, .double x, .double y] [(g, .inr (3, fs)), e1, e2, e3] fz_IAE PX) : fz_H l D [(cD, .double), (cL, .long)] yL_put wsL_put fz_HR [.ref g, .int v, .double x, .double y] [(g, .inr (3, fs)), e1, e2, e3] (fun ov w => ov = some (.int (nI 1)) ∧ PX w) := by
  refine fz_startH (cc := cL_put) (maxL := 7) (ret := some .int) (hh := [(0, 8, 11, 13)]) (by decide) rfl (Nat.le_of_ble_eq_true rfl) ?_
  intro p e s m below meth c A hx hb hr hlocks hml hown hts hK hA hNW htb hST hCA hXZ hNc H locs hP hD hS ls hl
  have hl : lv_has ls 7 [(0, .ref g), (1, .int v), (2, .double x), (4, .double y)] := hl
  have hown : s.vm.findClass RL = some m.cls := hown
  have hK1 : va_K D vwCl [(cD, .double)] s := hK.sub [0] rfl
  refine lv_aload_n hx hb dL_put_0 rfl (lv_at hl 0 rfl) ?_
  refine lv_iload_n hx hb dL_put_1 rfl (lv_at hl 1 rfl) ?_
  refine lv_dload_n hx hb dL_put_2 rfl (lv_at hl 2 rfl) ?_
  refine lv_dload hx hb dL_put_3 (lv_at hl 3 rfl) ?_
  refine fz_callVT (wr := []) (As := [.int v, .double x, .double y]) (rest := []) ⟨hx, hb, hml, hown, hts⟩ hM (cwV 3 hts gL_put_X3_put rfl hrm.1 hrm.2.1 (by decide +kernel) ⟨by show rm.frames + 1 ≤ 8; omega, by show _ ≤ 220; have := hrm.2.2.2; omega⟩) hK1 hNW hST hCA hXZ hP hD hS hA [0, 1, 2, 3] [] rfl rfl rfl rfl (by decide) (q0 := 0) (ci := 3) rfl rfl rfl rfl hl.1 rfl (Nat.le_of_ble_eq_true rfl) dL_put_5 ⟨Nat.le_refl _, Nat.le_refl _⟩ (fun wo hpost H locs ce q9 hP hD hS hce hcv hcl => ?_)
  refine fz_catch1 (x := ⟨0, 8, 11, 13⟩) hown htb (by decide) (by decide) (hts _ (by decide +kernel : Cond.classLink RL 13 "java/lang/IllegalArgumentException" ∈ wsL_put)) hCA (by decide) hce hcv hcl ?_
  refine lv_astore (lv' := [(6, .ref q9), (0, .ref g), (1, .int v), (2, .double x), (4, .double y)]) hx hb dL_put_11 hl (by decide) rfl (fun ls hl => ?_)
  refine lv_iconst (v := nI 1) hx hb dL_put_13 (by decide) ?_
  exact fz_iretH (Nat.le_refl _) (Nat.le_refl _) hx hb hr hlocks ⟨rfl, hpost⟩ hP hK hD hS dL_put_14
set_option maxHeartbeats 4000000 in
set_option maxRecDepth 100000 in
theorem h_cell (l : Launch) (D : va_G) (cD cL : ClassId) (g : Nat) (fs : List Value) (v : Int32) (w : Int32) (e1 e2 e3 o0 o1 o2 o3 : Nat × va_E) (out : Nat) (fo : Nat → UInt64) (z : UInt64) (rm : Room) (hrm : rm.cells = 0 ∧ rm.slots = 0 ∧ rm.frames ≤ 7 ∧ rm.locals ≤ 190) (hM : fz_C l D [(cD, .double)] yX3_cell wsX3_cell rm [.ref g, .int v, .int w] [(g, .inr (3, fs)), e1, e2, e3] [o0, o1, o2, o3] (some (.double z))) : fz_H l D [(cD, .double), (cL, .long)] yL_cell wsL_cell fz_HR [.ref g, .int v, .int w, .ref out] [(g, .inr (3, fs)), e1, e2, e3, (out, fz_da cD 1 fo)] (fun ov w => ov = some (.int (nI 0)) ∧ w = [(out, fz_da cD 1 (vf_upd fo 0 z)), o0, o1, o2, o3]) := by
  refine fz_startH (cc := cL_cell) (maxL := 5) (ret := some .int) (hh := [(0, 9, 12, 37)]) (by decide) rfl (Nat.le_of_ble_eq_true rfl) ?_
  intro p e s m below meth c A hx hb hr hlocks hml hown hts hK hA hNW htb hST hCA hXZ hNc H locs hP hD hS ls hl
  have hl : lv_has ls 5 [(0, .ref g), (1, .int v), (2, .int w), (3, .ref out)] := hl
  have hown : s.vm.findClass RL = some m.cls := hown
  have hK1 : va_K D vwCl [(cD, .double)] s := hK.sub [0] rfl
  refine lv_aload_n hx hb dL_cell_0 rfl (lv_at hl 3 rfl) ?_
  refine lv_iconst (v := nI 0) hx hb dL_cell_1 (by decide) ?_
  refine lv_aload_n hx hb dL_cell_2 rfl (lv_at hl 0 rfl) ?_
  refine lv_iload_n hx hb dL_cell_3 rfl (lv_at hl 1 rfl) ?_
  refine lv_iload_n hx hb dL_cell_4 rfl (lv_at hl 2 rfl) ?_
  refine fz_callV (ws' := [(out, fz_da cD 1 fo), o0, o1, o2, o3]) (wr := [(out, fz_da cD 1 fo)]) (As := [.int v, .int w]) (rest := [.int (nI 0), .ref out]) ⟨hx, hb, hml, hown, hts⟩ hM (cwV 2 hts gL_cell_X3_cell rfl hrm.1 hrm.2.1 (by decide +kernel) ⟨by show rm.frames + 1 ≤ 8; omega, by show _ ≤ 220; have := hrm.2.2.2; omega⟩) hK1 hNW hP hD hS hA [0, 1, 2, 3] [4] [0, 1, 2, 3, 4] rfl rfl rfl rfl (by decide) rfl rfl (q0 := 0) (ci := 3) rfl rfl rfl rfl hl.1 rfl (Nat.le_of_ble_eq_true rfl) dL_cell_5 ⟨Nat.zero_le _, Nat.zero_le _⟩ (fun H locs hP hD hS => ?_)
  refine fz_dast hx hb hK hP hD hS 0 0 rfl rfl (i := 0) (by decide) (by decide) dL_cell_8 (fun H locs hP hD hS => ?_)
  refine lv_goto (tgt := 16) hx hb dL_cell_9 (by decide) ?_
  refine lv_iconst (v := nI 0) hx hb dL_cell_16 (by decide) ?_
  exact fz_iretH (Nat.zero_le _) (Nat.zero_le _) hx hb hr hlocks ⟨rfl, rfl⟩ hP hK hD hS dL_cell_17
set_option maxHeartbeats 4000000 in
set_option maxRecDepth 100000 in
theorem h_cellT (l : Launch) (D : va_G) (cD cL : ClassId) (g : Nat) (fs : List Value) (v : Int32) (w : Int32) (e1 e2 e3 : Nat × va_E) (out : Nat) (rm : Room) (hrm : rm.cells = 1 ∧ rm.slots = 6 ∧ rm.frames ≤ 7 ∧ rm.locals ≤ 190) (PX : va_W → Prop) (hM : fz_T l D [(cD, .double)] yX3_cell wsX3_cell rm [.ref g, .int v, .int w] [(g, .inr (3, fs)), e1, e2, e3] fz_NSE PX) : fz_H l D [(cD, .double), (cL, .long)] yL_cell wsL_cell fz_HR [.ref g, .int v, .int w, .ref out] [(g, .inr (3, fs)), e1, e2, e3] (fun ov w => ov = some (.int (nI 1)) ∧ PX w) := by
  refine fz_startH (cc := cL_cell) (maxL := 5) (ret := some .int) (hh := [(0, 9, 12, 37)]) (by decide) rfl (Nat.le_of_ble_eq_true rfl) ?_
  intro p e s m below meth c A hx hb hr hlocks hml hown hts hK hA hNW htb hST hCA hXZ hNc H locs hP hD hS ls hl
  have hl : lv_has ls 5 [(0, .ref g), (1, .int v), (2, .int w), (3, .ref out)] := hl
  have hown : s.vm.findClass RL = some m.cls := hown
  have hK1 : va_K D vwCl [(cD, .double)] s := hK.sub [0] rfl
  refine lv_aload_n hx hb dL_cell_0 rfl (lv_at hl 3 rfl) ?_
  refine lv_iconst (v := nI 0) hx hb dL_cell_1 (by decide) ?_
  refine lv_aload_n hx hb dL_cell_2 rfl (lv_at hl 0 rfl) ?_
  refine lv_iload_n hx hb dL_cell_3 rfl (lv_at hl 1 rfl) ?_
  refine lv_iload_n hx hb dL_cell_4 rfl (lv_at hl 2 rfl) ?_
  refine fz_callVT (wr := []) (As := [.int v, .int w]) (rest := [.int (nI 0), .ref out]) ⟨hx, hb, hml, hown, hts⟩ hM (cwV 2 hts gL_cell_X3_cell rfl hrm.1 hrm.2.1 (by decide +kernel) ⟨by show rm.frames + 1 ≤ 8; omega, by show _ ≤ 220; have := hrm.2.2.2; omega⟩) hK1 hNW hST hCA hXZ hP hD hS hA [0, 1, 2, 3] [] rfl rfl rfl rfl (by decide) (q0 := 0) (ci := 3) rfl rfl rfl rfl hl.1 rfl (Nat.le_of_ble_eq_true rfl) dL_cell_5 ⟨Nat.le_refl _, Nat.le_refl _⟩ (fun wo hpost H locs ce q9 hP hD hS hce hcv hcl => ?_)
  refine fz_catch1 (x := ⟨0, 9, 12, 37⟩) hown htb (by decide) (by decide) (hts _ (by decide +kernel : Cond.classLink RL 37 "java/util/NoSuchElementException" ∈ wsL_cell)) hCA (by decide) hce hcv hcl ?_
  refine lv_astore (lv' := [(4, .ref q9), (0, .ref g), (1, .int v), (2, .int w), (3, .ref out)]) hx hb dL_cell_12 hl (by decide) rfl (fun ls hl => ?_)
  refine lv_iconst (v := nI 1) hx hb dL_cell_14 (by decide) ?_
  exact fz_iretH (Nat.le_refl _) (Nat.le_refl _) hx hb hr hlocks ⟨rfl, hpost⟩ hP hK hD hS dL_cell_15
set_option maxHeartbeats 4000000 in
set_option maxRecDepth 100000 in
theorem h_count (l : Launch) (D : va_G) (cD cL : ClassId) (g : Nat) (fs : List Value) (v : Int32) (e1 e2 e3 o0 o1 o2 o3 : Nat × va_E) (out : Nat) (fo : Nat → Int64) (z : Int32) (rm : Room) (hrm : rm.cells = 0 ∧ rm.slots = 0 ∧ rm.frames ≤ 7 ∧ rm.locals ≤ 190) (hM : fz_C l D [(cD, .double)] yX3_count wsX3_count rm [.ref g, .int v] [(g, .inr (3, fs)), e1, e2, e3] [o0, o1, o2, o3] (some (.int z))) : fz_H l D [(cD, .double), (cL, .long)] yL_count wsL_count fz_HR [.ref g, .int v, .ref out] [(g, .inr (3, fs)), e1, e2, e3, (out, fz_la cL 1 fo)] (fun ov w => ov = some (.int (nI 0)) ∧ w = [(out, fz_la cL 1 (vf_upd fo 0 z.toInt64)), o0, o1, o2, o3]) := by
  refine fz_startH (cc := cL_count) (maxL := 4) (ret := some .int) (hh := [(0, 9, 12, 37)]) (by decide) rfl (Nat.le_of_ble_eq_true rfl) ?_
  intro p e s m below meth c A hx hb hr hlocks hml hown hts hK hA hNW htb hST hCA hXZ hNc H locs hP hD hS ls hl
  have hl : lv_has ls 4 [(0, .ref g), (1, .int v), (2, .ref out)] := hl
  have hown : s.vm.findClass RL = some m.cls := hown
  have hK1 : va_K D vwCl [(cD, .double)] s := hK.sub [0] rfl
  refine lv_aload_n hx hb dL_count_0 rfl (lv_at hl 2 rfl) ?_
  refine lv_iconst (v := nI 0) hx hb dL_count_1 (by decide) ?_
  refine lv_aload_n hx hb dL_count_2 rfl (lv_at hl 0 rfl) ?_
  refine lv_iload_n hx hb dL_count_3 rfl (lv_at hl 1 rfl) ?_
  refine fz_callV (ws' := [(out, fz_la cL 1 fo), o0, o1, o2, o3]) (wr := [(out, fz_la cL 1 fo)]) (As := [.int v]) (rest := [.int (nI 0), .ref out]) ⟨hx, hb, hml, hown, hts⟩ hM (cwV 1 hts gL_count_X3_count rfl hrm.1 hrm.2.1 (by decide +kernel) ⟨by show rm.frames + 1 ≤ 8; omega, by show _ ≤ 220; have := hrm.2.2.2; omega⟩) hK1 hNW hP hD hS hA [0, 1, 2, 3] [4] [0, 1, 2, 3, 4] rfl rfl rfl rfl (by decide) rfl rfl (q0 := 0) (ci := 3) rfl rfl rfl rfl hl.1 rfl (Nat.le_of_ble_eq_true rfl) dL_count_4 ⟨Nat.zero_le _, Nat.zero_le _⟩ (fun H locs hP hD hS => ?_)
  refine lv_i2l (v := z.toInt64) hx hb dL_count_7 rfl ?_
  refine fz_last hx hb hK hP hD hS 0 1 rfl rfl (i := 0) (by decide) (by decide) dL_count_8 (fun H locs hP hD hS => ?_)
  refine lv_goto (tgt := 15) hx hb dL_count_9 (by decide) ?_
  refine lv_iconst (v := nI 0) hx hb dL_count_15 (by decide) ?_
  exact fz_iretH (Nat.zero_le _) (Nat.zero_le _) hx hb hr hlocks ⟨rfl, rfl⟩ hP hK hD hS dL_count_16
set_option maxHeartbeats 4000000 in
set_option maxRecDepth 100000 in
theorem h_countT (l : Launch) (D : va_G) (cD cL : ClassId) (g : Nat) (fs : List Value) (v : Int32) (e1 e2 e3 : Nat × va_E) (out : Nat) (rm : Room) (hrm : rm.cells = 1 ∧ rm.slots = 6 ∧ rm.frames ≤ 7 ∧ rm.locals ≤ 190) (PX : va_W → Prop) (hM : fz_T l D [(cD, .double)] yX3_count wsX3_count rm [.ref g, .int v] [(g, .inr (3, fs)), e1, e2, e3] fz_NSE PX) : fz_H l D [(cD, .double), (cL, .long)] yL_count wsL_count fz_HR [.ref g, .int v, .ref out] [(g, .inr (3, fs)), e1, e2, e3] (fun ov w => ov = some (.int (nI 1)) ∧ PX w) := by
  refine fz_startH (cc := cL_count) (maxL := 4) (ret := some .int) (hh := [(0, 9, 12, 37)]) (by decide) rfl (Nat.le_of_ble_eq_true rfl) ?_
  intro p e s m below meth c A hx hb hr hlocks hml hown hts hK hA hNW htb hST hCA hXZ hNc H locs hP hD hS ls hl
  have hl : lv_has ls 4 [(0, .ref g), (1, .int v), (2, .ref out)] := hl
  have hown : s.vm.findClass RL = some m.cls := hown
  have hK1 : va_K D vwCl [(cD, .double)] s := hK.sub [0] rfl
  refine lv_aload_n hx hb dL_count_0 rfl (lv_at hl 2 rfl) ?_
  refine lv_iconst (v := nI 0) hx hb dL_count_1 (by decide) ?_
  refine lv_aload_n hx hb dL_count_2 rfl (lv_at hl 0 rfl) ?_
  refine lv_iload_n hx hb dL_count_3 rfl (lv_at hl 1 rfl) ?_
  refine fz_callVT (wr := []) (As := [.int v]) (rest := [.int (nI 0), .ref out]) ⟨hx, hb, hml, hown, hts⟩ hM (cwV 1 hts gL_count_X3_count rfl hrm.1 hrm.2.1 (by decide +kernel) ⟨by show rm.frames + 1 ≤ 8; omega, by show _ ≤ 220; have := hrm.2.2.2; omega⟩) hK1 hNW hST hCA hXZ hP hD hS hA [0, 1, 2, 3] [] rfl rfl rfl rfl (by decide) (q0 := 0) (ci := 3) rfl rfl rfl rfl hl.1 rfl (Nat.le_of_ble_eq_true rfl) dL_count_4 ⟨Nat.le_refl _, Nat.le_refl _⟩ (fun wo hpost H locs ce q9 hP hD hS hce hcv hcl => ?_)
  refine fz_catch1 (x := ⟨0, 9, 12, 37⟩) hown htb (by decide) (by decide) (hts _ (by decide +kernel : Cond.classLink RL 37 "java/util/NoSuchElementException" ∈ wsL_count)) hCA (by decide) hce hcv hcl ?_
  refine lv_astore_n (lv' := [(3, .ref q9), (0, .ref g), (1, .int v), (2, .ref out)]) hx hb dL_count_12 rfl hl (by decide) rfl (fun ls hl => ?_)
  refine lv_iconst (v := nI 1) hx hb dL_count_13 (by decide) ?_
  exact fz_iretH (Nat.le_refl _) (Nat.le_refl _) hx hb hr hlocks ⟨rfl, hpost⟩ hP hK hD hS dL_count_14
set_option maxHeartbeats 4000000 in
set_option maxRecDepth 100000 in
theorem h_flux (l : Launch) (D : va_G) (cD cL : ClassId) (g : Nat) (fs : List Value) (v : Int32) (w : Int32) (e1 e2 e3 e4 e5 e6 e7 e8 e9 e10 e11 e12 e13 : Nat × va_E) (out : Nat) (fo : Nat → UInt64) (rm : Room) (hrm : rm.cells = 0 ∧ rm.slots = 0 ∧ rm.frames ≤ 7 ∧ rm.locals ≤ 190) (PC : Option Value → va_W → Prop) (hPC : ∀ ov wo, PC ov wo → ∃ z, ov = some (.double z)) (hM : fz_E l D [(cD, .double)] yX3_flux wsX3_flux rm [.ref g, .int v, .int w] [(g, .inr (3, fs)), e1, e2, e3, e4, e5, e6, e7, e8, e9, e10, e11, e12, e13] PC) : fz_H l D [(cD, .double), (cL, .long)] yL_flux wsL_flux fz_HR [.ref g, .int v, .int w, .ref out] [(g, .inr (3, fs)), e1, e2, e3, e4, e5, e6, e7, e8, e9, e10, e11, e12, e13, (out, fz_da cD 1 fo)] (fun ov w => ov = some (.int (nI 0)) ∧ ∃ z wo, PC (some (.double z)) wo ∧ w = (out, fz_da cD 1 (vf_upd fo 0 z)) :: wo) := by
  refine fz_startH (cc := cL_flux) (maxL := 5) (ret := some .int) (hh := [(0, 9, 12, 37)]) (by decide) rfl (Nat.le_of_ble_eq_true rfl) ?_
  intro p e s m below meth c A hx hb hr hlocks hml hown hts hK hA hNW htb hST hCA hXZ hNc H locs hP hD hS ls hl
  have hl : lv_has ls 5 [(0, .ref g), (1, .int v), (2, .int w), (3, .ref out)] := hl
  have hown : s.vm.findClass RL = some m.cls := hown
  have hK1 : va_K D vwCl [(cD, .double)] s := hK.sub [0] rfl
  refine lv_aload_n hx hb dL_flux_0 rfl (lv_at hl 3 rfl) ?_
  refine lv_iconst (v := nI 0) hx hb dL_flux_1 (by decide) ?_
  refine lv_aload_n hx hb dL_flux_2 rfl (lv_at hl 0 rfl) ?_
  refine lv_iload_n hx hb dL_flux_3 rfl (lv_at hl 1 rfl) ?_
  refine lv_iload_n hx hb dL_flux_4 rfl (lv_at hl 2 rfl) ?_
  refine fz_callVE (wr := [(out, fz_da cD 1 fo)]) (As := [.int v, .int w]) (rest := [.int (nI 0), .ref out]) ⟨hx, hb, hml, hown, hts⟩ hM (cwV 2 hts gL_flux_X3_flux rfl hrm.1 hrm.2.1 (by decide +kernel) ⟨by show rm.frames + 1 ≤ 8; omega, by show _ ≤ 220; have := hrm.2.2.2; omega⟩) hK1 hNW hP hD hS hA [0, 1, 2, 3, 4, 5, 6, 7, 8, 9, 10, 11, 12, 13] [14] rfl rfl rfl rfl (by decide) (q0 := 0) (ci := 3) rfl rfl rfl rfl hl.1 rfl (Nat.le_of_ble_eq_true rfl) dL_flux_5 ⟨Nat.zero_le _, Nat.zero_le _⟩ (fun ov wo hpost H locs hP hD hS => ?_)
  obtain ⟨z, rfl⟩ := hPC _ _ hpost
  refine fz_dast hx hb hK hP hD hS 0 0 rfl rfl (i := 0) (by decide) (by decide) dL_flux_8 (fun H locs hP hD hS => ?_)
  refine lv_goto (tgt := 16) hx hb dL_flux_9 (by decide) ?_
  refine lv_iconst (v := nI 0) hx hb dL_flux_16 (by decide) ?_
  exact fz_iretH (Nat.zero_le _) (Nat.zero_le _) hx hb hr hlocks ⟨rfl, z, wo, hpost, rfl⟩ hP hK hD hS dL_flux_17
set_option maxHeartbeats 4000000 in
set_option maxRecDepth 100000 in
theorem h_fluxT (l : Launch) (D : va_G) (cD cL : ClassId) (g : Nat) (fs : List Value) (v : Int32) (w : Int32) (e1 e2 e3 : Nat × va_E) (out : Nat) (rm : Room) (hrm : rm.cells = 1 ∧ rm.slots = 6 ∧ rm.frames ≤ 7 ∧ rm.locals ≤ 190) (PX : va_W → Prop) (hM : fz_T l D [(cD, .double)] yX3_flux wsX3_flux rm [.ref g, .int v, .int w] [(g, .inr (3, fs)), e1, e2, e3] fz_NSE PX) : fz_H l D [(cD, .double), (cL, .long)] yL_flux wsL_flux fz_HR [.ref g, .int v, .int w, .ref out] [(g, .inr (3, fs)), e1, e2, e3] (fun ov w => ov = some (.int (nI 1)) ∧ PX w) := by
  refine fz_startH (cc := cL_flux) (maxL := 5) (ret := some .int) (hh := [(0, 9, 12, 37)]) (by decide) rfl (Nat.le_of_ble_eq_true rfl) ?_
  intro p e s m below meth c A hx hb hr hlocks hml hown hts hK hA hNW htb hST hCA hXZ hNc H locs hP hD hS ls hl
  have hl : lv_has ls 5 [(0, .ref g), (1, .int v), (2, .int w), (3, .ref out)] := hl
  have hown : s.vm.findClass RL = some m.cls := hown
  have hK1 : va_K D vwCl [(cD, .double)] s := hK.sub [0] rfl
  refine lv_aload_n hx hb dL_flux_0 rfl (lv_at hl 3 rfl) ?_
  refine lv_iconst (v := nI 0) hx hb dL_flux_1 (by decide) ?_
  refine lv_aload_n hx hb dL_flux_2 rfl (lv_at hl 0 rfl) ?_
  refine lv_iload_n hx hb dL_flux_3 rfl (lv_at hl 1 rfl) ?_
  refine lv_iload_n hx hb dL_flux_4 rfl (lv_at hl 2 rfl) ?_
  refine fz_callVT (wr := []) (As := [.int v, .int w]) (rest := [.int (nI 0), .ref out]) ⟨hx, hb, hml, hown, hts⟩ hM (cwV 2 hts gL_flux_X3_flux rfl hrm.1 hrm.2.1 (by decide +kernel) ⟨by show rm.frames + 1 ≤ 8; omega, by show _ ≤ 220; have := hrm.2.2.2; omega⟩) hK1 hNW hST hCA hXZ hP hD hS hA [0, 1, 2, 3] [] rfl rfl rfl rfl (by decide) (q0 := 0) (ci := 3) rfl rfl rfl rfl hl.1 rfl (Nat.le_of_ble_eq_true rfl) dL_flux_5 ⟨Nat.le_refl _, Nat.le_refl _⟩ (fun wo hpost H locs ce q9 hP hD hS hce hcv hcl => ?_)
  refine fz_catch1 (x := ⟨0, 9, 12, 37⟩) hown htb (by decide) (by decide) (hts _ (by decide +kernel : Cond.classLink RL 37 "java/util/NoSuchElementException" ∈ wsL_flux)) hCA (by decide) hce hcv hcl ?_
  refine lv_astore (lv' := [(4, .ref q9), (0, .ref g), (1, .int v), (2, .int w), (3, .ref out)]) hx hb dL_flux_12 hl (by decide) rfl (fun ls hl => ?_)
  refine lv_iconst (v := nI 1) hx hb dL_flux_14 (by decide) ?_
  exact fz_iretH (Nat.le_refl _) (Nat.le_refl _) hx hb hr hlocks ⟨rfl, hpost⟩ hP hK hD hS dL_flux_15
set_option maxHeartbeats 4000000 in
set_option maxRecDepth 100000 in
theorem h_step (l : Launch) (D : va_G) (cD cL : ClassId) (g : Nat) (fs : List Value) (t : UInt64) (e1 e2 e3 e4 e5 e6 e7 e8 e9 e10 e11 e12 e13 : Nat × va_E) (out : Nat) (fo : Nat → UInt64) (rm : Room) (hrm : rm.cells = 0 ∧ rm.slots = 0 ∧ rm.frames ≤ 7 ∧ rm.locals ≤ 190) (PC : Option Value → va_W → Prop) (hPC : ∀ ov wo, PC ov wo → ∃ z, ov = some (.double z)) (hM : fz_E l D [(cD, .double)] yX3_step wsX3_step rm [.ref g, .double t] [(g, .inr (3, fs)), e1, e2, e3, e4, e5, e6, e7, e8, e9, e10, e11, e12, e13] PC) : fz_H l D [(cD, .double), (cL, .long)] yL_step wsL_step fz_HR [.ref g, .double t, .ref out] [(g, .inr (3, fs)), e1, e2, e3, e4, e5, e6, e7, e8, e9, e10, e11, e12, e13, (out, fz_da cD 1 fo)] (fun ov w => ov = some (.int (nI 0)) ∧ ∃ z wo, PC (some (.double z)) wo ∧ w = (out, fz_da cD 1 (vf_upd fo 0 z)) :: wo) := by
  refine fz_startH (cc := cL_step) (maxL := 5) (ret := some .int) (hh := [(0, 8, 11, 13), (0, 8, 15, 27)]) (by decide) rfl (Nat.le_of_ble_eq_true rfl) ?_
  intro p e s m below meth c A hx hb hr hlocks hml hown hts hK hA hNW htb hST hCA hXZ hNc H locs hP hD hS ls hl
  have hl : lv_has ls 5 [(0, .ref g), (1, .double t), (3, .ref out)] := hl
  have hown : s.vm.findClass RL = some m.cls := hown
  have hK1 : va_K D vwCl [(cD, .double)] s := hK.sub [0] rfl
  refine lv_aload_n hx hb dL_step_0 rfl (lv_at hl 2 rfl) ?_
  refine lv_iconst (v := nI 0) hx hb dL_step_1 (by decide) ?_
  refine lv_aload_n hx hb dL_step_2 rfl (lv_at hl 0 rfl) ?_
  refine lv_dload_n hx hb dL_step_3 rfl (lv_at hl 1 rfl) ?_
  refine fz_callVE (wr := [(out, fz_da cD 1 fo)]) (As := [.double t]) (rest := [.int (nI 0), .ref out]) ⟨hx, hb, hml, hown, hts⟩ hM (cwV 1 hts gL_step_X3_step rfl hrm.1 hrm.2.1 (by decide +kernel) ⟨by show rm.frames + 1 ≤ 8; omega, by show _ ≤ 220; have := hrm.2.2.2; omega⟩) hK1 hNW hP hD hS hA [0, 1, 2, 3, 4, 5, 6, 7, 8, 9, 10, 11, 12, 13] [14] rfl rfl rfl rfl (by decide) (q0 := 0) (ci := 3) rfl rfl rfl rfl hl.1 rfl (Nat.le_of_ble_eq_true rfl) dL_step_4 ⟨Nat.zero_le _, Nat.zero_le _⟩ (fun ov wo hpost H locs hP hD hS => ?_)
  obtain ⟨z, rfl⟩ := hPC _ _ hpost
  refine fz_dast hx hb hK hP hD hS 0 0 rfl rfl (i := 0) (by decide) (by decide) dL_step_7 (fun H locs hP hD hS => ?_)
  refine lv_goto (tgt := 19) hx hb dL_step_8 (by decide) ?_
  refine lv_iconst (v := nI 0) hx hb dL_step_19 (by decide) ?_
  exact fz_iretH (Nat.zero_le _) (Nat.zero_le _) hx hb hr hlocks ⟨rfl, z, wo, hpost, rfl⟩ hP hK hD hS dL_step_20
set_option maxHeartbeats 4000000 in
set_option maxRecDepth 100000 in
theorem h_stepT1 (l : Launch) (D : va_G) (cD cL : ClassId) (g : Nat) (fs : List Value) (t : UInt64) (e1 e2 e3 : Nat × va_E) (out : Nat) (rm : Room) (hrm : rm.cells = 1 ∧ rm.slots = 6 ∧ rm.frames ≤ 7 ∧ rm.locals ≤ 190) (PX : va_W → Prop) (hM : fz_T l D [(cD, .double)] yX3_step wsX3_step rm [.ref g, .double t] [(g, .inr (3, fs)), e1, e2, e3] fz_IAE PX) : fz_H l D [(cD, .double), (cL, .long)] yL_step wsL_step fz_HR [.ref g, .double t, .ref out] [(g, .inr (3, fs)), e1, e2, e3] (fun ov w => ov = some (.int (nI 1)) ∧ PX w) := by
  refine fz_startH (cc := cL_step) (maxL := 5) (ret := some .int) (hh := [(0, 8, 11, 13), (0, 8, 15, 27)]) (by decide) rfl (Nat.le_of_ble_eq_true rfl) ?_
  intro p e s m below meth c A hx hb hr hlocks hml hown hts hK hA hNW htb hST hCA hXZ hNc H locs hP hD hS ls hl
  have hl : lv_has ls 5 [(0, .ref g), (1, .double t), (3, .ref out)] := hl
  have hown : s.vm.findClass RL = some m.cls := hown
  have hK1 : va_K D vwCl [(cD, .double)] s := hK.sub [0] rfl
  refine lv_aload_n hx hb dL_step_0 rfl (lv_at hl 2 rfl) ?_
  refine lv_iconst (v := nI 0) hx hb dL_step_1 (by decide) ?_
  refine lv_aload_n hx hb dL_step_2 rfl (lv_at hl 0 rfl) ?_
  refine lv_dload_n hx hb dL_step_3 rfl (lv_at hl 1 rfl) ?_
  refine fz_callVT (wr := []) (As := [.double t]) (rest := [.int (nI 0), .ref out]) ⟨hx, hb, hml, hown, hts⟩ hM (cwV 1 hts gL_step_X3_step rfl hrm.1 hrm.2.1 (by decide +kernel) ⟨by show rm.frames + 1 ≤ 8; omega, by show _ ≤ 220; have := hrm.2.2.2; omega⟩) hK1 hNW hST hCA hXZ hP hD hS hA [0, 1, 2, 3] [] rfl rfl rfl rfl (by decide) (q0 := 0) (ci := 3) rfl rfl rfl rfl hl.1 rfl (Nat.le_of_ble_eq_true rfl) dL_step_4 ⟨Nat.le_refl _, Nat.le_refl _⟩ (fun wo hpost H locs ce q9 hP hD hS hce hcv hcl => ?_)
  refine fz_catch1 (x := ⟨0, 8, 11, 13⟩) hown htb (by decide) (by decide) (hts _ (by decide +kernel : Cond.classLink RL 13 "java/lang/IllegalArgumentException" ∈ wsL_step)) hCA (by decide) hce hcv hcl ?_
  refine lv_astore (lv' := [(4, .ref q9), (0, .ref g), (1, .double t), (3, .ref out)]) hx hb dL_step_11 hl (by decide) rfl (fun ls hl => ?_)
  refine lv_iconst (v := nI 1) hx hb dL_step_13 (by decide) ?_
  exact fz_iretH (Nat.le_refl _) (Nat.le_refl _) hx hb hr hlocks ⟨rfl, hpost⟩ hP hK hD hS dL_step_14
set_option maxHeartbeats 4000000 in
set_option maxRecDepth 100000 in
theorem h_stepT2 (l : Launch) (D : va_G) (cD cL : ClassId) (g : Nat) (fs : List Value) (t : UInt64) (e1 e2 e3 e4 e5 e6 e7 e8 e9 e10 e11 e12 e13 : Nat × va_E) (out : Nat) (rm : Room) (hrm : rm.cells = 1 ∧ rm.slots = 6 ∧ rm.frames ≤ 7 ∧ rm.locals ≤ 190) (PX : va_W → Prop) (hM : fz_T l D [(cD, .double)] yX3_step wsX3_step rm [.ref g, .double t] [(g, .inr (3, fs)), e1, e2, e3, e4, e5, e6, e7, e8, e9, e10, e11, e12, e13] fz_ISE PX) : fz_H l D [(cD, .double), (cL, .long)] yL_step wsL_step fz_HR [.ref g, .double t, .ref out] [(g, .inr (3, fs)), e1, e2, e3, e4, e5, e6, e7, e8, e9, e10, e11, e12, e13] (fun ov w => ov = some (.int (nI 2)) ∧ PX w) := by
  refine fz_startH (cc := cL_step) (maxL := 5) (ret := some .int) (hh := [(0, 8, 11, 13), (0, 8, 15, 27)]) (by decide) rfl (Nat.le_of_ble_eq_true rfl) ?_
  intro p e s m below meth c A hx hb hr hlocks hml hown hts hK hA hNW htb hST hCA hXZ hNc H locs hP hD hS ls hl
  have hl : lv_has ls 5 [(0, .ref g), (1, .double t), (3, .ref out)] := hl
  have hown : s.vm.findClass RL = some m.cls := hown
  have hK1 : va_K D vwCl [(cD, .double)] s := hK.sub [0] rfl
  refine lv_aload_n hx hb dL_step_0 rfl (lv_at hl 2 rfl) ?_
  refine lv_iconst (v := nI 0) hx hb dL_step_1 (by decide) ?_
  refine lv_aload_n hx hb dL_step_2 rfl (lv_at hl 0 rfl) ?_
  refine lv_dload_n hx hb dL_step_3 rfl (lv_at hl 1 rfl) ?_
  refine fz_callVT (wr := []) (As := [.double t]) (rest := [.int (nI 0), .ref out]) ⟨hx, hb, hml, hown, hts⟩ hM (cwV 1 hts gL_step_X3_step rfl hrm.1 hrm.2.1 (by decide +kernel) ⟨by show rm.frames + 1 ≤ 8; omega, by show _ ≤ 220; have := hrm.2.2.2; omega⟩) hK1 hNW hST hCA hXZ hP hD hS hA [0, 1, 2, 3, 4, 5, 6, 7, 8, 9, 10, 11, 12, 13] [] rfl rfl rfl rfl (by decide) (q0 := 0) (ci := 3) rfl rfl rfl rfl hl.1 rfl (Nat.le_of_ble_eq_true rfl) dL_step_4 ⟨Nat.le_refl _, Nat.le_refl _⟩ (fun wo hpost H locs ce q9 hP hD hS hce hcv hcl => ?_)
  refine fz_catch2 (z := ⟨0, 8, 11, 13⟩) (x := ⟨0, 8, 15, 27⟩) hown htb (by decide) (hts _ (by decide +kernel : Cond.classLink RL 13 "java/lang/IllegalArgumentException" ∈ wsL_step)) hNc (by decide) (by decide) (hts _ (by decide +kernel : Cond.classLink RL 27 "java/lang/IllegalStateException" ∈ wsL_step)) hCA hce hcv hcl ?_
  refine lv_astore (lv' := [(4, .ref q9), (0, .ref g), (1, .double t), (3, .ref out)]) hx hb dL_step_15 hl (by decide) rfl (fun ls hl => ?_)
  refine lv_iconst (v := nI 2) hx hb dL_step_17 (by decide) ?_
  exact fz_iretH (Nat.le_refl _) (Nat.le_refl _) hx hb hr hlocks ⟨rfl, hpost⟩ hP hK hD hS dL_step_18
set_option maxHeartbeats 4000000 in
set_option maxRecDepth 100000 in
theorem h_run (l : Launch) (D : va_G) (cD cL : ClassId) (g : Nat) (fs : List Value) (t : UInt64) (e1 e2 e3 e4 e5 e6 e7 e8 e9 e10 e11 e12 e13 : Nat × va_E) (out : Nat) (fo : Nat → Int64) (rm : Room) (hrm : rm.cells = 0 ∧ rm.slots = 0 ∧ rm.frames ≤ 7 ∧ rm.locals ≤ 190) (PC : Option Value → va_W → Prop) (hPC : ∀ ov wo, PC ov wo → ∃ z, ov = some (.int z)) (hM : fz_E l D [(cD, .double)] yX3_run wsX3_run rm [.ref g, .double t] [(g, .inr (3, fs)), e1, e2, e3, e4, e5, e6, e7, e8, e9, e10, e11, e12, e13] PC) : fz_H l D [(cD, .double), (cL, .long)] yL_run wsL_run fz_HR [.ref g, .double t, .ref out] [(g, .inr (3, fs)), e1, e2, e3, e4, e5, e6, e7, e8, e9, e10, e11, e12, e13, (out, fz_la cL 1 fo)] (fun ov w => ov = some (.int (nI 0)) ∧ ∃ z wo, PC (some (.int z)) wo ∧ w = (out, fz_la cL 1 (vf_upd fo 0 z.toInt64)) :: wo) := by
  refine fz_startH (cc := cL_run) (maxL := 5) (ret := some .int) (hh := [(0, 9, 12, 13), (0, 9, 16, 27)]) (by decide) rfl (Nat.le_of_ble_eq_true rfl) ?_
  intro p e s m below meth c A hx hb hr hlocks hml hown hts hK hA hNW htb hST hCA hXZ hNc H locs hP hD hS ls hl
  have hl : lv_has ls 5 [(0, .ref g), (1, .double t), (3, .ref out)] := hl
  have hown : s.vm.findClass RL = some m.cls := hown
  have hK1 : va_K D vwCl [(cD, .double)] s := hK.sub [0] rfl
  refine lv_aload_n hx hb dL_run_0 rfl (lv_at hl 2 rfl) ?_
  refine lv_iconst (v := nI 0) hx hb dL_run_1 (by decide) ?_
  refine lv_aload_n hx hb dL_run_2 rfl (lv_at hl 0 rfl) ?_
  refine lv_dload_n hx hb dL_run_3 rfl (lv_at hl 1 rfl) ?_
  refine fz_callVE (wr := [(out, fz_la cL 1 fo)]) (As := [.double t]) (rest := [.int (nI 0), .ref out]) ⟨hx, hb, hml, hown, hts⟩ hM (cwV 1 hts gL_run_X3_run rfl hrm.1 hrm.2.1 (by decide +kernel) ⟨by show rm.frames + 1 ≤ 8; omega, by show _ ≤ 220; have := hrm.2.2.2; omega⟩) hK1 hNW hP hD hS hA [0, 1, 2, 3, 4, 5, 6, 7, 8, 9, 10, 11, 12, 13] [14] rfl rfl rfl rfl (by decide) (q0 := 0) (ci := 3) rfl rfl rfl rfl hl.1 rfl (Nat.le_of_ble_eq_true rfl) dL_run_4 ⟨Nat.zero_le _, Nat.zero_le _⟩ (fun ov wo hpost H locs hP hD hS => ?_)
  obtain ⟨z, rfl⟩ := hPC _ _ hpost
  refine lv_i2l (v := z.toInt64) hx hb dL_run_7 rfl ?_
  refine fz_last hx hb hK hP hD hS 0 1 rfl rfl (i := 0) (by decide) (by decide) dL_run_8 (fun H locs hP hD hS => ?_)
  refine lv_goto (tgt := 20) hx hb dL_run_9 (by decide) ?_
  refine lv_iconst (v := nI 0) hx hb dL_run_20 (by decide) ?_
  exact fz_iretH (Nat.zero_le _) (Nat.zero_le _) hx hb hr hlocks ⟨rfl, z, wo, hpost, rfl⟩ hP hK hD hS dL_run_21
set_option maxHeartbeats 4000000 in
set_option maxRecDepth 100000 in
theorem h_runT1 (l : Launch) (D : va_G) (cD cL : ClassId) (g : Nat) (fs : List Value) (t : UInt64) (e1 e2 e3 : Nat × va_E) (out : Nat) (rm : Room) (hrm : rm.cells = 1 ∧ rm.slots = 6 ∧ rm.frames ≤ 7 ∧ rm.locals ≤ 190) (PX : va_W → Prop) (hM : fz_T l D [(cD, .double)] yX3_run wsX3_run rm [.ref g, .double t] [(g, .inr (3, fs)), e1, e2, e3] fz_IAE PX) : fz_H l D [(cD, .double), (cL, .long)] yL_run wsL_run fz_HR [.ref g, .double t, .ref out] [(g, .inr (3, fs)), e1, e2, e3] (fun ov w => ov = some (.int (nI 1)) ∧ PX w) := by
  refine fz_startH (cc := cL_run) (maxL := 5) (ret := some .int) (hh := [(0, 9, 12, 13), (0, 9, 16, 27)]) (by decide) rfl (Nat.le_of_ble_eq_true rfl) ?_
  intro p e s m below meth c A hx hb hr hlocks hml hown hts hK hA hNW htb hST hCA hXZ hNc H locs hP hD hS ls hl
  have hl : lv_has ls 5 [(0, .ref g), (1, .double t), (3, .ref out)] := hl
  have hown : s.vm.findClass RL = some m.cls := hown
  have hK1 : va_K D vwCl [(cD, .double)] s := hK.sub [0] rfl
  refine lv_aload_n hx hb dL_run_0 rfl (lv_at hl 2 rfl) ?_
  refine lv_iconst (v := nI 0) hx hb dL_run_1 (by decide) ?_
  refine lv_aload_n hx hb dL_run_2 rfl (lv_at hl 0 rfl) ?_
  refine lv_dload_n hx hb dL_run_3 rfl (lv_at hl 1 rfl) ?_
  refine fz_callVT (wr := []) (As := [.double t]) (rest := [.int (nI 0), .ref out]) ⟨hx, hb, hml, hown, hts⟩ hM (cwV 1 hts gL_run_X3_run rfl hrm.1 hrm.2.1 (by decide +kernel) ⟨by show rm.frames + 1 ≤ 8; omega, by show _ ≤ 220; have := hrm.2.2.2; omega⟩) hK1 hNW hST hCA hXZ hP hD hS hA [0, 1, 2, 3] [] rfl rfl rfl rfl (by decide) (q0 := 0) (ci := 3) rfl rfl rfl rfl hl.1 rfl (Nat.le_of_ble_eq_true rfl) dL_run_4 ⟨Nat.le_refl _, Nat.le_refl _⟩ (fun wo hpost H locs ce q9 hP hD hS hce hcv hcl => ?_)
  refine fz_catch1 (x := ⟨0, 9, 12, 13⟩) hown htb (by decide) (by decide) (hts _ (by decide +kernel : Cond.classLink RL 13 "java/lang/IllegalArgumentException" ∈ wsL_run)) hCA (by decide) hce hcv hcl ?_
  refine lv_astore (lv' := [(4, .ref q9), (0, .ref g), (1, .double t), (3, .ref out)]) hx hb dL_run_12 hl (by decide) rfl (fun ls hl => ?_)
  refine lv_iconst (v := nI 1) hx hb dL_run_14 (by decide) ?_
  exact fz_iretH (Nat.le_refl _) (Nat.le_refl _) hx hb hr hlocks ⟨rfl, hpost⟩ hP hK hD hS dL_run_15
set_option maxHeartbeats 4000000 in
set_option maxRecDepth 100000 in
theorem h_runT2 (l : Launch) (D : va_G) (cD cL : ClassId) (g : Nat) (fs : List Value) (t : UInt64) (e1 e2 e3 e4 e5 e6 e7 e8 e9 e10 e11 e12 e13 : Nat × va_E) (out : Nat) (rm : Room) (hrm : rm.cells = 1 ∧ rm.slots = 6 ∧ rm.frames ≤ 7 ∧ rm.locals ≤ 190) (PX : va_W → Prop) (hM : fz_T l D [(cD, .double)] yX3_run wsX3_run rm [.ref g, .double t] [(g, .inr (3, fs)), e1, e2, e3, e4, e5, e6, e7, e8, e9, e10, e11, e12, e13] fz_ISE PX) : fz_H l D [(cD, .double), (cL, .long)] yL_run wsL_run fz_HR [.ref g, .double t, .ref out] [(g, .inr (3, fs)), e1, e2, e3, e4, e5, e6, e7, e8, e9, e10, e11, e12, e13] (fun ov w => ov = some (.int (nI 2)) ∧ PX w) := by
  refine fz_startH (cc := cL_run) (maxL := 5) (ret := some .int) (hh := [(0, 9, 12, 13), (0, 9, 16, 27)]) (by decide) rfl (Nat.le_of_ble_eq_true rfl) ?_
  intro p e s m below meth c A hx hb hr hlocks hml hown hts hK hA hNW htb hST hCA hXZ hNc H locs hP hD hS ls hl
  have hl : lv_has ls 5 [(0, .ref g), (1, .double t), (3, .ref out)] := hl
  have hown : s.vm.findClass RL = some m.cls := hown
  have hK1 : va_K D vwCl [(cD, .double)] s := hK.sub [0] rfl
  refine lv_aload_n hx hb dL_run_0 rfl (lv_at hl 2 rfl) ?_
  refine lv_iconst (v := nI 0) hx hb dL_run_1 (by decide) ?_
  refine lv_aload_n hx hb dL_run_2 rfl (lv_at hl 0 rfl) ?_
  refine lv_dload_n hx hb dL_run_3 rfl (lv_at hl 1 rfl) ?_
  refine fz_callVT (wr := []) (As := [.double t]) (rest := [.int (nI 0), .ref out]) ⟨hx, hb, hml, hown, hts⟩ hM (cwV 1 hts gL_run_X3_run rfl hrm.1 hrm.2.1 (by decide +kernel) ⟨by show rm.frames + 1 ≤ 8; omega, by show _ ≤ 220; have := hrm.2.2.2; omega⟩) hK1 hNW hST hCA hXZ hP hD hS hA [0, 1, 2, 3, 4, 5, 6, 7, 8, 9, 10, 11, 12, 13] [] rfl rfl rfl rfl (by decide) (q0 := 0) (ci := 3) rfl rfl rfl rfl hl.1 rfl (Nat.le_of_ble_eq_true rfl) dL_run_4 ⟨Nat.le_refl _, Nat.le_refl _⟩ (fun wo hpost H locs ce q9 hP hD hS hce hcv hcl => ?_)
  refine fz_catch2 (z := ⟨0, 9, 12, 13⟩) (x := ⟨0, 9, 16, 27⟩) hown htb (by decide) (hts _ (by decide +kernel : Cond.classLink RL 13 "java/lang/IllegalArgumentException" ∈ wsL_run)) hNc (by decide) (by decide) (hts _ (by decide +kernel : Cond.classLink RL 27 "java/lang/IllegalStateException" ∈ wsL_run)) hCA hce hcv hcl ?_
  refine lv_astore (lv' := [(4, .ref q9), (0, .ref g), (1, .double t), (3, .ref out)]) hx hb dL_run_16 hl (by decide) rfl (fun ls hl => ?_)
  refine lv_iconst (v := nI 2) hx hb dL_run_18 (by decide) ?_
  exact fz_iretH (Nat.le_refl _) (Nat.le_refl _) hx hb hr hlocks ⟨rfl, hpost⟩ hP hK hD hS dL_run_19
