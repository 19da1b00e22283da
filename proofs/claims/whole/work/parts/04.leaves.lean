/-! the class's leaves: pure words and contracts -/
theorem fz_nI1 : nI 1 = 1 := by decide
abbrev fz_half : UInt64 := 4602678819172646912
def fz_abs (x : UInt64) : UInt64 := if fz_lt x FP.dconst0 = true then FP.dneg x else x
def fz_gtrC (a b : UInt64) : UInt64 := if fz_le b a = true then a else b
def fz_lesC (a b : UInt64) : UInt64 := if fz_le a b = true then a else b
def fz_rootN (x : UInt64) : Nat → UInt64
  | 0 => if fz_lt x FP.dconst1 = true then FP.dconst1 else x
  | k + 1 => FP.dmul fz_half (FP.dadd (fz_rootN x k) (FP.ddiv x (fz_rootN x k)))
abbrev fz_root (x : UInt64) : UInt64 := fz_rootN x 14
def fz_rootOk (x : UInt64) : Prop := ∀ k, k < 14 → fz_lt FP.dconst0 (fz_rootN x k) = true ∧ vf_n64 (FP.ddiv x (fz_rootN x k)) ∧ vf_n64 (FP.dadd (fz_rootN x k) (FP.ddiv x (fz_rootN x k))) ∧ vf_n64 (FP.dmul fz_half (FP.dadd (fz_rootN x k) (FP.ddiv x (fz_rootN x k))))
def fz_near (a b : UInt64) : UInt64 := if (if fz_lt a FP.dconst0 = true then fz_le b a else fz_le a b) = true then a else b
def fz_farr (a b : UInt64) : UInt64 := if (if fz_lt a FP.dconst0 = true then fz_le a b else fz_le b a) = true then a else b
def fz_out (v a b : Int32) : Bool := decide (v < a) || decide (b < v)
def fz_in (v a b : Int32) : Int32 := if fz_out v a b = true then 0 else 1
def fz_span (t : UInt64) : Int32 := if fz_lt FP.dconst0 t = true ∧ fz_le t 4621819117588971520 = true then 1 else 0

set_option maxHeartbeats 4000000 in
set_option maxRecDepth 100000 in
theorem c_X3_absolute (l : Launch) (D : va_G) (cD : ClassId) (x : UInt64) : fz_C l D [(cD, .double)] yX3_absolute wsX3_absolute ({ frames := 0, cells := 0, slots := 0, locals := 0 }) [.double x] [] [] (some (.double (fz_abs x))) := by
  refine fz_start (cc := cX3_absolute) (maxL := 2) (ret := (some .double)) (by decide) rfl (Nat.le_of_ble_eq_true rfl) ?_
  intro p e s m below meth c A hx hb hr hlocks hml hown hts hK hA hNW H locs hP hD hS ls hl
  have hl : lv_has ls 2 [(0, .double x)] := hl
  have hown : s.vm.findClass RX3 = some m.cls := hown
  refine lv_dload_n hx hb dX3_absolute_0 rfl (lv_at hl 0 rfl) ?_
  refine lv_dconst0 hx hb dX3_absolute_1 ?_
  refine fz_dg_ge (tgt := 11) hx hb dX3_absolute_2 dX3_absolute_3 (by decide) (fun c2 => ?_) (fun c2 => ?_)
  · refine lv_dload_n hx hb dX3_absolute_11 rfl (lv_at hl 0 rfl) ?_
    exact fz_dret hx hb hr hlocks (by simp [fz_abs, c2]) hP hK hD hS dX3_absolute_12
  · refine lv_dload_n hx hb dX3_absolute_6 rfl (lv_at hl 0 rfl) ?_
    refine lv_dneg hx hb dX3_absolute_7 ?_
    refine lv_goto (tgt := 12) hx hb dX3_absolute_8 (by decide) ?_
    exact fz_dret hx hb hr hlocks (by simp [fz_abs, c2]) hP hK hD hS dX3_absolute_12

set_option maxHeartbeats 4000000 in
set_option maxRecDepth 100000 in
theorem c_X3_greater (l : Launch) (D : va_G) (cD : ClassId) (a b : UInt64) : fz_C l D [(cD, .double)] yX3_greater wsX3_greater ({ frames := 0, cells := 0, slots := 0, locals := 0 }) [.double a, .double b] [] [] (some (.double (fz_gtrC a b))) := by
  refine fz_start (cc := cX3_greater) (maxL := 4) (ret := (some .double)) (by decide) rfl (Nat.le_of_ble_eq_true rfl) ?_
  intro p e s m below meth c A hx hb hr hlocks hml hown hts hK hA hNW H locs hP hD hS ls hl
  have hl : lv_has ls 4 [(0, .double a), (2, .double b)] := hl
  have hown : s.vm.findClass RX3 = some m.cls := hown
  refine lv_dload_n hx hb dX3_greater_0 rfl (lv_at hl 0 rfl) ?_
  refine lv_dload_n hx hb dX3_greater_1 rfl (lv_at hl 1 rfl) ?_
  refine fz_dl_lt (tgt := 10) hx hb dX3_greater_2 dX3_greater_3 (by decide) (fun c2 => ?_) (fun c2 => ?_)
  · refine lv_dload_n hx hb dX3_greater_10 rfl (lv_at hl 1 rfl) ?_
    exact fz_dret hx hb hr hlocks (by simp [fz_gtrC, c2]) hP hK hD hS dX3_greater_11
  · refine lv_dload_n hx hb dX3_greater_6 rfl (lv_at hl 0 rfl) ?_
    refine lv_goto (tgt := 11) hx hb dX3_greater_7 (by decide) ?_
    exact fz_dret hx hb hr hlocks (by simp [fz_gtrC, c2]) hP hK hD hS dX3_greater_11

set_option maxHeartbeats 4000000 in
set_option maxRecDepth 100000 in
theorem c_X3_lesser (l : Launch) (D : va_G) (cD : ClassId) (a b : UInt64) : fz_C l D [(cD, .double)] yX3_lesser wsX3_lesser ({ frames := 0, cells := 0, slots := 0, locals := 0 }) [.double a, .double b] [] [] (some (.double (fz_lesC a b))) := by
  refine fz_start (cc := cX3_lesser) (maxL := 4) (ret := (some .double)) (by decide) rfl (Nat.le_of_ble_eq_true rfl) ?_
  intro p e s m below meth c A hx hb hr hlocks hml hown hts hK hA hNW H locs hP hD hS ls hl
  have hl : lv_has ls 4 [(0, .double a), (2, .double b)] := hl
  have hown : s.vm.findClass RX3 = some m.cls := hown
  refine lv_dload_n hx hb dX3_lesser_0 rfl (lv_at hl 0 rfl) ?_
  refine lv_dload_n hx hb dX3_lesser_1 rfl (lv_at hl 1 rfl) ?_
  refine fz_dg_gt (tgt := 10) hx hb dX3_lesser_2 dX3_lesser_3 (by decide) (fun c2 => ?_) (fun c2 => ?_)
  · refine lv_dload_n hx hb dX3_lesser_10 rfl (lv_at hl 1 rfl) ?_
    exact fz_dret hx hb hr hlocks (by simp [fz_lesC, c2]) hP hK hD hS dX3_lesser_11
  · refine lv_dload_n hx hb dX3_lesser_6 rfl (lv_at hl 0 rfl) ?_
    refine lv_goto (tgt := 11) hx hb dX3_lesser_7 (by decide) ?_
    exact fz_dret hx hb hr hlocks (by simp [fz_lesC, c2]) hP hK hD hS dX3_lesser_11

set_option maxHeartbeats 4000000 in
set_option maxRecDepth 100000 in
theorem c_X3_speedOf (l : Launch) (D : va_G) (cD : ClassId) (x y : UInt64) (h0 : fz_lt FP.dconst0 x = true) (n0 : vf_n64 (FP.ddiv y x)) : fz_C l D [(cD, .double)] yX3_speedOf wsX3_speedOf ({ frames := 0, cells := 0, slots := 0, locals := 0 }) [.double x, .double y] [] [] (some (.double (FP.ddiv y x))) := by
  refine fz_start (cc := cX3_speedOf) (maxL := 4) (ret := (some .double)) (by decide) rfl (Nat.le_of_ble_eq_true rfl) ?_
  intro p e s m below meth c A hx hb hr hlocks hml hown hts hK hA hNW H locs hP hD hS ls hl
  have hl : lv_has ls 4 [(0, .double x), (2, .double y)] := hl
  have hown : s.vm.findClass RX3 = some m.cls := hown
  refine lv_dload_n hx hb dX3_speedOf_0 rfl (lv_at hl 0 rfl) ?_
  refine lv_dconst0 hx hb dX3_speedOf_1 ?_
  refine fz_dl_le (tgt := 12) hx hb dX3_speedOf_2 dX3_speedOf_3 (by decide) (fun c2 => absurd c2 (by rw [h0]; decide)) (fun c2 => ?_)
  refine lv_dload_n hx hb dX3_speedOf_6 rfl (lv_at hl 1 rfl) ?_
  refine lv_dload_n hx hb dX3_speedOf_7 rfl (lv_at hl 0 rfl) ?_
  refine lv_ddiv hx hb dX3_speedOf_8 (n0) ?_
  refine lv_goto (tgt := 13) hx hb dX3_speedOf_9 (by decide) ?_
  exact fz_dret hx hb hr hlocks (rfl) hP hK hD hS dX3_speedOf_13

set_option maxHeartbeats 4000000 in
set_option maxRecDepth 100000 in
theorem c_X3_isWithin (l : Launch) (D : va_G) (cD : ClassId) (v a b : Int32) : fz_C l D [(cD, .double)] yX3_isWithin wsX3_isWithin ({ frames := 0, cells := 0, slots := 0, locals := 0 }) [.int v, .int a, .int b] [] [] (some (.int (fz_in v a b))) := by
  refine fz_start (cc := cX3_isWithin) (maxL := 3) (ret := (some .boolean)) (by decide) rfl (Nat.le_of_ble_eq_true rfl) ?_
  intro p e s m below meth c A hx hb hr hlocks hml hown hts hK hA hNW H locs hP hD hS ls hl
  have hl : lv_has ls 3 [(0, .int v), (1, .int a), (2, .int b)] := hl
  have hown : s.vm.findClass RX3 = some m.cls := hown
  refine lv_iload_n hx hb dX3_isWithin_0 rfl (lv_at hl 0 rfl) ?_
  refine lv_iload_n hx hb dX3_isWithin_1 rfl (lv_at hl 1 rfl) ?_
  refine lv_icmp_lt (tgt := 14) hx hb dX3_isWithin_2 (by decide) (fun c2 => ?_) (fun c2 => ?_)
  · refine lv_iconst (v := nI 0) hx hb dX3_isWithin_14 (by decide) ?_
    exact fz_zret hx hb hr hlocks rfl (by simp [fz_in, fz_out, nI_0, fz_nI1, c2]) hP hK hD hS dX3_isWithin_15
  · refine lv_iload_n hx hb dX3_isWithin_5 rfl (lv_at hl 0 rfl) ?_
    refine lv_iload_n hx hb dX3_isWithin_6 rfl (lv_at hl 2 rfl) ?_
    refine lv_icmp_gt (tgt := 14) hx hb dX3_isWithin_7 (by decide) (fun c7 => ?_) (fun c7 => ?_)
    · refine lv_iconst (v := nI 0) hx hb dX3_isWithin_14 (by decide) ?_
      exact fz_zret hx hb hr hlocks rfl (by simp [fz_in, fz_out, nI_0, fz_nI1, c2, c7]) hP hK hD hS dX3_isWithin_15
    · refine lv_iconst (v := nI 1) hx hb dX3_isWithin_10 (by decide) ?_
      refine lv_goto (tgt := 15) hx hb dX3_isWithin_11 (by decide) ?_
      exact fz_zret hx hb hr hlocks rfl (by simp [fz_in, fz_out, nI_0, fz_nI1, c2, c7]) hP hK hD hS dX3_isWithin_15

set_option maxHeartbeats 4000000 in
set_option maxRecDepth 100000 in
theorem c_X3_isSpan (l : Launch) (D : va_G) (cD : ClassId) (t : UInt64) : fz_C l D [(cD, .double)] yX3_isSpan wsX3_isSpan ({ frames := 0, cells := 0, slots := 0, locals := 0 }) [.double t] [] [] (some (.int (fz_span t))) := by
  refine fz_start (cc := cX3_isSpan) (maxL := 2) (ret := (some .boolean)) (by decide) rfl (Nat.le_of_ble_eq_true rfl) ?_
  intro p e s m below meth c A hx hb hr hlocks hml hown hts hK hA hNW H locs hP hD hS ls hl
  have hl : lv_has ls 2 [(0, .double t)] := hl
  have hown : s.vm.findClass RX3 = some m.cls := hown
  have hw_constantDouble_RX3_170_4621819117588971520 := hts (.constantDouble RX3 170 (4621819117588971520)) (by decide +kernel)
  refine lv_dload_n hx hb dX3_isSpan_0 rfl (lv_at hl 0 rfl) ?_
  refine lv_dconst0 hx hb dX3_isSpan_1 ?_
  refine fz_dl_le (tgt := 18) hx hb dX3_isSpan_2 dX3_isSpan_3 (by decide) (fun c2 => ?_) (fun c2 => ?_)
  · refine lv_iconst (v := nI 0) hx hb dX3_isSpan_18 (by decide) ?_
    exact fz_zret hx hb hr hlocks rfl (by simp [fz_span, nI_0, fz_nI1, c2]) hP hK hD hS dX3_isSpan_19
  · refine lv_dload_n hx hb dX3_isSpan_6 rfl (lv_at hl 0 rfl) ?_
    refine lv_ldc2d hx hb hown hw_constantDouble_RX3_170_4621819117588971520 dX3_isSpan_7 ?_
    refine fz_dg_gt (tgt := 18) hx hb dX3_isSpan_10 dX3_isSpan_11 (by decide) (fun c10 => ?_) (fun c10 => ?_)
    · refine lv_iconst (v := nI 0) hx hb dX3_isSpan_18 (by decide) ?_
      exact fz_zret hx hb hr hlocks rfl (by simp [fz_span, nI_0, fz_nI1, c2, c10]) hP hK hD hS dX3_isSpan_19
    · refine lv_iconst (v := nI 1) hx hb dX3_isSpan_14 (by decide) ?_
      refine lv_goto (tgt := 19) hx hb dX3_isSpan_15 (by decide) ?_
      exact fz_zret hx hb hr hlocks rfl (by simp [fz_span, nI_0, fz_nI1, c2, c10]) hP hK hD hS dX3_isSpan_19

set_option maxHeartbeats 4000000 in
set_option maxRecDepth 100000 in
theorem c_X0_nearer (l : Launch) (D : va_G) (cD : ClassId) (a b : UInt64) : fz_C l D [(cD, .double)] yX0_nearer wsX0_nearer ({ frames := 0, cells := 0, slots := 0, locals := 0 }) [.double a, .double b] [] [] (some (.double (fz_near a b))) := by
  refine fz_start (cc := cX0_nearer) (maxL := 4) (ret := (some .double)) (by decide) rfl (Nat.le_of_ble_eq_true rfl) ?_
  intro p e s m below meth c A hx hb hr hlocks hml hown hts hK hA hNW H locs hP hD hS ls hl
  have hl : lv_has ls 4 [(0, .double a), (2, .double b)] := hl
  have hown : s.vm.findClass RX0 = some m.cls := hown
  refine lv_dload_n hx hb dX0_nearer_0 rfl (lv_at hl 0 rfl) ?_
  refine lv_dconst0 hx hb dX0_nearer_1 ?_
  refine fz_dg_ge (tgt := 15) hx hb dX0_nearer_2 dX0_nearer_3 (by decide) (fun c2 => ?_) (fun c2 => ?_)
  · refine lv_dload_n hx hb dX0_nearer_15 rfl (lv_at hl 0 rfl) ?_
    refine lv_dload_n hx hb dX0_nearer_16 rfl (lv_at hl 1 rfl) ?_
    refine fz_dg_gt (tgt := 25) hx hb dX0_nearer_17 dX0_nearer_18 (by decide) (fun c17 => ?_) (fun c17 => ?_)
    · refine lv_dload_n hx hb dX0_nearer_25 rfl (lv_at hl 1 rfl) ?_
      exact fz_dret hx hb hr hlocks (by simp [fz_near, c2, c17]) hP hK hD hS dX0_nearer_26
    · refine lv_dload_n hx hb dX0_nearer_21 rfl (lv_at hl 0 rfl) ?_
      refine lv_goto (tgt := 26) hx hb dX0_nearer_22 (by decide) ?_
      exact fz_dret hx hb hr hlocks (by simp [fz_near, c2, c17]) hP hK hD hS dX0_nearer_26
  · refine lv_dload_n hx hb dX0_nearer_6 rfl (lv_at hl 0 rfl) ?_
    refine lv_dload_n hx hb dX0_nearer_7 rfl (lv_at hl 1 rfl) ?_
    refine fz_dl_lt (tgt := 25) hx hb dX0_nearer_8 dX0_nearer_9 (by decide) (fun c8 => ?_) (fun c8 => ?_)
    · refine lv_dload_n hx hb dX0_nearer_25 rfl (lv_at hl 1 rfl) ?_
      exact fz_dret hx hb hr hlocks (by simp [fz_near, c2, c8]) hP hK hD hS dX0_nearer_26
    · refine lv_goto (tgt := 21) hx hb dX0_nearer_12 (by decide) ?_
      refine lv_dload_n hx hb dX0_nearer_21 rfl (lv_at hl 0 rfl) ?_
      refine lv_goto (tgt := 26) hx hb dX0_nearer_22 (by decide) ?_
      exact fz_dret hx hb hr hlocks (by simp [fz_near, c2, c8]) hP hK hD hS dX0_nearer_26

set_option maxHeartbeats 4000000 in
set_option maxRecDepth 100000 in
theorem c_X0_farther (l : Launch) (D : va_G) (cD : ClassId) (a b : UInt64) : fz_C l D [(cD, .double)] yX0_farther wsX0_farther ({ frames := 0, cells := 0, slots := 0, locals := 0 }) [.double a, .double b] [] [] (some (.double (fz_farr a b))) := by
  refine fz_start (cc := cX0_farther) (maxL := 4) (ret := (some .double)) (by decide) rfl (Nat.le_of_ble_eq_true rfl) ?_
  intro p e s m below meth c A hx hb hr hlocks hml hown hts hK hA hNW H locs hP hD hS ls hl
  have hl : lv_has ls 4 [(0, .double a), (2, .double b)] := hl
  have hown : s.vm.findClass RX0 = some m.cls := hown
  refine lv_dload_n hx hb dX0_farther_0 rfl (lv_at hl 0 rfl) ?_
  refine lv_dconst0 hx hb dX0_farther_1 ?_
  refine fz_dg_ge (tgt := 15) hx hb dX0_farther_2 dX0_farther_3 (by decide) (fun c2 => ?_) (fun c2 => ?_)
  · refine lv_dload_n hx hb dX0_farther_15 rfl (lv_at hl 0 rfl) ?_
    refine lv_dload_n hx hb dX0_farther_16 rfl (lv_at hl 1 rfl) ?_
    refine fz_dl_lt (tgt := 25) hx hb dX0_farther_17 dX0_farther_18 (by decide) (fun c17 => ?_) (fun c17 => ?_)
    · refine lv_dload_n hx hb dX0_farther_25 rfl (lv_at hl 1 rfl) ?_
      exact fz_dret hx hb hr hlocks (by simp [fz_farr, c2, c17]) hP hK hD hS dX0_farther_26
    · refine lv_dload_n hx hb dX0_farther_21 rfl (lv_at hl 0 rfl) ?_
      refine lv_goto (tgt := 26) hx hb dX0_farther_22 (by decide) ?_
      exact fz_dret hx hb hr hlocks (by simp [fz_farr, c2, c17]) hP hK hD hS dX0_farther_26
  · refine lv_dload_n hx hb dX0_farther_6 rfl (lv_at hl 0 rfl) ?_
    refine lv_dload_n hx hb dX0_farther_7 rfl (lv_at hl 1 rfl) ?_
    refine fz_dg_gt (tgt := 25) hx hb dX0_farther_8 dX0_farther_9 (by decide) (fun c8 => ?_) (fun c8 => ?_)
    · refine lv_dload_n hx hb dX0_farther_25 rfl (lv_at hl 1 rfl) ?_
      exact fz_dret hx hb hr hlocks (by simp [fz_farr, c2, c8]) hP hK hD hS dX0_farther_26
    · refine lv_goto (tgt := 21) hx hb dX0_farther_12 (by decide) ?_
      refine lv_dload_n hx hb dX0_farther_21 rfl (lv_at hl 0 rfl) ?_
      refine lv_goto (tgt := 26) hx hb dX0_farther_22 (by decide) ?_
      exact fz_dret hx hb hr hlocks (by simp [fz_farr, c2, c8]) hP hK hD hS dX0_farther_26

set_option maxHeartbeats 4000000 in
set_option maxRecDepth 100000 in
/-- root(x): fourteen rounds, each of them safe -/
theorem c_X3_root (l : Launch) (D : va_G) (cD : ClassId) (x : UInt64) (hok : fz_rootOk x) : fz_C l D [(cD, .double)] yX3_root wsX3_root ({ frames := 0, cells := 0, slots := 0, locals := 0 }) [.double x] [] [] (some (.double (fz_root x))) := by
  refine fz_start (cc := cX3_root) (maxL := 5) (ret := (some .double)) (by decide) rfl (Nat.le_of_ble_eq_true rfl) ?_
  intro p e s m below meth c A hx hb hr hlocks hml hown hts hK hA hNW H locs hP hD hS ls hl
  have hl : lv_has ls 5 [(0, .double x)] := hl
  have hown : s.vm.findClass RX3 = some m.cls := hown
  have hw_constantDouble_RX3_148_4602678819172646912 := hts (.constantDouble RX3 148 (4602678819172646912)) (by decide +kernel)
  refine lv_dload_n hx hb dX3_root_0 rfl (lv_at hl 0 rfl) ?_
  refine lv_dconst1 hx hb dX3_root_1 ?_
  have jn0 : ∀ v : UInt64, v = fz_rootN x 0 → W p l e ({ frames := 0, cells := 0, slots := 0, locals := 0 }) s m ([.double x] : List Value).toArray below meth c H locs 0 0 (MQ below (fz_O D [(cD, .double)] [] (some (.double (fz_root x))) A) ([.double x] : List Value).toArray s 0 0 A) (F0 m 11 ls [.double v]) := by
    intro v ev
    subst ev
    refine lv_dstore_n (lv' := [(2, .double (fz_rootN x 0)), (0, .double x)]) hx hb dX3_root_11 rfl hl (by decide) rfl (fun ls hl => ?_)
    refine lv_iconst (v := nI 0) hx hb dX3_root_12 (by decide) ?_
    refine lv_istore (lv' := [(4, .int (nI 0)), (2, .double (fz_rootN x 0)), (0, .double x)]) hx hb dX3_root_13 hl (by decide) rfl (fun ls hl => ?_)
    have loop15 : ∀ (n k : Nat), k ≤ 14 → 14 < k + n → ∀ (H : Heap) (locs : List Loc) (ls : Array Slot), va_P D vwCl [] H → va_D A [] → va_S A s.heap H locs → lv_has ls 5 [(0, .double x), (2, .double (fz_rootN x k)), (4, .int (nI k))] → W p l e ({ frames := 0, cells := 0, slots := 0, locals := 0 }) s m ([.double x] : List Value).toArray below meth c H locs 0 0 (MQ below (fz_O D [(cD, .double)] [] (some (.double (fz_root x))) A) ([.double x] : List Value).toArray s 0 0 A) (F0 m 15 ls []) := by
      intro n
      induction n with
      | zero => intro k h1 h2; exact absurd h2 (by omega)
      | succ n ih =>
        intro k hkk hnk H locs ls hP hD hS hl
        refine lv_iload hx hb dX3_root_15 (lv_at hl 2 rfl) ?_
        refine lv_bipush (v := nI 14) hx hb dX3_root_17 (by decide) ?_
        refine fz_icmp_geN (tgt := 44) hx hb (by omega) (by omega) dX3_root_19 (by decide) (fun c19 => ?_) (fun c19 => ?_)
        · refine lv_dload_n hx hb dX3_root_44 rfl (lv_at hl 1 rfl) ?_
          exact fz_dret hx hb hr hlocks (by rw [show k = 14 by omega]) hP hK hD hS dX3_root_45
        · refine lv_dload_n hx hb dX3_root_22 rfl (lv_at hl 1 rfl) ?_
          refine lv_dconst0 hx hb dX3_root_23 ?_
          refine fz_dl_le (tgt := 38) hx hb dX3_root_24 dX3_root_25 (by decide) (fun c24 => absurd c24 (by rw [(hok k (by omega)).1]; decide)) (fun c24 => ?_)
          refine lv_ldc2d hx hb hown hw_constantDouble_RX3_148_4602678819172646912 dX3_root_28 ?_
          refine lv_dload_n hx hb dX3_root_31 rfl (lv_at hl 1 rfl) ?_
          refine lv_dload_n hx hb dX3_root_32 rfl (lv_at hl 0 rfl) ?_
          refine lv_dload_n hx hb dX3_root_33 rfl (lv_at hl 1 rfl) ?_
          refine lv_ddiv hx hb dX3_root_34 ((hok k (by omega)).2.1) ?_
          refine lv_dadd hx hb dX3_root_35 ((hok k (by omega)).2.2.1) ?_
          refine lv_dmul hx hb dX3_root_36 ((hok k (by omega)).2.2.2) ?_
          refine lv_dstore_n (lv' := [(2, .double (FP.dmul 4602678819172646912 (FP.dadd (fz_rootN x k) (FP.ddiv x (fz_rootN x k))))), (0, .double x), (4, .int (nI k))]) hx hb dX3_root_37 rfl hl (by decide) rfl (fun ls hl => ?_)
          refine lv_iinc (v := nI (k + 1)) (lv' := [(4, .int (nI (k + 1))), (2, .double (FP.dmul 4602678819172646912 (FP.dadd (fz_rootN x k) (FP.ddiv x (fz_rootN x k))))), (0, .double x)]) hx hb dX3_root_38 hl (k := 2) rfl (nI_1 _) (by decide) rfl (fun ls hl => ?_)
          refine lv_goto (tgt := 15) hx hb dX3_root_41 (by decide) ?_
          exact ih (k + 1) (by omega) (by omega) H locs ls (hP) (hD) hS (lv_sub hl [2, 1, 0] rfl)
    exact loop15 (14 + 1) 0 (by omega) (by omega) H locs ls (hP) (hD) hS (lv_sub hl [2, 1, 0] rfl)
  refine fz_dg_ge (tgt := 10) hx hb dX3_root_2 dX3_root_3 (by decide) (fun c2 => ?_) (fun c2 => ?_)
  · refine lv_dload_n hx hb dX3_root_10 rfl (lv_at hl 0 rfl) ?_
    exact jn0 _ (by simp [fz_rootN, c2])
  · refine lv_dconst1 hx hb dX3_root_6 ?_
    refine lv_goto (tgt := 11) hx hb dX3_root_7 (by decide) ?_
    exact jn0 _ (by simp [fz_rootN, c2])

def fz_stOk (x y : UInt64) : Prop := fz_lt FP.dconst0 x = true ∧ vf_n64 (FP.ddiv y x) ∧ fz_rootOk x
abbrev fz_reach (sp wv : UInt64) : UInt64 := FP.dadd (fz_abs sp) wv
abbrev fz_mflux (h m sp : UInt64) : UInt64 := FP.dadd (FP.dmul m sp) (FP.dmul (FP.dmul fz_half h) h)

set_option maxHeartbeats 4000000 in
set_option maxRecDepth 100000 in
theorem c_X2_become (l : Launch) (D : va_G) (cD : ClassId) (o : Nat) (a0 a1 a2 a3 x y : UInt64) (hok : fz_stOk x y) : fz_C l D [(cD, .double)] yX2_become wsX2_become ({ frames := 1, cells := 0, slots := 0, locals := 30 }) [.ref o, .double x, .double y] [(o, .inr (2, [.double a0, .double a1, .double a2, .double a3]))] [(o, .inr (2, [.double x, .double y, .double (FP.ddiv y x), .double (fz_root x)]))] (none) := by
  refine fz_start (cc := cX2_become) (maxL := 5) (ret := none) (by decide) rfl (Nat.le_of_ble_eq_true rfl) ?_
  intro p e s m below meth c A hx hb hr hlocks hml hown hts hK hA hNW H locs hP hD hS ls hl
  have hl : lv_has ls 5 [(0, .ref o), (1, .double x), (3, .double y)] := hl
  have hown : s.vm.findClass RX2 = some m.cls := hown
  have hw_fieldLink_RX2_7_FlowGrid_State_h_D := hts (.fieldLink RX2 7 "FlowGrid$State" "h" "D") (by decide +kernel)
  have hin_X2 : ∀ w ∈ u_ws RX2 TX2 4, w ∈ wsX2_become := by decide +kernel
  have hw_fieldLink_RX2_13_FlowGrid_State_m_D := hts (.fieldLink RX2 13 "FlowGrid$State" "m" "D") (by decide +kernel)
  have hw_initialized_RX3 := hts (.initialized RX3) (by decide +kernel)
  have hw_static_yX3_speedOf := hts (.static yX3_speedOf) (by decide +kernel)
  have hw_fieldLink_RX2_16_FlowGrid_State_speed_D := hts (.fieldLink RX2 16 "FlowGrid$State" "speed" "D") (by decide +kernel)
  have hw_static_yX3_root := hts (.static yX3_root) (by decide +kernel)
  have hw_fieldLink_RX2_19_FlowGrid_State_wave_D := hts (.fieldLink RX2 19 "FlowGrid$State" "wave" "D") (by decide +kernel)
  refine lv_aload_n hx hb dX2_become_0 rfl (lv_at hl 0 rfl) ?_
  refine lv_dload_n hx hb dX2_become_1 rfl (lv_at hl 1 rfl) ?_
  refine va_put (D := D) (ci := 2) (v := .double x) (ty := .double) (C := RX2) (T := TX2) (N := 4) hx hb hts hin_X2 tyX2 tyX2_ok nmX2 hown hK hP hD hS 0 rfl rfl 0 (by decide) hw_fieldLink_RX2_7_FlowGrid_State_h_D (fun _ h9 => h9) rfl (by decide +kernel) rfl rfl (Nat.le_of_ble_eq_true rfl) dX2_become_2 (fun H locs hP hD hS => ?_)
  have hP : va_P D vwCl [(o, .inr (2, [.double x, .double a1, .double a2, .double a3]))] H := hP
  have hD : va_D A [(o, .inr (2, [.double x, .double a1, .double a2, .double a3]))] := hD
  refine lv_aload_n hx hb dX2_become_5 rfl (lv_at hl 0 rfl) ?_
  refine lv_dload_n hx hb dX2_become_6 rfl (lv_at hl 2 rfl) ?_
  refine va_put (D := D) (ci := 2) (v := .double y) (ty := .double) (C := RX2) (T := TX2) (N := 4) hx hb hts hin_X2 tyX2 tyX2_ok nmX2 hown hK hP hD hS 0 rfl rfl 1 (by decide) hw_fieldLink_RX2_13_FlowGrid_State_m_D (fun _ h9 => h9) rfl (by decide +kernel) rfl rfl (Nat.le_of_ble_eq_true rfl) dX2_become_7 (fun H locs hP hD hS => ?_)
  have hP : va_P D vwCl [(o, .inr (2, [.double x, .double y, .double a2, .double a3]))] H := hP
  have hD : va_D A [(o, .inr (2, [.double x, .double y, .double a2, .double a3]))] := hD
  refine lv_aload_n hx hb dX2_become_10 rfl (lv_at hl 0 rfl) ?_
  refine lv_dload_n hx hb dX2_become_11 rfl (lv_at hl 1 rfl) ?_
  refine lv_dload_n hx hb dX2_become_12 rfl (lv_at hl 2 rfl) ?_
  refine fz_callN (ws' := [(o, .inr (2, [.double x, .double y, .double a2, .double a3]))]) (wr := [(o, .inr (2, [.double x, .double y, .double a2, .double a3]))]) (As := [.double x, .double y]) (rest := [.ref o]) ⟨hx, hb, hml, hown, hts⟩ (c_X3_speedOf l D cD x y (hok.1) (hok.2.1)) ⟨va_cnB 2 hts gX2_become_X3_speedOf_n22 rfl rfl rfl (hNW ("FlowGrid$State", 22, ⟨"FlowGrid", "speedOf", "(DD)D"⟩) (by decide +kernel)) hw_initialized_RX3 (by decide +kernel) ⟨Nat.le_of_ble_eq_true rfl, Nat.le_of_ble_eq_true rfl⟩, hw_static_yX3_speedOf, trivial⟩ hK hNW hP hD hS hA [] [0] [0] rfl rfl rfl rfl (by decide) rfl rfl rfl hl.1 rfl (Nat.le_of_ble_eq_true rfl) dX2_become_13 ⟨Nat.zero_le _, Nat.zero_le _⟩ (fun H locs hP hD hS => ?_)
  refine va_put (D := D) (ci := 2) (v := .double (FP.ddiv y x)) (ty := .double) (C := RX2) (T := TX2) (N := 4) hx hb hts hin_X2 tyX2 tyX2_ok nmX2 hown hK hP hD hS 0 rfl rfl 2 (by decide) hw_fieldLink_RX2_16_FlowGrid_State_speed_D (fun _ h9 => h9) rfl (by decide +kernel) rfl rfl (Nat.le_of_ble_eq_true rfl) dX2_become_16 (fun H locs hP hD hS => ?_)
  have hP : va_P D vwCl [(o, .inr (2, [.double x, .double y, .double (FP.ddiv y x), .double a3]))] H := hP
  have hD : va_D A [(o, .inr (2, [.double x, .double y, .double (FP.ddiv y x), .double a3]))] := hD
  refine lv_aload_n hx hb dX2_become_19 rfl (lv_at hl 0 rfl) ?_
  refine lv_dload_n hx hb dX2_become_20 rfl (lv_at hl 1 rfl) ?_
  refine fz_callN (ws' := [(o, .inr (2, [.double x, .double y, .double (FP.ddiv y x), .double a3]))]) (wr := [(o, .inr (2, [.double x, .double y, .double (FP.ddiv y x), .double a3]))]) (As := [.double x]) (rest := [.ref o]) ⟨hx, hb, hml, hown, hts⟩ (c_X3_root l D cD x (hok.2.2)) ⟨va_cnB 1 hts gX2_become_X3_root_n28 rfl rfl rfl (hNW ("FlowGrid$State", 28, ⟨"FlowGrid", "root", "(D)D"⟩) (by decide +kernel)) hw_initialized_RX3 (by decide +kernel) ⟨Nat.le_of_ble_eq_true rfl, Nat.le_of_ble_eq_true rfl⟩, hw_static_yX3_root, trivial⟩ hK hNW hP hD hS hA [] [0] [0] rfl rfl rfl rfl (by decide) rfl rfl rfl hl.1 rfl (Nat.le_of_ble_eq_true rfl) dX2_become_21 ⟨Nat.zero_le _, Nat.zero_le _⟩ (fun H locs hP hD hS => ?_)
  refine va_put (D := D) (ci := 2) (v := .double (fz_root x)) (ty := .double) (C := RX2) (T := TX2) (N := 4) hx hb hts hin_X2 tyX2 tyX2_ok nmX2 hown hK hP hD hS 0 rfl rfl 3 (by decide) hw_fieldLink_RX2_19_FlowGrid_State_wave_D (fun _ h9 => h9) rfl (by decide +kernel) rfl rfl (Nat.le_of_ble_eq_true rfl) dX2_become_24 (fun H locs hP hD hS => ?_)
  have hP : va_P D vwCl [(o, .inr (2, [.double x, .double y, .double (FP.ddiv y x), .double (fz_root x)]))] H := hP
  have hD : va_D A [(o, .inr (2, [.double x, .double y, .double (FP.ddiv y x), .double (fz_root x)]))] := hD
  exact fz_vret hx hb hr hlocks (rfl) hP hK hD hS dX2_become_27

set_option maxHeartbeats 4000000 in
set_option maxRecDepth 100000 in
theorem c_X2_reach (l : Launch) (D : va_G) (cD : ClassId) (o : Nat) (a0 a1 a2 a3 : UInt64) (n0 : vf_n64 (fz_reach a2 a3)) : fz_C l D [(cD, .double)] yX2_reach wsX2_reach ({ frames := 1, cells := 0, slots := 0, locals := 30 }) [.ref o] [(o, .inr (2, [.double a0, .double a1, .double a2, .double a3]))] [(o, .inr (2, [.double a0, .double a1, .double a2, .double a3]))] (some (.double (fz_reach a2 a3))) := by
  refine fz_start (cc := cX2_reach) (maxL := 1) (ret := (some .double)) (by decide) rfl (Nat.le_of_ble_eq_true rfl) ?_
  intro p e s m below meth c A hx hb hr hlocks hml hown hts hK hA hNW H locs hP hD hS ls hl
  have hl : lv_has ls 1 [(0, .ref o)] := hl
  have hown : s.vm.findClass RX2 = some m.cls := hown
  have hw_fieldLink_RX2_16_FlowGrid_State_speed_D := hts (.fieldLink RX2 16 "FlowGrid$State" "speed" "D") (by decide +kernel)
  have hin_X2 : ∀ w ∈ u_ws RX2 TX2 4, w ∈ wsX2_reach := by decide +kernel
  have hw_initialized_RX3 := hts (.initialized RX3) (by decide +kernel)
  have hw_static_yX3_absolute := hts (.static yX3_absolute) (by decide +kernel)
  have hw_fieldLink_RX2_19_FlowGrid_State_wave_D := hts (.fieldLink RX2 19 "FlowGrid$State" "wave" "D") (by decide +kernel)
  refine lv_aload_n hx hb dX2_reach_0 rfl (lv_at hl 0 rfl) ?_
  refine va_get (D := D) (ci := 2) (v := .double a2) (C := RX2) (T := TX2) (N := 4) hx hb hts hin_X2 hown hK hP 0 rfl rfl 2 (by decide) hw_fieldLink_RX2_16_FlowGrid_State_speed_D (fun _ h9 => h9) rfl dX2_reach_1 ?_
  refine fz_callN (ws' := [(o, .inr (2, [.double a0, .double a1, .double a2, .double a3]))]) (wr := [(o, .inr (2, [.double a0, .double a1, .double a2, .double a3]))]) (As := [.double a2]) (rest := []) ⟨hx, hb, hml, hown, hts⟩ (c_X3_absolute l D cD a2) ⟨va_cnB 1 hts gX2_reach_X3_absolute_n32 rfl rfl rfl (hNW ("FlowGrid$State", 32, ⟨"FlowGrid", "absolute", "(D)D"⟩) (by decide +kernel)) hw_initialized_RX3 (by decide +kernel) ⟨Nat.le_of_ble_eq_true rfl, Nat.le_of_ble_eq_true rfl⟩, hw_static_yX3_absolute, trivial⟩ hK hNW hP hD hS hA [] [0] [0] rfl rfl rfl rfl (by decide) rfl rfl rfl hl.1 rfl (Nat.le_of_ble_eq_true rfl) dX2_reach_4 ⟨Nat.zero_le _, Nat.zero_le _⟩ (fun H locs hP hD hS => ?_)
  refine lv_aload_n hx hb dX2_reach_7 rfl (lv_at hl 0 rfl) ?_
  refine va_get (D := D) (ci := 2) (v := .double a3) (C := RX2) (T := TX2) (N := 4) hx hb hts hin_X2 hown hK hP 0 rfl rfl 3 (by decide) hw_fieldLink_RX2_19_FlowGrid_State_wave_D (fun _ h9 => h9) rfl dX2_reach_8 ?_
  refine lv_dadd hx hb dX2_reach_11 (n0) ?_
  exact fz_dret hx hb hr hlocks (rfl) hP hK hD hS dX2_reach_12

set_option maxHeartbeats 4000000 in
set_option maxRecDepth 100000 in
theorem c_X2_depthFlux (l : Launch) (D : va_G) (cD : ClassId) (o : Nat) (a0 a1 a2 a3 : UInt64) : fz_C l D [(cD, .double)] yX2_depthFlux wsX2_depthFlux ({ frames := 0, cells := 0, slots := 0, locals := 0 }) [.ref o] [(o, .inr (2, [.double a0, .double a1, .double a2, .double a3]))] [(o, .inr (2, [.double a0, .double a1, .double a2, .double a3]))] (some (.double a1)) := by
  refine fz_start (cc := cX2_depthFlux) (maxL := 1) (ret := (some .double)) (by decide) rfl (Nat.le_of_ble_eq_true rfl) ?_
  intro p e s m below meth c A hx hb hr hlocks hml hown hts hK hA hNW H locs hP hD hS ls hl
  have hl : lv_has ls 1 [(0, .ref o)] := hl
  have hown : s.vm.findClass RX2 = some m.cls := hown
  have hw_fieldLink_RX2_13_FlowGrid_State_m_D := hts (.fieldLink RX2 13 "FlowGrid$State" "m" "D") (by decide +kernel)
  have hin_X2 : ∀ w ∈ u_ws RX2 TX2 4, w ∈ wsX2_depthFlux := by decide +kernel
  refine lv_aload_n hx hb dX2_depthFlux_0 rfl (lv_at hl 0 rfl) ?_
  refine va_get (D := D) (ci := 2) (v := .double a1) (C := RX2) (T := TX2) (N := 4) hx hb hts hin_X2 hown hK hP 0 rfl rfl 1 (by decide) hw_fieldLink_RX2_13_FlowGrid_State_m_D (fun _ h9 => h9) rfl dX2_depthFlux_1 ?_
  exact fz_dret hx hb hr hlocks (rfl) hP hK hD hS dX2_depthFlux_4

set_option maxHeartbeats 4000000 in
set_option maxRecDepth 100000 in
theorem c_X2_momentumFlux (l : Launch) (D : va_G) (cD : ClassId) (o : Nat) (a0 a1 a2 a3 : UInt64) (n1 : vf_n64 (FP.dmul a1 a2)) (n2 : vf_n64 (FP.dmul fz_half a0)) (n3 : vf_n64 (FP.dmul (FP.dmul fz_half a0) a0)) (n0 : vf_n64 (fz_mflux a0 a1 a2)) : fz_C l D [(cD, .double)] yX2_momentumFlux wsX2_momentumFlux ({ frames := 0, cells := 0, slots := 0, locals := 0 }) [.ref o] [(o, .inr (2, [.double a0, .double a1, .double a2, .double a3]))] [(o, .inr (2, [.double a0, .double a1, .double a2, .double a3]))] (some (.double (fz_mflux a0 a1 a2))) := by
  refine fz_start (cc := cX2_momentumFlux) (maxL := 1) (ret := (some .double)) (by decide) rfl (Nat.le_of_ble_eq_true rfl) ?_
  intro p e s m below meth c A hx hb hr hlocks hml hown hts hK hA hNW H locs hP hD hS ls hl
  have hl : lv_has ls 1 [(0, .ref o)] := hl
  have hown : s.vm.findClass RX2 = some m.cls := hown
  have hw_fieldLink_RX2_13_FlowGrid_State_m_D := hts (.fieldLink RX2 13 "FlowGrid$State" "m" "D") (by decide +kernel)
  have hin_X2 : ∀ w ∈ u_ws RX2 TX2 4, w ∈ wsX2_momentumFlux := by decide +kernel
  have hw_fieldLink_RX2_16_FlowGrid_State_speed_D := hts (.fieldLink RX2 16 "FlowGrid$State" "speed" "D") (by decide +kernel)
  have hw_constantDouble_RX2_35_4602678819172646912 := hts (.constantDouble RX2 35 (4602678819172646912)) (by decide +kernel)
  have hw_fieldLink_RX2_7_FlowGrid_State_h_D := hts (.fieldLink RX2 7 "FlowGrid$State" "h" "D") (by decide +kernel)
  refine lv_aload_n hx hb dX2_momentumFlux_0 rfl (lv_at hl 0 rfl) ?_
  refine va_get (D := D) (ci := 2) (v := .double a1) (C := RX2) (T := TX2) (N := 4) hx hb hts hin_X2 hown hK hP 0 rfl rfl 1 (by decide) hw_fieldLink_RX2_13_FlowGrid_State_m_D (fun _ h9 => h9) rfl dX2_momentumFlux_1 ?_
  refine lv_aload_n hx hb dX2_momentumFlux_4 rfl (lv_at hl 0 rfl) ?_
  refine va_get (D := D) (ci := 2) (v := .double a2) (C := RX2) (T := TX2) (N := 4) hx hb hts hin_X2 hown hK hP 0 rfl rfl 2 (by decide) hw_fieldLink_RX2_16_FlowGrid_State_speed_D (fun _ h9 => h9) rfl dX2_momentumFlux_5 ?_
  refine lv_dmul hx hb dX2_momentumFlux_8 (n1) ?_
  refine lv_ldc2d hx hb hown hw_constantDouble_RX2_35_4602678819172646912 dX2_momentumFlux_9 ?_
  refine lv_aload_n hx hb dX2_momentumFlux_12 rfl (lv_at hl 0 rfl) ?_
  refine va_get (D := D) (ci := 2) (v := .double a0) (C := RX2) (T := TX2) (N := 4) hx hb hts hin_X2 hown hK hP 0 rfl rfl 0 (by decide) hw_fieldLink_RX2_7_FlowGrid_State_h_D (fun _ h9 => h9) rfl dX2_momentumFlux_13 ?_
  refine lv_dmul hx hb dX2_momentumFlux_16 (n2) ?_
  refine lv_aload_n hx hb dX2_momentumFlux_17 rfl (lv_at hl 0 rfl) ?_
  refine va_get (D := D) (ci := 2) (v := .double a0) (C := RX2) (T := TX2) (N := 4) hx hb hts hin_X2 hown hK hP 0 rfl rfl 0 (by decide) hw_fieldLink_RX2_7_FlowGrid_State_h_D (fun _ h9 => h9) rfl dX2_momentumFlux_18 ?_
  refine lv_dmul hx hb dX2_momentumFlux_21 (n3) ?_
  refine lv_dadd hx hb dX2_momentumFlux_22 (n0) ?_
  exact fz_dret hx hb hr hlocks (rfl) hP hK hD hS dX2_momentumFlux_23
