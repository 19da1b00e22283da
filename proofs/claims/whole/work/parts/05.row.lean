/-! FlowGrid$Row -/
theorem fz_cpy28 {f g : Nat → UInt64} {i : Nat} (h : i < 28) : va_cpy f g (nI 0).toNatClampNeg (nI 0).toNatClampNeg (nI 28).toNatClampNeg i = f i := by
  rw [nI_clamp (by decide), nI_clamp (by decide)]
  unfold va_cpy
  rw [if_pos (by omega)]
  congr 1
  omega
def fz_b (b : Bool) : Int32 := if b = true then 1 else 0
theorem fz_b0 {b : Bool} : fz_b b = 0 ↔ b = false := by cases b <;> decide
theorem fz_b1 {b : Bool} : ¬ fz_b b = 0 ↔ b = true := by cases b <;> decide
def fz_has (v : Int32) (n : Nat) : Bool := !(decide (v < 0) || decide (nI n ≤ v))
def fz_bad (d m : Nat → UInt64) (k : Nat) : Bool := fz_lt (d (k + 2)) 4576918229304087675 || fz_lt 4652007308841189376 (m (k + 2)) || fz_lt (m (k + 2)) 13875379345695965184
def fz_anyBad (d m : Nat → UInt64) : Nat → Bool
  | 0 => false
  | k + 1 => fz_anyBad d m k || fz_bad d m k
theorem fz_anyBad_of {d m : Nat → UInt64} {k n : Nat} (h : k < n) (hb : fz_bad d m k = true) : fz_anyBad d m n = true := by
  induction n with
  | zero => omega
  | succ n ih =>
    unfold fz_anyBad
    by_cases h2 : k = n
    · subst h2; rw [hb, Bool.or_true]
    · rw [ih (by omega), Bool.true_or]
def fz_wC (d m : Nat → UInt64) : Nat → UInt64
  | 0 => FP.dconst0
  | k + 1 => fz_gtrC (fz_wC d m k) (FP.dadd (fz_abs (FP.ddiv (m (k + 2)) (d (k + 2)))) (fz_root (d (k + 2))))
def fz_longC (most w : UInt64) : UInt64 := if fz_lt FP.dconst0 w = true then fz_lesC most (FP.ddiv 4600877379321698714 w) else most
def fz_kah (f : Nat → UInt64) : Nat → UInt64 × UInt64
  | 0 => (FP.dconst0, FP.dconst0)
  | k + 1 => (FP.dadd (fz_kah f k).1 (FP.dsub (f (k + 2)) (fz_kah f k).2), FP.dsub (FP.dsub (FP.dadd (fz_kah f k).1 (FP.dsub (f (k + 2)) (fz_kah f k).2)) (fz_kah f k).1) (FP.dsub (f (k + 2)) (fz_kah f k).2))
def fz_kahOk (f : Nat → UInt64) (n : Nat) : Prop := ∀ k, k < n → vf_n64 (FP.dsub (f (k + 2)) (fz_kah f k).2) ∧ vf_n64 (FP.dadd (fz_kah f k).1 (FP.dsub (f (k + 2)) (fz_kah f k).2)) ∧ vf_n64 (FP.dsub (FP.dadd (fz_kah f k).1 (FP.dsub (f (k + 2)) (fz_kah f k).2)) (fz_kah f k).1) ∧ vf_n64 (FP.dsub (FP.dsub (FP.dadd (fz_kah f k).1 (FP.dsub (f (k + 2)) (fz_kah f k).2)) (fz_kah f k).1) (FP.dsub (f (k + 2)) (fz_kah f k).2))
def fz_mvG (t : UInt64) (d F : Nat → UInt64) (j : Nat) : UInt64 := FP.dsub (d (j + 2)) (FP.dmul t (FP.dsub (F (j + 1)) (F j)))
def fz_mvOk (t : UInt64) (d F : Nat → UInt64) (n : Nat) : Prop := ∀ j, j < n → vf_n64 (FP.dsub (F (j + 1)) (F j)) ∧ vf_n64 (FP.dmul t (FP.dsub (F (j + 1)) (F j))) ∧ vf_n64 (fz_mvG t d F j)
def fz_mtG (a d : Nat → UInt64) (j : Nat) : UInt64 := FP.dmul fz_half (FP.dadd (a (j + 2)) (d (j + 2)))
def fz_mtOk (a d : Nat → UInt64) (n : Nat) : Prop := ∀ j, j < n → vf_n64 (FP.dadd (a (j + 2)) (d (j + 2))) ∧ vf_n64 (fz_mtG a d j)
def fz_wOk (d m : Nat → UInt64) (n : Nat) : Prop := ∀ k, k < n → fz_stOk (d (k + 2)) (m (k + 2)) ∧ vf_n64 (FP.dadd (fz_abs (FP.ddiv (m (k + 2)) (d (k + 2)))) (fz_root (d (k + 2))))
/-- the four cells beyond the ends: kind 0 ring, 1 wall, 2 open; sg turns the sign at a wall -/
def fz_ends (kd : Nat) (sg : Bool) (n : Nat) (d : Nat → UInt64) : Nat → UInt64 := fun q =>
  if kd = 0 then (if q = 1 then d (n + 1) else if q = 0 then d n else if q = n + 2 then d 2 else if q = n + 3 then d 3 else d q)
  else if kd = 1 then (if q = 1 then (if sg = true then FP.dneg (d 2) else d 2) else if q = 0 then (if sg = true then FP.dneg (d 3) else d 3) else if q = n + 2 then (if sg = true then FP.dneg (d (n + 1)) else d (n + 1)) else if q = n + 3 then (if sg = true then FP.dneg (d n) else d n) else d q)
  else (if q = 1 then d 2 else if q = 0 then d 2 else if q = n + 2 then d (n + 1) else if q = n + 3 then d (n + 1) else d q)

set_option maxHeartbeats 4000000 in
set_option maxRecDepth 100000 in
theorem c_X1_has (l : Launch) (D : va_G) (cD : ClassId) (r rd rm n : Nat) (dd mm : Nat → UInt64) (v : Int32) : fz_C l D [(cD, .double)] yX1_has wsX1_has ({ frames := 0, cells := 0, slots := 0, locals := 0 }) [.ref r, .int v] [(r, .inr (1, [.ref rd, .ref rm, .int (nI n)])), (rd, fz_da cD 28 dd), (rm, fz_da cD 28 mm)] [(r, .inr (1, [.ref rd, .ref rm, .int (nI n)])), (rd, fz_da cD 28 dd), (rm, fz_da cD 28 mm)] (some (.int (fz_b (fz_has v n)))) := by
  refine fz_start (cc := cX1_has) (maxL := 2) (ret := (some .boolean)) (by decide) rfl (Nat.le_of_ble_eq_true rfl) ?_
  intro p e s m below meth c A hx hb hr hlocks hml hown hts hK hA hNW H locs hP hD hS ls hl
  have hl : lv_has ls 2 [(0, .ref r), (1, .int v)] := hl
  have hown : s.vm.findClass RX1 = some m.cls := hown
  have hw_fieldLink_RX1_18_FlowGrid_Row_size_I := hts (.fieldLink RX1 18 "FlowGrid$Row" "size" "I") (by decide +kernel)
  have hin_X1 : ∀ w ∈ u_ws RX1 TX1 3, w ∈ wsX1_has := by decide +kernel
  refine lv_iload_n hx hb dX1_has_0 rfl (lv_at hl 1 rfl) ?_
  refine lv_if_lt (tgt := 16) hx hb dX1_has_1 (by decide) (fun c1 => ?_) (fun c1 => ?_)
  · refine lv_iconst (v := nI 0) hx hb dX1_has_16 (by decide) ?_
    exact fz_zret hx hb hr hlocks rfl (by simp [fz_b, fz_has, nI_0, fz_nI1, c1]) hP hK hD hS dX1_has_17
  · refine lv_iload_n hx hb dX1_has_4 rfl (lv_at hl 1 rfl) ?_
    refine lv_aload_n hx hb dX1_has_5 rfl (lv_at hl 0 rfl) ?_
    refine va_get (D := D) (ci := 1) (v := .int (nI n)) (C := RX1) (T := TX1) (N := 3) hx hb hts hin_X1 hown hK hP 0 rfl rfl 2 (by decide) hw_fieldLink_RX1_18_FlowGrid_Row_size_I (fun _ h9 => h9) rfl dX1_has_6 ?_
    refine lv_icmp_ge (tgt := 16) hx hb dX1_has_9 (by decide) (fun c9 => ?_) (fun c9 => ?_)
    · refine lv_iconst (v := nI 0) hx hb dX1_has_16 (by decide) ?_
      exact fz_zret hx hb hr hlocks rfl (by simp [fz_b, fz_has, nI_0, fz_nI1, c1, c9]) hP hK hD hS dX1_has_17
    · refine lv_iconst (v := nI 1) hx hb dX1_has_12 (by decide) ?_
      refine lv_goto (tgt := 17) hx hb dX1_has_13 (by decide) ?_
      exact fz_zret hx hb hr hlocks rfl (by simp [fz_b, fz_has, nI_0, fz_nI1, c1, c9]) hP hK hD hS dX1_has_17

set_option maxHeartbeats 4000000 in
set_option maxRecDepth 100000 in
theorem c_X1_copy (l : Launch) (D : va_G) (cD : ClassId) (r rd rm n : Nat) (dd mm : Nat → UInt64) (i j : Nat) (hi : i < 28) (hj : j < 28) : fz_C l D [(cD, .double)] yX1_copy wsX1_copy ({ frames := 0, cells := 0, slots := 0, locals := 0 }) [.ref r, .int (nI i), .int (nI j)] [(r, .inr (1, [.ref rd, .ref rm, .int (nI n)])), (rd, fz_da cD 28 dd), (rm, fz_da cD 28 mm)] [(r, .inr (1, [.ref rd, .ref rm, .int (nI n)])), (rd, fz_da cD 28 (vf_upd dd j (dd i))), (rm, fz_da cD 28 (vf_upd mm j (mm i)))] (none) := by
  refine fz_start (cc := cX1_copy) (maxL := 3) (ret := none) (by decide) rfl (Nat.le_of_ble_eq_true rfl) ?_
  intro p e s m below meth c A hx hb hr hlocks hml hown hts hK hA hNW H locs hP hD hS ls hl
  have hl : lv_has ls 3 [(0, .ref r), (1, .int (nI i)), (2, .int (nI j))] := hl
  have hown : s.vm.findClass RX1 = some m.cls := hown
  have hw_fieldLink_RX1_9_FlowGrid_Row_depths_D := hts (.fieldLink RX1 9 "FlowGrid$Row" "depths" "[D") (by decide +kernel)
  have hin_X1 : ∀ w ∈ u_ws RX1 TX1 3, w ∈ wsX1_copy := by decide +kernel
  have hw_fieldLink_RX1_15_FlowGrid_Row_momenta_D := hts (.fieldLink RX1 15 "FlowGrid$Row" "momenta" "[D") (by decide +kernel)
  refine lv_aload_n hx hb dX1_copy_0 rfl (lv_at hl 0 rfl) ?_
  refine va_get (D := D) (ci := 1) (v := .ref rd) (C := RX1) (T := TX1) (N := 3) hx hb hts hin_X1 hown hK hP 0 rfl rfl 0 (by decide) hw_fieldLink_RX1_9_FlowGrid_Row_depths_D (fun _ h9 => h9) rfl dX1_copy_1 ?_
  refine lv_iload_n hx hb dX1_copy_4 rfl (lv_at hl 2 rfl) ?_
  refine lv_aload_n hx hb dX1_copy_5 rfl (lv_at hl 0 rfl) ?_
  refine va_get (D := D) (ci := 1) (v := .ref rd) (C := RX1) (T := TX1) (N := 3) hx hb hts hin_X1 hown hK hP 0 rfl rfl 0 (by decide) hw_fieldLink_RX1_9_FlowGrid_Row_depths_D (fun _ h9 => h9) rfl dX1_copy_6 ?_
  refine lv_iload_n hx hb dX1_copy_9 rfl (lv_at hl 1 rfl) ?_
  refine fz_dald (i := i) hx hb hK hP 1 0 rfl rfl (by omega) (by decide) dX1_copy_10 ?_
  refine fz_dast (i := j) hx hb hK hP hD hS 1 0 rfl rfl (by omega) (by decide) dX1_copy_11 (fun H locs hP hD hS => ?_)
  have hP : va_P D vwCl [(r, .inr (1, [.ref rd, .ref rm, .int (nI n)])), (rd, fz_da cD 28 (vf_upd dd j (dd i))), (rm, fz_da cD 28 mm)] H := hP
  have hD : va_D A [(r, .inr (1, [.ref rd, .ref rm, .int (nI n)])), (rd, fz_da cD 28 (vf_upd dd j (dd i))), (rm, fz_da cD 28 mm)] := hD
  refine lv_aload_n hx hb dX1_copy_12 rfl (lv_at hl 0 rfl) ?_
  refine va_get (D := D) (ci := 1) (v := .ref rm) (C := RX1) (T := TX1) (N := 3) hx hb hts hin_X1 hown hK hP 0 rfl rfl 1 (by decide) hw_fieldLink_RX1_15_FlowGrid_Row_momenta_D (fun _ h9 => h9) rfl dX1_copy_13 ?_
  refine lv_iload_n hx hb dX1_copy_16 rfl (lv_at hl 2 rfl) ?_
  refine lv_aload_n hx hb dX1_copy_17 rfl (lv_at hl 0 rfl) ?_
  refine va_get (D := D) (ci := 1) (v := .ref rm) (C := RX1) (T := TX1) (N := 3) hx hb hts hin_X1 hown hK hP 0 rfl rfl 1 (by decide) hw_fieldLink_RX1_15_FlowGrid_Row_momenta_D (fun _ h9 => h9) rfl dX1_copy_18 ?_
  refine lv_iload_n hx hb dX1_copy_21 rfl (lv_at hl 1 rfl) ?_
  refine fz_dald (i := i) hx hb hK hP 2 0 rfl rfl (by omega) (by decide) dX1_copy_22 ?_
  refine fz_dast (i := j) hx hb hK hP hD hS 2 0 rfl rfl (by omega) (by decide) dX1_copy_23 (fun H locs hP hD hS => ?_)
  have hP : va_P D vwCl [(r, .inr (1, [.ref rd, .ref rm, .int (nI n)])), (rd, fz_da cD 28 (vf_upd dd j (dd i))), (rm, fz_da cD 28 (vf_upd mm j (mm i)))] H := hP
  have hD : va_D A [(r, .inr (1, [.ref rd, .ref rm, .int (nI n)])), (rd, fz_da cD 28 (vf_upd dd j (dd i))), (rm, fz_da cD 28 (vf_upd mm j (mm i)))] := hD
  exact fz_vret hx hb hr hlocks (rfl) hP hK hD hS dX1_copy_24

set_option maxHeartbeats 4000000 in
set_option maxRecDepth 100000 in
theorem c_X1_mirror (l : Launch) (D : va_G) (cD : ClassId) (r rd rm n : Nat) (dd mm : Nat → UInt64) (i j : Nat) (hi : i < 28) (hj : j < 28) : fz_C l D [(cD, .double)] yX1_mirror wsX1_mirror ({ frames := 0, cells := 0, slots := 0, locals := 0 }) [.ref r, .int (nI i), .int (nI j)] [(r, .inr (1, [.ref rd, .ref rm, .int (nI n)])), (rd, fz_da cD 28 dd), (rm, fz_da cD 28 mm)] [(r, .inr (1, [.ref rd, .ref rm, .int (nI n)])), (rd, fz_da cD 28 (vf_upd dd j (dd i))), (rm, fz_da cD 28 (vf_upd mm j (FP.dneg (mm i))))] (none) := by
  refine fz_start (cc := cX1_mirror) (maxL := 3) (ret := none) (by decide) rfl (Nat.le_of_ble_eq_true rfl) ?_
  intro p e s m below meth c A hx hb hr hlocks hml hown hts hK hA hNW H locs hP hD hS ls hl
  have hl : lv_has ls 3 [(0, .ref r), (1, .int (nI i)), (2, .int (nI j))] := hl
  have hown : s.vm.findClass RX1 = some m.cls := hown
  have hw_fieldLink_RX1_9_FlowGrid_Row_depths_D := hts (.fieldLink RX1 9 "FlowGrid$Row" "depths" "[D") (by decide +kernel)
  have hin_X1 : ∀ w ∈ u_ws RX1 TX1 3, w ∈ wsX1_mirror := by decide +kernel
  have hw_fieldLink_RX1_15_FlowGrid_Row_momenta_D := hts (.fieldLink RX1 15 "FlowGrid$Row" "momenta" "[D") (by decide +kernel)
  refine lv_aload_n hx hb dX1_mirror_0 rfl (lv_at hl 0 rfl) ?_
  refine va_get (D := D) (ci := 1) (v := .ref rd) (C := RX1) (T := TX1) (N := 3) hx hb hts hin_X1 hown hK hP 0 rfl rfl 0 (by decide) hw_fieldLink_RX1_9_FlowGrid_Row_depths_D (fun _ h9 => h9) rfl dX1_mirror_1 ?_
  refine lv_iload_n hx hb dX1_mirror_4 rfl (lv_at hl 2 rfl) ?_
  refine lv_aload_n hx hb dX1_mirror_5 rfl (lv_at hl 0 rfl) ?_
  refine va_get (D := D) (ci := 1) (v := .ref rd) (C := RX1) (T := TX1) (N := 3) hx hb hts hin_X1 hown hK hP 0 rfl rfl 0 (by decide) hw_fieldLink_RX1_9_FlowGrid_Row_depths_D (fun _ h9 => h9) rfl dX1_mirror_6 ?_
  refine lv_iload_n hx hb dX1_mirror_9 rfl (lv_at hl 1 rfl) ?_
  refine fz_dald (i := i) hx hb hK hP 1 0 rfl rfl (by omega) (by decide) dX1_mirror_10 ?_
  refine fz_dast (i := j) hx hb hK hP hD hS 1 0 rfl rfl (by omega) (by decide) dX1_mirror_11 (fun H locs hP hD hS => ?_)
  have hP : va_P D vwCl [(r, .inr (1, [.ref rd, .ref rm, .int (nI n)])), (rd, fz_da cD 28 (vf_upd dd j (dd i))), (rm, fz_da cD 28 mm)] H := hP
  have hD : va_D A [(r, .inr (1, [.ref rd, .ref rm, .int (nI n)])), (rd, fz_da cD 28 (vf_upd dd j (dd i))), (rm, fz_da cD 28 mm)] := hD
  refine lv_aload_n hx hb dX1_mirror_12 rfl (lv_at hl 0 rfl) ?_
  refine va_get (D := D) (ci := 1) (v := .ref rm) (C := RX1) (T := TX1) (N := 3) hx hb hts hin_X1 hown hK hP 0 rfl rfl 1 (by decide) hw_fieldLink_RX1_15_FlowGrid_Row_momenta_D (fun _ h9 => h9) rfl dX1_mirror_13 ?_
  refine lv_iload_n hx hb dX1_mirror_16 rfl (lv_at hl 2 rfl) ?_
  refine lv_aload_n hx hb dX1_mirror_17 rfl (lv_at hl 0 rfl) ?_
  refine va_get (D := D) (ci := 1) (v := .ref rm) (C := RX1) (T := TX1) (N := 3) hx hb hts hin_X1 hown hK hP 0 rfl rfl 1 (by decide) hw_fieldLink_RX1_15_FlowGrid_Row_momenta_D (fun _ h9 => h9) rfl dX1_mirror_18 ?_
  refine lv_iload_n hx hb dX1_mirror_21 rfl (lv_at hl 1 rfl) ?_
  refine fz_dald (i := i) hx hb hK hP 2 0 rfl rfl (by omega) (by decide) dX1_mirror_22 ?_
  refine lv_dneg hx hb dX1_mirror_23 ?_
  refine fz_dast (i := j) hx hb hK hP hD hS 2 0 rfl rfl (by omega) (by decide) dX1_mirror_24 (fun H locs hP hD hS => ?_)
  have hP : va_P D vwCl [(r, .inr (1, [.ref rd, .ref rm, .int (nI n)])), (rd, fz_da cD 28 (vf_upd dd j (dd i))), (rm, fz_da cD 28 (vf_upd mm j (FP.dneg (mm i))))] H := hP
  have hD : va_D A [(r, .inr (1, [.ref rd, .ref rm, .int (nI n)])), (rd, fz_da cD 28 (vf_upd dd j (dd i))), (rm, fz_da cD 28 (vf_upd mm j (FP.dneg (mm i))))] := hD
  exact fz_vret hx hb hr hlocks (rfl) hP hK hD hS dX1_mirror_25

set_option maxHeartbeats 4000000 in
set_option maxRecDepth 100000 in
theorem c_X1_level (l : Launch) (D : va_G) (cD : ClassId) (r rd rm : Nat) (n0 v : Int32) (dd mm : Nat → UInt64) : fz_C l D [(cD, .double)] yX1_level wsX1_level ({ frames := 0, cells := 0, slots := 0, locals := 0 }) [.ref r, .int v] [(r, .inr (1, [.ref rd, .ref rm, .int n0])), (rd, fz_da cD 28 dd), (rm, fz_da cD 28 mm)] [(r, .inr (1, [.ref rd, .ref rm, .int v])), (rd, fz_da cD 28 (fz_pre 0 28 (fun _ => FP.dconst1) dd)), (rm, fz_da cD 28 (fz_pre 0 28 (fun _ => FP.dconst0) mm))] (none) := by
  refine fz_start (cc := cX1_level) (maxL := 3) (ret := none) (by decide) rfl (Nat.le_of_ble_eq_true rfl) ?_
  intro p e s m below meth c A hx hb hr hlocks hml hown hts hK hA hNW H locs hP hD hS ls hl
  have hl : lv_has ls 3 [(0, .ref r), (1, .int v)] := hl
  have hown : s.vm.findClass RX1 = some m.cls := hown
  have hw_fieldLink_RX1_18_FlowGrid_Row_size_I := hts (.fieldLink RX1 18 "FlowGrid$Row" "size" "I") (by decide +kernel)
  have hin_X1 : ∀ w ∈ u_ws RX1 TX1 3, w ∈ wsX1_level := by decide +kernel
  have hw_fieldLink_RX1_9_FlowGrid_Row_depths_D := hts (.fieldLink RX1 9 "FlowGrid$Row" "depths" "[D") (by decide +kernel)
  have hw_fieldLink_RX1_15_FlowGrid_Row_momenta_D := hts (.fieldLink RX1 15 "FlowGrid$Row" "momenta" "[D") (by decide +kernel)
  refine lv_aload_n hx hb dX1_level_0 rfl (lv_at hl 0 rfl) ?_
  refine lv_iload_n hx hb dX1_level_1 rfl (lv_at hl 1 rfl) ?_
  refine va_put (D := D) (ci := 1) (v := .int v) (ty := .int) (C := RX1) (T := TX1) (N := 3) hx hb hts hin_X1 tyX1 tyX1_ok nmX1 hown hK hP hD hS 0 rfl rfl 2 (by decide) hw_fieldLink_RX1_18_FlowGrid_Row_size_I (fun _ h9 => h9) rfl (by decide +kernel) rfl rfl (Nat.le_of_ble_eq_true rfl) dX1_level_2 (fun H locs hP hD hS => ?_)
  have hP : va_P D vwCl [(r, .inr (1, [.ref rd, .ref rm, .int v])), (rd, fz_da cD 28 dd), (rm, fz_da cD 28 mm)] H := hP
  have hD : va_D A [(r, .inr (1, [.ref rd, .ref rm, .int v])), (rd, fz_da cD 28 dd), (rm, fz_da cD 28 mm)] := hD
  refine lv_iconst (v := nI 0) hx hb dX1_level_5 (by decide) ?_
  refine lv_istore_n (lv' := [(2, .int (nI 0)), (0, .ref r), (1, .int v)]) hx hb dX1_level_6 rfl hl (by decide) rfl (fun ls hl => ?_)
  have loop7 : ∀ (it k : Nat), k ≤ 28 → 28 < k + it → ∀ (H : Heap) (locs : List Loc) (ls : Array Slot), va_P D vwCl [(r, .inr (1, [.ref rd, .ref rm, .int v])), (rd, fz_da cD 28 (fz_pre 0 k (fun _ => FP.dconst1) dd)), (rm, fz_da cD 28 (fz_pre 0 k (fun _ => FP.dconst0) mm))] H → va_D A [(r, .inr (1, [.ref rd, .ref rm, .int v])), (rd, fz_da cD 28 (fz_pre 0 k (fun _ => FP.dconst1) dd)), (rm, fz_da cD 28 (fz_pre 0 k (fun _ => FP.dconst0) mm))] → va_S A s.heap H locs → lv_has ls 3 [(0, .ref r), (1, .int v), (2, .int (nI k))] → W p l e ({ frames := 0, cells := 0, slots := 0, locals := 0 }) s m ([.ref r, .int v] : List Value).toArray below meth c H locs 0 0 (MQ below (fz_O D [(cD, .double)] [(r, .inr (1, [.ref rd, .ref rm, .int v])), (rd, fz_da cD 28 (fz_pre 0 28 (fun _ => FP.dconst1) dd)), (rm, fz_da cD 28 (fz_pre 0 28 (fun _ => FP.dconst0) mm))] (none) A) ([.ref r, .int v] : List Value).toArray s 0 0 A) (F0 m 7 ls []) := by
    intro it
    induction it with
    | zero => intro k h1 h2; exact absurd h2 (by omega)
    | succ it ih =>
      intro k hkk hnk H locs ls hP hD hS hl
      refine lv_iload_n hx hb dX1_level_7 rfl (lv_at hl 2 rfl) ?_
      refine lv_bipush (v := nI 28) hx hb dX1_level_8 (by decide) ?_
      refine fz_icmp_geN (tgt := 33) hx hb (by omega) (by omega) dX1_level_10 (by decide) (fun c10 => ?_) (fun c10 => ?_)
      · have hkz : 28 = k := by omega
        subst hkz
        exact fz_vret hx hb hr hlocks (rfl) hP hK hD hS dX1_level_33
      · refine lv_aload_n hx hb dX1_level_13 rfl (lv_at hl 0 rfl) ?_
        refine va_get (D := D) (ci := 1) (v := .ref rd) (C := RX1) (T := TX1) (N := 3) hx hb hts hin_X1 hown hK hP 0 rfl rfl 0 (by decide) hw_fieldLink_RX1_9_FlowGrid_Row_depths_D (fun _ h9 => h9) rfl dX1_level_14 ?_
        refine lv_iload_n hx hb dX1_level_17 rfl (lv_at hl 2 rfl) ?_
        refine lv_dconst1 hx hb dX1_level_18 ?_
        refine fz_dast (i := k) hx hb hK hP hD hS 1 0 rfl rfl (by omega) (by decide) dX1_level_19 (fun H locs hP hD hS => ?_)
        have hP : va_P D vwCl [(r, .inr (1, [.ref rd, .ref rm, .int v])), (rd, fz_da cD 28 (vf_upd (fz_pre 0 k (fun _ => FP.dconst1) dd) k FP.dconst1)), (rm, fz_da cD 28 (fz_pre 0 k (fun _ => FP.dconst0) mm))] H := hP
        have hD : va_D A [(r, .inr (1, [.ref rd, .ref rm, .int v])), (rd, fz_da cD 28 (vf_upd (fz_pre 0 k (fun _ => FP.dconst1) dd) k FP.dconst1)), (rm, fz_da cD 28 (fz_pre 0 k (fun _ => FP.dconst0) mm))] := hD
        have hP : va_P D vwCl [(r, .inr (1, [.ref rd, .ref rm, .int v])), (rd, fz_da cD 28 (fz_pre 0 (k + 1) (fun _ => FP.dconst1) dd)), (rm, fz_da cD 28 (fz_pre 0 k (fun _ => FP.dconst0) mm))] H := by rw [← fz_pre_s 0 k (fun _ => FP.dconst1) dd]; exact hP
        have hD : va_D A [(r, .inr (1, [.ref rd, .ref rm, .int v])), (rd, fz_da cD 28 (fz_pre 0 (k + 1) (fun _ => FP.dconst1) dd)), (rm, fz_da cD 28 (fz_pre 0 k (fun _ => FP.dconst0) mm))] := by rw [← fz_pre_s 0 k (fun _ => FP.dconst1) dd]; exact hD
        refine lv_aload_n hx hb dX1_level_20 rfl (lv_at hl 0 rfl) ?_
        refine va_get (D := D) (ci := 1) (v := .ref rm) (C := RX1) (T := TX1) (N := 3) hx hb hts hin_X1 hown hK hP 0 rfl rfl 1 (by decide) hw_fieldLink_RX1_15_FlowGrid_Row_momenta_D (fun _ h9 => h9) rfl dX1_level_21 ?_
        refine lv_iload_n hx hb dX1_level_24 rfl (lv_at hl 2 rfl) ?_
        refine lv_dconst0 hx hb dX1_level_25 ?_
        refine fz_dast (i := k) hx hb hK hP hD hS 2 0 rfl rfl (by omega) (by decide) dX1_level_26 (fun H locs hP hD hS => ?_)
        have hP : va_P D vwCl [(r, .inr (1, [.ref rd, .ref rm, .int v])), (rd, fz_da cD 28 (fz_pre 0 (k + 1) (fun _ => FP.dconst1) dd)), (rm, fz_da cD 28 (vf_upd (fz_pre 0 k (fun _ => FP.dconst0) mm) k FP.dconst0))] H := hP
        have hD : va_D A [(r, .inr (1, [.ref rd, .ref rm, .int v])), (rd, fz_da cD 28 (fz_pre 0 (k + 1) (fun _ => FP.dconst1) dd)), (rm, fz_da cD 28 (vf_upd (fz_pre 0 k (fun _ => FP.dconst0) mm) k FP.dconst0))] := hD
        have hP : va_P D vwCl [(r, .inr (1, [.ref rd, .ref rm, .int v])), (rd, fz_da cD 28 (fz_pre 0 (k + 1) (fun _ => FP.dconst1) dd)), (rm, fz_da cD 28 (fz_pre 0 (k + 1) (fun _ => FP.dconst0) mm))] H := by rw [← fz_pre_s 0 k (fun _ => FP.dconst0) mm]; exact hP
        have hD : va_D A [(r, .inr (1, [.ref rd, .ref rm, .int v])), (rd, fz_da cD 28 (fz_pre 0 (k + 1) (fun _ => FP.dconst1) dd)), (rm, fz_da cD 28 (fz_pre 0 (k + 1) (fun _ => FP.dconst0) mm))] := by rw [← fz_pre_s 0 k (fun _ => FP.dconst0) mm]; exact hD
        refine lv_iinc (v := nI (k + 1)) (lv' := [(2, .int (nI (k + 1))), (0, .ref r), (1, .int v)]) hx hb dX1_level_27 hl (k := 2) rfl (nI_1 _) (by decide) rfl (fun ls hl => ?_)
        refine lv_goto (tgt := 7) hx hb dX1_level_30 (by decide) ?_
        exact ih (k + 1) (by omega) (by omega) H locs ls (hP) (hD) hS (lv_sub hl [1, 2, 0] rfl)
  exact loop7 (28 + 1) 0 (by omega) (by omega) H locs ls (by rw [fz_pre_0, fz_pre_0]; exact hP) (by rw [fz_pre_0, fz_pre_0]; exact hD) hS (lv_sub hl [1, 2, 0] rfl)

set_option maxHeartbeats 4000000 in
set_option maxRecDepth 100000 in
theorem c_X1_become (l : Launch) (D : va_G) (cD : ClassId) (r rd rm n : Nat) (dd mm : Nat → UInt64) (q qd qm n2 : Nat) (ee ff : Nat → UInt64) : fz_C l D [(cD, .double)] yX1_become wsX1_become ({ frames := 1, cells := 0, slots := 0, locals := 40 }) [.ref r, .ref q] [(r, .inr (1, [.ref rd, .ref rm, .int (nI n)])), (rd, fz_da cD 28 dd), (rm, fz_da cD 28 mm), (q, .inr (1, [.ref qd, .ref qm, .int (nI n2)])), (qd, fz_da cD 28 ee), (qm, fz_da cD 28 ff)] [(r, .inr (1, [.ref rd, .ref rm, .int (nI n2)])), (rd, fz_da cD 28 ee), (rm, fz_da cD 28 ff), (q, .inr (1, [.ref qd, .ref qm, .int (nI n2)])), (qd, fz_da cD 28 ee), (qm, fz_da cD 28 ff)] (none) := by
  refine fz_start (cc := cX1_become) (maxL := 2) (ret := none) (by decide) rfl (Nat.le_of_ble_eq_true rfl) ?_
  intro p e s m below meth c A hx hb hr hlocks hml hown hts hK hA hNW H locs hP hD hS ls hl
  have hl : lv_has ls 2 [(0, .ref r), (1, .ref q)] := hl
  have hown : s.vm.findClass RX1 = some m.cls := hown
  have hw_fieldLink_RX1_18_FlowGrid_Row_size_I := hts (.fieldLink RX1 18 "FlowGrid$Row" "size" "I") (by decide +kernel)
  have hin_X1 : ∀ w ∈ u_ws RX1 TX1 3, w ∈ wsX1_become := by decide +kernel
  have hw_fieldLink_RX1_9_FlowGrid_Row_depths_D := hts (.fieldLink RX1 9 "FlowGrid$Row" "depths" "[D") (by decide +kernel)
  have hw_methodLink_RX1_22_arraycopyName := hts (.methodLink RX1 22 arraycopyName) (by decide +kernel)
  have hw_native_arraycopyName := hts (.native arraycopyName) (by decide +kernel)
  have hw_static_arraycopyName := hts (.static arraycopyName) (by decide +kernel)
  have hw_initialized_java_lang_System := hts (.initialized "java/lang/System") (by decide +kernel)
  have hw_fieldLink_RX1_15_FlowGrid_Row_momenta_D := hts (.fieldLink RX1 15 "FlowGrid$Row" "momenta" "[D") (by decide +kernel)
  refine lv_aload_n hx hb dX1_become_0 rfl (lv_at hl 0 rfl) ?_
  refine lv_aload_n hx hb dX1_become_1 rfl (lv_at hl 1 rfl) ?_
  refine va_get (D := D) (ci := 1) (v := .int (nI n2)) (C := RX1) (T := TX1) (N := 3) hx hb hts hin_X1 hown hK hP 3 rfl rfl 2 (by decide) hw_fieldLink_RX1_18_FlowGrid_Row_size_I (fun _ h9 => h9) rfl dX1_become_2 ?_
  refine va_put (D := D) (ci := 1) (v := .int (nI n2)) (ty := .int) (C := RX1) (T := TX1) (N := 3) hx hb hts hin_X1 tyX1 tyX1_ok nmX1 hown hK hP hD hS 0 rfl rfl 2 (by decide) hw_fieldLink_RX1_18_FlowGrid_Row_size_I (fun _ h9 => h9) rfl (by decide +kernel) rfl rfl (Nat.le_of_ble_eq_true rfl) dX1_become_5 (fun H locs hP hD hS => ?_)
  have hP : va_P D vwCl [(r, .inr (1, [.ref rd, .ref rm, .int (nI n2)])), (rd, fz_da cD 28 dd), (rm, fz_da cD 28 mm), (q, .inr (1, [.ref qd, .ref qm, .int (nI n2)])), (qd, fz_da cD 28 ee), (qm, fz_da cD 28 ff)] H := hP
  have hD : va_D A [(r, .inr (1, [.ref rd, .ref rm, .int (nI n2)])), (rd, fz_da cD 28 dd), (rm, fz_da cD 28 mm), (q, .inr (1, [.ref qd, .ref qm, .int (nI n2)])), (qd, fz_da cD 28 ee), (qm, fz_da cD 28 ff)] := hD
  refine lv_aload_n hx hb dX1_become_8 rfl (lv_at hl 1 rfl) ?_
  refine va_get (D := D) (ci := 1) (v := .ref qd) (C := RX1) (T := TX1) (N := 3) hx hb hts hin_X1 hown hK hP 3 rfl rfl 0 (by decide) hw_fieldLink_RX1_9_FlowGrid_Row_depths_D (fun _ h9 => h9) rfl dX1_become_9 ?_
  refine lv_iconst (v := nI 0) hx hb dX1_become_12 (by decide) ?_
  refine lv_aload_n hx hb dX1_become_13 rfl (lv_at hl 0 rfl) ?_
  refine va_get (D := D) (ci := 1) (v := .ref rd) (C := RX1) (T := TX1) (N := 3) hx hb hts hin_X1 hown hK hP 0 rfl rfl 0 (by decide) hw_fieldLink_RX1_9_FlowGrid_Row_depths_D (fun _ h9 => h9) rfl dX1_become_14 ?_
  refine lv_iconst (v := nI 0) hx hb dX1_become_17 (by decide) ?_
  refine lv_bipush (v := nI 28) hx hb dX1_become_18 (by decide) ?_
  refine va_copyd (ty := .double) hx hb (hml.trans hl.1.symm) hown hw_methodLink_RX1_22_arraycopyName hw_native_arraycopyName hw_static_arraycopyName hw_initialized_java_lang_System hK hP hD hS 4 1 0 0 rfl rfl rfl rfl rfl (by decide) (by decide) (by decide) (by decide) (by decide) (fun _ _ => rfl) (Nat.le_of_ble_eq_true rfl) (Nat.le_of_ble_eq_true rfl) dX1_become_20 (fun H locs hP hD hS => ?_)
  obtain ⟨hP, hD⟩ := fz_swapf (a := rd) (cD := cD) (n := 28) (g := ee) 1 rfl (fun i hi => fz_cpy28 hi) hP hD
  have hP : va_P D vwCl [(r, .inr (1, [.ref rd, .ref rm, .int (nI n2)])), (rd, fz_da cD 28 ee), (rm, fz_da cD 28 mm), (q, .inr (1, [.ref qd, .ref qm, .int (nI n2)])), (qd, fz_da cD 28 ee), (qm, fz_da cD 28 ff)] H := hP
  have hD : va_D A [(r, .inr (1, [.ref rd, .ref rm, .int (nI n2)])), (rd, fz_da cD 28 ee), (rm, fz_da cD 28 mm), (q, .inr (1, [.ref qd, .ref qm, .int (nI n2)])), (qd, fz_da cD 28 ee), (qm, fz_da cD 28 ff)] := hD
  refine lv_aload_n hx hb dX1_become_23 rfl (lv_at hl 1 rfl) ?_
  refine va_get (D := D) (ci := 1) (v := .ref qm) (C := RX1) (T := TX1) (N := 3) hx hb hts hin_X1 hown hK hP 3 rfl rfl 1 (by decide) hw_fieldLink_RX1_15_FlowGrid_Row_momenta_D (fun _ h9 => h9) rfl dX1_become_24 ?_
  refine lv_iconst (v := nI 0) hx hb dX1_become_27 (by decide) ?_
  refine lv_aload_n hx hb dX1_become_28 rfl (lv_at hl 0 rfl) ?_
  refine va_get (D := D) (ci := 1) (v := .ref rm) (C := RX1) (T := TX1) (N := 3) hx hb hts hin_X1 hown hK hP 0 rfl rfl 1 (by decide) hw_fieldLink_RX1_15_FlowGrid_Row_momenta_D (fun _ h9 => h9) rfl dX1_become_29 ?_
  refine lv_iconst (v := nI 0) hx hb dX1_become_32 (by decide) ?_
  refine lv_bipush (v := nI 28) hx hb dX1_become_33 (by decide) ?_
  refine va_copyd (ty := .double) hx hb (hml.trans hl.1.symm) hown hw_methodLink_RX1_22_arraycopyName hw_native_arraycopyName hw_static_arraycopyName hw_initialized_java_lang_System hK hP hD hS 5 2 0 0 rfl rfl rfl rfl rfl (by decide) (by decide) (by decide) (by decide) (by decide) (fun _ _ => rfl) (Nat.le_of_ble_eq_true rfl) (Nat.le_of_ble_eq_true rfl) dX1_become_35 (fun H locs hP hD hS => ?_)
  obtain ⟨hP, hD⟩ := fz_swapf (a := rm) (cD := cD) (n := 28) (g := ff) 2 rfl (fun i hi => fz_cpy28 hi) hP hD
  have hP : va_P D vwCl [(r, .inr (1, [.ref rd, .ref rm, .int (nI n2)])), (rd, fz_da cD 28 ee), (rm, fz_da cD 28 ff), (q, .inr (1, [.ref qd, .ref qm, .int (nI n2)])), (qd, fz_da cD 28 ee), (qm, fz_da cD 28 ff)] H := hP
  have hD : va_D A [(r, .inr (1, [.ref rd, .ref rm, .int (nI n2)])), (rd, fz_da cD 28 ee), (rm, fz_da cD 28 ff), (q, .inr (1, [.ref qd, .ref qm, .int (nI n2)])), (qd, fz_da cD 28 ee), (qm, fz_da cD 28 ff)] := hD
  exact fz_vret hx hb hr hlocks (rfl) hP hK hD hS dX1_become_38

set_option maxHeartbeats 4000000 in
set_option maxRecDepth 100000 in
theorem c_X1_fillEnds0 (l : Launch) (D : va_G) (cD : ClassId) (r rd rm n : Nat) (dd mm : Nat → UInt64) (hn4 : 4 ≤ n) (hn : n ≤ 24) : fz_C l D [(cD, .double)] yX1_fillEnds wsX1_fillEnds ({ frames := 1, cells := 0, slots := 0, locals := 30 }) [.ref r, .int (nI 0)] [(r, .inr (1, [.ref rd, .ref rm, .int (nI n)])), (rd, fz_da cD 28 dd), (rm, fz_da cD 28 mm)] [(r, .inr (1, [.ref rd, .ref rm, .int (nI n)])), (rd, fz_da cD 28 (fz_ends 0 false n dd)), (rm, fz_da cD 28 (fz_ends 0 true n mm))] (none) := by
  refine fz_start (cc := cX1_fillEnds) (maxL := 5) (ret := none) (by decide) rfl (Nat.le_of_ble_eq_true rfl) ?_
  intro p e s m below meth c A hx hb hr hlocks hml hown hts hK hA hNW H locs hP hD hS ls hl
  have hl : lv_has ls 5 [(0, .ref r), (1, .int (nI 0))] := hl
  have hown : s.vm.findClass RX1 = some m.cls := hown
  have hw_fieldLink_RX1_18_FlowGrid_Row_size_I := hts (.fieldLink RX1 18 "FlowGrid$Row" "size" "I") (by decide +kernel)
  have hin_X1 : ∀ w ∈ u_ws RX1 TX1 3, w ∈ wsX1_fillEnds := by decide +kernel
  refine lv_iconst (v := nI 2) hx hb dX1_fillEnds_0 (by decide) ?_
  refine lv_istore_n (lv' := [(2, .int (nI 2)), (0, .ref r), (1, .int (nI 0))]) hx hb dX1_fillEnds_1 rfl hl (by decide) rfl (fun ls hl => ?_)
  refine lv_iconst (v := nI 2) hx hb dX1_fillEnds_2 (by decide) ?_
  refine lv_aload_n hx hb dX1_fillEnds_3 rfl (lv_at hl 1 rfl) ?_
  refine va_get (D := D) (ci := 1) (v := .int (nI n)) (C := RX1) (T := TX1) (N := 3) hx hb hts hin_X1 hown hK hP 0 rfl rfl 2 (by decide) hw_fieldLink_RX1_18_FlowGrid_Row_size_I (fun _ h9 => h9) rfl dX1_fillEnds_4 ?_
  refine fz_iaddN hx hb dX1_fillEnds_7 ?_
  refine fz_topn (b := n + 2) (by omega) ?_
  refine lv_iconst (v := nI 1) hx hb dX1_fillEnds_8 (by decide) ?_
  refine fz_isubN hx hb (by omega) dX1_fillEnds_9 ?_
  refine fz_topn (b := n + 1) (by omega) ?_
  refine lv_istore_n (lv' := [(3, .int (nI (n + 1))), (2, .int (nI 2)), (0, .ref r), (1, .int (nI 0))]) hx hb dX1_fillEnds_10 rfl hl (by decide) rfl (fun ls hl => ?_)
  refine lv_iconst (v := nI 1) hx hb dX1_fillEnds_11 (by decide) ?_
  refine lv_istore (lv' := [(4, .int (nI 1)), (3, .int (nI (n + 1))), (2, .int (nI 2)), (0, .ref r), (1, .int (nI 0))]) hx hb dX1_fillEnds_12 hl (by decide) rfl (fun ls hl => ?_)
  refine lv_iload hx hb dX1_fillEnds_14 (lv_at hl 0 rfl) ?_
  refine lv_iconst (v := nI 2) hx hb dX1_fillEnds_16 (by decide) ?_
  refine fz_icmp_gtN (tgt := 134) hx hb (by omega) (by omega) dX1_fillEnds_17 (by decide) (fun c17 => absurd c17 (by decide)) (fun c17 => ?_)
  refine lv_iload_n hx hb dX1_fillEnds_20 rfl (lv_at hl 4 rfl) ?_
  refine lv_lookup (off := 27) (tgt := 48) hx hb dX1_fillEnds_21 (by decide) (by decide) (by decide) ?_
  refine lv_aload_n hx hb dX1_fillEnds_48 rfl (lv_at hl 3 rfl) ?_
  refine lv_iload_n hx hb dX1_fillEnds_49 rfl (lv_at hl 1 rfl) ?_
  refine lv_iconst (v := nI 1) hx hb dX1_fillEnds_50 (by decide) ?_
  refine fz_iaddN hx hb dX1_fillEnds_51 ?_
  refine fz_topn (b := n + 2) (by omega) ?_
  refine lv_iload hx hb dX1_fillEnds_52 (lv_at hl 0 rfl) ?_
  refine fz_isubN hx hb (by omega) dX1_fillEnds_54 ?_
  refine fz_topn (b := n + 1) (by omega) ?_
  refine lv_iload_n hx hb dX1_fillEnds_55 rfl (lv_at hl 2 rfl) ?_
  refine lv_iload hx hb dX1_fillEnds_56 (lv_at hl 0 rfl) ?_
  refine fz_isubN hx hb (by omega) dX1_fillEnds_58 ?_
  refine fz_topn (b := 1) (by omega) ?_
  refine fz_callV (ws' := [(r, .inr (1, [.ref rd, .ref rm, .int (nI n)])), (rd, fz_da cD 28 (vf_upd dd 1 (dd (n + 1)))), (rm, fz_da cD 28 (vf_upd mm 1 (mm (n + 1))))]) (wr := []) (As := [.int (nI (n + 1)), .int (nI 1)]) (rest := []) ⟨hx, hb, hml, hown, hts⟩ (c_X1_copy l D cD r rd rm n dd mm (n + 1) 1 (by omega) (by omega)) (cwV 2 hts gX1_fillEnds_X1_copy rfl rfl rfl (by decide +kernel) ⟨Nat.le_of_ble_eq_true rfl, Nat.le_of_ble_eq_true rfl⟩) hK hNW hP hD hS hA [0, 1, 2] [] [0, 1, 2] rfl rfl rfl rfl (by decide) rfl rfl (q0 := 0) (ci := 1) rfl rfl rfl rfl hl.1 rfl (Nat.le_of_ble_eq_true rfl) dX1_fillEnds_59 ⟨Nat.zero_le _, Nat.zero_le _⟩ (fun H locs hP hD hS => ?_)
  refine lv_aload_n hx hb dX1_fillEnds_62 rfl (lv_at hl 3 rfl) ?_
  refine lv_iload_n hx hb dX1_fillEnds_63 rfl (lv_at hl 2 rfl) ?_
  refine lv_iconst (v := nI 1) hx hb dX1_fillEnds_64 (by decide) ?_
  refine fz_isubN hx hb (by omega) dX1_fillEnds_65 ?_
  refine fz_topn (b := 1) (by omega) ?_
  refine lv_iload hx hb dX1_fillEnds_66 (lv_at hl 0 rfl) ?_
  refine fz_iaddN hx hb dX1_fillEnds_68 ?_
  refine fz_topn (b := 2) (by omega) ?_
  refine lv_iload_n hx hb dX1_fillEnds_69 rfl (lv_at hl 1 rfl) ?_
  refine lv_iload hx hb dX1_fillEnds_70 (lv_at hl 0 rfl) ?_
  refine fz_iaddN hx hb dX1_fillEnds_72 ?_
  refine fz_topn (b := n + 2) (by omega) ?_
  refine fz_callV (ws' := [(r, .inr (1, [.ref rd, .ref rm, .int (nI n)])), (rd, fz_da cD 28 (vf_upd (vf_upd dd 1 (dd (n + 1))) (n + 2) ((vf_upd dd 1 (dd (n + 1))) 2))), (rm, fz_da cD 28 (vf_upd (vf_upd mm 1 (mm (n + 1))) (n + 2) ((vf_upd mm 1 (mm (n + 1))) 2)))]) (wr := []) (As := [.int (nI 2), .int (nI (n + 2))]) (rest := []) ⟨hx, hb, hml, hown, hts⟩ (c_X1_copy l D cD r rd rm n (vf_upd dd 1 (dd (n + 1))) (vf_upd mm 1 (mm (n + 1))) 2 (n + 2) (by omega) (by omega)) (cwV 2 hts gX1_fillEnds_X1_copy rfl rfl rfl (by decide +kernel) ⟨Nat.le_of_ble_eq_true rfl, Nat.le_of_ble_eq_true rfl⟩) hK hNW hP hD hS hA [0, 1, 2] [] [0, 1, 2] rfl rfl rfl rfl (by decide) rfl rfl (q0 := 0) (ci := 1) rfl rfl rfl rfl hl.1 rfl (Nat.le_of_ble_eq_true rfl) dX1_fillEnds_73 ⟨Nat.zero_le _, Nat.zero_le _⟩ (fun H locs hP hD hS => ?_)
  refine lv_goto (tgt := 128) hx hb dX1_fillEnds_76 (by decide) ?_
  refine lv_iinc (v := nI (2)) (lv' := [(4, .int (nI 2)), (3, .int (nI (n + 1))), (2, .int (nI 2)), (0, .ref r), (1, .int (nI 0))]) hx hb dX1_fillEnds_128 hl (k := 0) rfl (nI_1 _) (by decide) rfl (fun ls hl => ?_)
  refine lv_goto (tgt := 14) hx hb dX1_fillEnds_131 (by decide) ?_
  refine lv_iload hx hb dX1_fillEnds_14 (lv_at hl 0 rfl) ?_
  refine lv_iconst (v := nI 2) hx hb dX1_fillEnds_16 (by decide) ?_
  refine fz_icmp_gtN (tgt := 134) hx hb (by omega) (by omega) dX1_fillEnds_17 (by decide) (fun c17 => absurd c17 (by decide)) (fun c17 => ?_)
  refine lv_iload_n hx hb dX1_fillEnds_20 rfl (lv_at hl 4 rfl) ?_
  refine lv_lookup (off := 27) (tgt := 48) hx hb dX1_fillEnds_21 (by decide) (by decide) (by decide) ?_
  refine lv_aload_n hx hb dX1_fillEnds_48 rfl (lv_at hl 3 rfl) ?_
  refine lv_iload_n hx hb dX1_fillEnds_49 rfl (lv_at hl 1 rfl) ?_
  refine lv_iconst (v := nI 1) hx hb dX1_fillEnds_50 (by decide) ?_
  refine fz_iaddN hx hb dX1_fillEnds_51 ?_
  refine fz_topn (b := n + 2) (by omega) ?_
  refine lv_iload hx hb dX1_fillEnds_52 (lv_at hl 0 rfl) ?_
  refine fz_isubN hx hb (by omega) dX1_fillEnds_54 ?_
  refine fz_topn (b := n) (by omega) ?_
  refine lv_iload_n hx hb dX1_fillEnds_55 rfl (lv_at hl 2 rfl) ?_
  refine lv_iload hx hb dX1_fillEnds_56 (lv_at hl 0 rfl) ?_
  refine fz_isubN hx hb (by omega) dX1_fillEnds_58 ?_
  refine fz_topn (b := 0) (by omega) ?_
  refine fz_callV (ws' := [(r, .inr (1, [.ref rd, .ref rm, .int (nI n)])), (rd, fz_da cD 28 (vf_upd (vf_upd (vf_upd dd 1 (dd (n + 1))) (n + 2) ((vf_upd dd 1 (dd (n + 1))) 2)) 0 ((vf_upd (vf_upd dd 1 (dd (n + 1))) (n + 2) ((vf_upd dd 1 (dd (n + 1))) 2)) n))), (rm, fz_da cD 28 (vf_upd (vf_upd (vf_upd mm 1 (mm (n + 1))) (n + 2) ((vf_upd mm 1 (mm (n + 1))) 2)) 0 ((vf_upd (vf_upd mm 1 (mm (n + 1))) (n + 2) ((vf_upd mm 1 (mm (n + 1))) 2)) n)))]) (wr := []) (As := [.int (nI n), .int (nI 0)]) (rest := []) ⟨hx, hb, hml, hown, hts⟩ (c_X1_copy l D cD r rd rm n (vf_upd (vf_upd dd 1 (dd (n + 1))) (n + 2) ((vf_upd dd 1 (dd (n + 1))) 2)) (vf_upd (vf_upd mm 1 (mm (n + 1))) (n + 2) ((vf_upd mm 1 (mm (n + 1))) 2)) n 0 (by omega) (by omega)) (cwV 2 hts gX1_fillEnds_X1_copy rfl rfl rfl (by decide +kernel) ⟨Nat.le_of_ble_eq_true rfl, Nat.le_of_ble_eq_true rfl⟩) hK hNW hP hD hS hA [0, 1, 2] [] [0, 1, 2] rfl rfl rfl rfl (by decide) rfl rfl (q0 := 0) (ci := 1) rfl rfl rfl rfl hl.1 rfl (Nat.le_of_ble_eq_true rfl) dX1_fillEnds_59 ⟨Nat.zero_le _, Nat.zero_le _⟩ (fun H locs hP hD hS => ?_)
  refine lv_aload_n hx hb dX1_fillEnds_62 rfl (lv_at hl 3 rfl) ?_
  refine lv_iload_n hx hb dX1_fillEnds_63 rfl (lv_at hl 2 rfl) ?_
  refine lv_iconst (v := nI 1) hx hb dX1_fillEnds_64 (by decide) ?_
  refine fz_isubN hx hb (by omega) dX1_fillEnds_65 ?_
  refine fz_topn (b := 1) (by omega) ?_
  refine lv_iload hx hb dX1_fillEnds_66 (lv_at hl 0 rfl) ?_
  refine fz_iaddN hx hb dX1_fillEnds_68 ?_
  refine fz_topn (b := 3) (by omega) ?_
  refine lv_iload_n hx hb dX1_fillEnds_69 rfl (lv_at hl 1 rfl) ?_
  refine lv_iload hx hb dX1_fillEnds_70 (lv_at hl 0 rfl) ?_
  refine fz_iaddN hx hb dX1_fillEnds_72 ?_
  refine fz_topn (b := n + 3) (by omega) ?_
  refine fz_callV (ws' := [(r, .inr (1, [.ref rd, .ref rm, .int (nI n)])), (rd, fz_da cD 28 (vf_upd (vf_upd (vf_upd (vf_upd dd 1 (dd (n + 1))) (n + 2) ((vf_upd dd 1 (dd (n + 1))) 2)) 0 ((vf_upd (vf_upd dd 1 (dd (n + 1))) (n + 2) ((vf_upd dd 1 (dd (n + 1))) 2)) n)) (n + 3) ((vf_upd (vf_upd (vf_upd dd 1 (dd (n + 1))) (n + 2) ((vf_upd dd 1 (dd (n + 1))) 2)) 0 ((vf_upd (vf_upd dd 1 (dd (n + 1))) (n + 2) ((vf_upd dd 1 (dd (n + 1))) 2)) n)) 3))), (rm, fz_da cD 28 (vf_upd (vf_upd (vf_upd (vf_upd mm 1 (mm (n + 1))) (n + 2) ((vf_upd mm 1 (mm (n + 1))) 2)) 0 ((vf_upd (vf_upd mm 1 (mm (n + 1))) (n + 2) ((vf_upd mm 1 (mm (n + 1))) 2)) n)) (n + 3) ((vf_upd (vf_upd (vf_upd mm 1 (mm (n + 1))) (n + 2) ((vf_upd mm 1 (mm (n + 1))) 2)) 0 ((vf_upd (vf_upd mm 1 (mm (n + 1))) (n + 2) ((vf_upd mm 1 (mm (n + 1))) 2)) n)) 3)))]) (wr := []) (As := [.int (nI 3), .int (nI (n + 3))]) (rest := []) ⟨hx, hb, hml, hown, hts⟩ (c_X1_copy l D cD r rd rm n (vf_upd (vf_upd (vf_upd dd 1 (dd (n + 1))) (n + 2) ((vf_upd dd 1 (dd (n + 1))) 2)) 0 ((vf_upd (vf_upd dd 1 (dd (n + 1))) (n + 2) ((vf_upd dd 1 (dd (n + 1))) 2)) n)) (vf_upd (vf_upd (vf_upd mm 1 (mm (n + 1))) (n + 2) ((vf_upd mm 1 (mm (n + 1))) 2)) 0 ((vf_upd (vf_upd mm 1 (mm (n + 1))) (n + 2) ((vf_upd mm 1 (mm (n + 1))) 2)) n)) 3 (n + 3) (by omega) (by omega)) (cwV 2 hts gX1_fillEnds_X1_copy rfl rfl rfl (by decide +kernel) ⟨Nat.le_of_ble_eq_true rfl, Nat.le_of_ble_eq_true rfl⟩) hK hNW hP hD hS hA [0, 1, 2] [] [0, 1, 2] rfl rfl rfl rfl (by decide) rfl rfl (q0 := 0) (ci := 1) rfl rfl rfl rfl hl.1 rfl (Nat.le_of_ble_eq_true rfl) dX1_fillEnds_73 ⟨Nat.zero_le _, Nat.zero_le _⟩ (fun H locs hP hD hS => ?_)
  refine lv_goto (tgt := 128) hx hb dX1_fillEnds_76 (by decide) ?_
  refine lv_iinc (v := nI (3)) (lv' := [(4, .int (nI 3)), (3, .int (nI (n + 1))), (2, .int (nI 2)), (0, .ref r), (1, .int (nI 0))]) hx hb dX1_fillEnds_128 hl (k := 0) rfl (nI_1 _) (by decide) rfl (fun ls hl => ?_)
  refine lv_goto (tgt := 14) hx hb dX1_fillEnds_131 (by decide) ?_
  refine lv_iload hx hb dX1_fillEnds_14 (lv_at hl 0 rfl) ?_
  refine lv_iconst (v := nI 2) hx hb dX1_fillEnds_16 (by decide) ?_
  refine fz_icmp_gtN (tgt := 134) hx hb (by omega) (by omega) dX1_fillEnds_17 (by decide) (fun c17 => ?_) (fun c17 => absurd c17 (by decide))
  obtain ⟨hP, hD⟩ := fz_swapf (a := rd) (cD := cD) (n := 28) (g := fz_ends 0 false n dd) 1 rfl (fun i hi => by unfold fz_ends vf_upd; repeat (first | rfl | (split <;> try (subst_vars; simp_all) <;> try omega))) hP hD
  have hP : va_P D vwCl [(r, .inr (1, [.ref rd, .ref rm, .int (nI n)])), (rd, fz_da cD 28 (fz_ends 0 false n dd)), (rm, fz_da cD 28 (vf_upd (vf_upd (vf_upd (vf_upd mm 1 (mm (n + 1))) (n + 2) ((vf_upd mm 1 (mm (n + 1))) 2)) 0 ((vf_upd (vf_upd mm 1 (mm (n + 1))) (n + 2) ((vf_upd mm 1 (mm (n + 1))) 2)) n)) (n + 3) ((vf_upd (vf_upd (vf_upd mm 1 (mm (n + 1))) (n + 2) ((vf_upd mm 1 (mm (n + 1))) 2)) 0 ((vf_upd (vf_upd mm 1 (mm (n + 1))) (n + 2) ((vf_upd mm 1 (mm (n + 1))) 2)) n)) 3)))] H := hP
  have hD : va_D A [(r, .inr (1, [.ref rd, .ref rm, .int (nI n)])), (rd, fz_da cD 28 (fz_ends 0 false n dd)), (rm, fz_da cD 28 (vf_upd (vf_upd (vf_upd (vf_upd mm 1 (mm (n + 1))) (n + 2) ((vf_upd mm 1 (mm (n + 1))) 2)) 0 ((vf_upd (vf_upd mm 1 (mm (n + 1))) (n + 2) ((vf_upd mm 1 (mm (n + 1))) 2)) n)) (n + 3) ((vf_upd (vf_upd (vf_upd mm 1 (mm (n + 1))) (n + 2) ((vf_upd mm 1 (mm (n + 1))) 2)) 0 ((vf_upd (vf_upd mm 1 (mm (n + 1))) (n + 2) ((vf_upd mm 1 (mm (n + 1))) 2)) n)) 3)))] := hD
  obtain ⟨hP, hD⟩ := fz_swapf (a := rm) (cD := cD) (n := 28) (g := fz_ends 0 true n mm) 2 rfl (fun i hi => by unfold fz_ends vf_upd; repeat (first | rfl | (split <;> try (subst_vars; simp_all) <;> try omega))) hP hD
  have hP : va_P D vwCl [(r, .inr (1, [.ref rd, .ref rm, .int (nI n)])), (rd, fz_da cD 28 (fz_ends 0 false n dd)), (rm, fz_da cD 28 (fz_ends 0 true n mm))] H := hP
  have hD : va_D A [(r, .inr (1, [.ref rd, .ref rm, .int (nI n)])), (rd, fz_da cD 28 (fz_ends 0 false n dd)), (rm, fz_da cD 28 (fz_ends 0 true n mm))] := hD
  exact fz_vret hx hb hr hlocks (rfl) hP hK hD hS dX1_fillEnds_134

set_option maxHeartbeats 4000000 in
set_option maxRecDepth 100000 in
theorem c_X1_fillEnds1 (l : Launch) (D : va_G) (cD : ClassId) (r rd rm n : Nat) (dd mm : Nat → UInt64) (hn4 : 4 ≤ n) (hn : n ≤ 24) : fz_C l D [(cD, .double)] yX1_fillEnds wsX1_fillEnds ({ frames := 1, cells := 0, slots := 0, locals := 30 }) [.ref r, .int (nI 1)] [(r, .inr (1, [.ref rd, .ref rm, .int (nI n)])), (rd, fz_da cD 28 dd), (rm, fz_da cD 28 mm)] [(r, .inr (1, [.ref rd, .ref rm, .int (nI n)])), (rd, fz_da cD 28 (fz_ends 1 false n dd)), (rm, fz_da cD 28 (fz_ends 1 true n mm))] (none) := by
  refine fz_start (cc := cX1_fillEnds) (maxL := 5) (ret := none) (by decide) rfl (Nat.le_of_ble_eq_true rfl) ?_
  intro p e s m below meth c A hx hb hr hlocks hml hown hts hK hA hNW H locs hP hD hS ls hl
  have hl : lv_has ls 5 [(0, .ref r), (1, .int (nI 1))] := hl
  have hown : s.vm.findClass RX1 = some m.cls := hown
  have hw_fieldLink_RX1_18_FlowGrid_Row_size_I := hts (.fieldLink RX1 18 "FlowGrid$Row" "size" "I") (by decide +kernel)
  have hin_X1 : ∀ w ∈ u_ws RX1 TX1 3, w ∈ wsX1_fillEnds := by decide +kernel
  refine lv_iconst (v := nI 2) hx hb dX1_fillEnds_0 (by decide) ?_
  refine lv_istore_n (lv' := [(2, .int (nI 2)), (0, .ref r), (1, .int (nI 1))]) hx hb dX1_fillEnds_1 rfl hl (by decide) rfl (fun ls hl => ?_)
  refine lv_iconst (v := nI 2) hx hb dX1_fillEnds_2 (by decide) ?_
  refine lv_aload_n hx hb dX1_fillEnds_3 rfl (lv_at hl 1 rfl) ?_
  refine va_get (D := D) (ci := 1) (v := .int (nI n)) (C := RX1) (T := TX1) (N := 3) hx hb hts hin_X1 hown hK hP 0 rfl rfl 2 (by decide) hw_fieldLink_RX1_18_FlowGrid_Row_size_I (fun _ h9 => h9) rfl dX1_fillEnds_4 ?_
  refine fz_iaddN hx hb dX1_fillEnds_7 ?_
  refine fz_topn (b := n + 2) (by omega) ?_
  refine lv_iconst (v := nI 1) hx hb dX1_fillEnds_8 (by decide) ?_
  refine fz_isubN hx hb (by omega) dX1_fillEnds_9 ?_
  refine fz_topn (b := n + 1) (by omega) ?_
  refine lv_istore_n (lv' := [(3, .int (nI (n + 1))), (2, .int (nI 2)), (0, .ref r), (1, .int (nI 1))]) hx hb dX1_fillEnds_10 rfl hl (by decide) rfl (fun ls hl => ?_)
  refine lv_iconst (v := nI 1) hx hb dX1_fillEnds_11 (by decide) ?_
  refine lv_istore (lv' := [(4, .int (nI 1)), (3, .int (nI (n + 1))), (2, .int (nI 2)), (0, .ref r), (1, .int (nI 1))]) hx hb dX1_fillEnds_12 hl (by decide) rfl (fun ls hl => ?_)
  refine lv_iload hx hb dX1_fillEnds_14 (lv_at hl 0 rfl) ?_
  refine lv_iconst (v := nI 2) hx hb dX1_fillEnds_16 (by decide) ?_
  refine fz_icmp_gtN (tgt := 134) hx hb (by omega) (by omega) dX1_fillEnds_17 (by decide) (fun c17 => absurd c17 (by decide)) (fun c17 => ?_)
  refine lv_iload_n hx hb dX1_fillEnds_20 rfl (lv_at hl 4 rfl) ?_
  refine lv_lookup (off := 58) (tgt := 79) hx hb dX1_fillEnds_21 (by decide) (by decide) (by decide) ?_
  refine lv_aload_n hx hb dX1_fillEnds_79 rfl (lv_at hl 3 rfl) ?_
  refine lv_iload_n hx hb dX1_fillEnds_80 rfl (lv_at hl 2 rfl) ?_
  refine lv_iconst (v := nI 1) hx hb dX1_fillEnds_81 (by decide) ?_
  refine fz_isubN hx hb (by omega) dX1_fillEnds_82 ?_
  refine fz_topn (b := 1) (by omega) ?_
  refine lv_iload hx hb dX1_fillEnds_83 (lv_at hl 0 rfl) ?_
  refine fz_iaddN hx hb dX1_fillEnds_85 ?_
  refine fz_topn (b := 2) (by omega) ?_
  refine lv_iload_n hx hb dX1_fillEnds_86 rfl (lv_at hl 2 rfl) ?_
  refine lv_iload hx hb dX1_fillEnds_87 (lv_at hl 0 rfl) ?_
  refine fz_isubN hx hb (by omega) dX1_fillEnds_89 ?_
  refine fz_topn (b := 1) (by omega) ?_
  refine fz_callV (ws' := [(r, .inr (1, [.ref rd, .ref rm, .int (nI n)])), (rd, fz_da cD 28 (vf_upd dd 1 (dd 2))), (rm, fz_da cD 28 (vf_upd mm 1 (FP.dneg (mm 2))))]) (wr := []) (As := [.int (nI 2), .int (nI 1)]) (rest := []) ⟨hx, hb, hml, hown, hts⟩ (c_X1_mirror l D cD r rd rm n dd mm 2 1 (by omega) (by omega)) (cwV 2 hts gX1_fillEnds_X1_mirror rfl rfl rfl (by decide +kernel) ⟨Nat.le_of_ble_eq_true rfl, Nat.le_of_ble_eq_true rfl⟩) hK hNW hP hD hS hA [0, 1, 2] [] [0, 1, 2] rfl rfl rfl rfl (by decide) rfl rfl (q0 := 0) (ci := 1) rfl rfl rfl rfl hl.1 rfl (Nat.le_of_ble_eq_true rfl) dX1_fillEnds_90 ⟨Nat.zero_le _, Nat.zero_le _⟩ (fun H locs hP hD hS => ?_)
  refine lv_aload_n hx hb dX1_fillEnds_93 rfl (lv_at hl 3 rfl) ?_
  refine lv_iload_n hx hb dX1_fillEnds_94 rfl (lv_at hl 1 rfl) ?_
  refine lv_iconst (v := nI 1) hx hb dX1_fillEnds_95 (by decide) ?_
  refine fz_iaddN hx hb dX1_fillEnds_96 ?_
  refine fz_topn (b := n + 2) (by omega) ?_
  refine lv_iload hx hb dX1_fillEnds_97 (lv_at hl 0 rfl) ?_
  refine fz_isubN hx hb (by omega) dX1_fillEnds_99 ?_
  refine fz_topn (b := n + 1) (by omega) ?_
  refine lv_iload_n hx hb dX1_fillEnds_100 rfl (lv_at hl 1 rfl) ?_
  refine lv_iload hx hb dX1_fillEnds_101 (lv_at hl 0 rfl) ?_
  refine fz_iaddN hx hb dX1_fillEnds_103 ?_
  refine fz_topn (b := n + 2) (by omega) ?_
  refine fz_callV (ws' := [(r, .inr (1, [.ref rd, .ref rm, .int (nI n)])), (rd, fz_da cD 28 (vf_upd (vf_upd dd 1 (dd 2)) (n + 2) ((vf_upd dd 1 (dd 2)) (n + 1)))), (rm, fz_da cD 28 (vf_upd (vf_upd mm 1 (FP.dneg (mm 2))) (n + 2) (FP.dneg ((vf_upd mm 1 (FP.dneg (mm 2))) (n + 1)))))]) (wr := []) (As := [.int (nI (n + 1)), .int (nI (n + 2))]) (rest := []) ⟨hx, hb, hml, hown, hts⟩ (c_X1_mirror l D cD r rd rm n (vf_upd dd 1 (dd 2)) (vf_upd mm 1 (FP.dneg (mm 2))) (n + 1) (n + 2) (by omega) (by omega)) (cwV 2 hts gX1_fillEnds_X1_mirror rfl rfl rfl (by decide +kernel) ⟨Nat.le_of_ble_eq_true rfl, Nat.le_of_ble_eq_true rfl⟩) hK hNW hP hD hS hA [0, 1, 2] [] [0, 1, 2] rfl rfl rfl rfl (by decide) rfl rfl (q0 := 0) (ci := 1) rfl rfl rfl rfl hl.1 rfl (Nat.le_of_ble_eq_true rfl) dX1_fillEnds_104 ⟨Nat.zero_le _, Nat.zero_le _⟩ (fun H locs hP hD hS => ?_)
  refine lv_goto (tgt := 128) hx hb dX1_fillEnds_107 (by decide) ?_
  refine lv_iinc (v := nI (2)) (lv' := [(4, .int (nI 2)), (3, .int (nI (n + 1))), (2, .int (nI 2)), (0, .ref r), (1, .int (nI 1))]) hx hb dX1_fillEnds_128 hl (k := 0) rfl (nI_1 _) (by decide) rfl (fun ls hl => ?_)
  refine lv_goto (tgt := 14) hx hb dX1_fillEnds_131 (by decide) ?_
  refine lv_iload hx hb dX1_fillEnds_14 (lv_at hl 0 rfl) ?_
  refine lv_iconst (v := nI 2) hx hb dX1_fillEnds_16 (by decide) ?_
  refine fz_icmp_gtN (tgt := 134) hx hb (by omega) (by omega) dX1_fillEnds_17 (by decide) (fun c17 => absurd c17 (by decide)) (fun c17 => ?_)
  refine lv_iload_n hx hb dX1_fillEnds_20 rfl (lv_at hl 4 rfl) ?_
  refine lv_lookup (off := 58) (tgt := 79) hx hb dX1_fillEnds_21 (by decide) (by decide) (by decide) ?_
  refine lv_aload_n hx hb dX1_fillEnds_79 rfl (lv_at hl 3 rfl) ?_
  refine lv_iload_n hx hb dX1_fillEnds_80 rfl (lv_at hl 2 rfl) ?_
  refine lv_iconst (v := nI 1) hx hb dX1_fillEnds_81 (by decide) ?_
  refine fz_isubN hx hb (by omega) dX1_fillEnds_82 ?_
  refine fz_topn (b := 1) (by omega) ?_
  refine lv_iload hx hb dX1_fillEnds_83 (lv_at hl 0 rfl) ?_
  refine fz_iaddN hx hb dX1_fillEnds_85 ?_
  refine fz_topn (b := 3) (by omega) ?_
  refine lv_iload_n hx hb dX1_fillEnds_86 rfl (lv_at hl 2 rfl) ?_
  refine lv_iload hx hb dX1_fillEnds_87 (lv_at hl 0 rfl) ?_
  refine fz_isubN hx hb (by omega) dX1_fillEnds_89 ?_
  refine fz_topn (b := 0) (by omega) ?_
  refine fz_callV (ws' := [(r, .inr (1, [.ref rd, .ref rm, .int (nI n)])), (rd, fz_da cD 28 (vf_upd (vf_upd (vf_upd dd 1 (dd 2)) (n + 2) ((vf_upd dd 1 (dd 2)) (n + 1))) 0 ((vf_upd (vf_upd dd 1 (dd 2)) (n + 2) ((vf_upd dd 1 (dd 2)) (n + 1))) 3))), (rm, fz_da cD 28 (vf_upd (vf_upd (vf_upd mm 1 (FP.dneg (mm 2))) (n + 2) (FP.dneg ((vf_upd mm 1 (FP.dneg (mm 2))) (n + 1)))) 0 (FP.dneg ((vf_upd (vf_upd mm 1 (FP.dneg (mm 2))) (n + 2) (FP.dneg ((vf_upd mm 1 (FP.dneg (mm 2))) (n + 1)))) 3))))]) (wr := []) (As := [.int (nI 3), .int (nI 0)]) (rest := []) ⟨hx, hb, hml, hown, hts⟩ (c_X1_mirror l D cD r rd rm n (vf_upd (vf_upd dd 1 (dd 2)) (n + 2) ((vf_upd dd 1 (dd 2)) (n + 1))) (vf_upd (vf_upd mm 1 (FP.dneg (mm 2))) (n + 2) (FP.dneg ((vf_upd mm 1 (FP.dneg (mm 2))) (n + 1)))) 3 0 (by omega) (by omega)) (cwV 2 hts gX1_fillEnds_X1_mirror rfl rfl rfl (by decide +kernel) ⟨Nat.le_of_ble_eq_true rfl, Nat.le_of_ble_eq_true rfl⟩) hK hNW hP hD hS hA [0, 1, 2] [] [0, 1, 2] rfl rfl rfl rfl (by decide) rfl rfl (q0 := 0) (ci := 1) rfl rfl rfl rfl hl.1 rfl (Nat.le_of_ble_eq_true rfl) dX1_fillEnds_90 ⟨Nat.zero_le _, Nat.zero_le _⟩ (fun H locs hP hD hS => ?_)
  refine lv_aload_n hx hb dX1_fillEnds_93 rfl (lv_at hl 3 rfl) ?_
  refine lv_iload_n hx hb dX1_fillEnds_94 rfl (lv_at hl 1 rfl) ?_
  refine lv_iconst (v := nI 1) hx hb dX1_fillEnds_95 (by decide) ?_
  refine fz_iaddN hx hb dX1_fillEnds_96 ?_
  refine fz_topn (b := n + 2) (by omega) ?_
  refine lv_iload hx hb dX1_fillEnds_97 (lv_at hl 0 rfl) ?_
  refine fz_isubN hx hb (by omega) dX1_fillEnds_99 ?_
  refine fz_topn (b := n) (by omega) ?_
  refine lv_iload_n hx hb dX1_fillEnds_100 rfl (lv_at hl 1 rfl) ?_
  refine lv_iload hx hb dX1_fillEnds_101 (lv_at hl 0 rfl) ?_
  refine fz_iaddN hx hb dX1_fillEnds_103 ?_
  refine fz_topn (b := n + 3) (by omega) ?_
  refine fz_callV (ws' := [(r, .inr (1, [.ref rd, .ref rm, .int (nI n)])), (rd, fz_da cD 28 (vf_upd (vf_upd (vf_upd (vf_upd dd 1 (dd 2)) (n + 2) ((vf_upd dd 1 (dd 2)) (n + 1))) 0 ((vf_upd (vf_upd dd 1 (dd 2)) (n + 2) ((vf_upd dd 1 (dd 2)) (n + 1))) 3)) (n + 3) ((vf_upd (vf_upd (vf_upd dd 1 (dd 2)) (n + 2) ((vf_upd dd 1 (dd 2)) (n + 1))) 0 ((vf_upd (vf_upd dd 1 (dd 2)) (n + 2) ((vf_upd dd 1 (dd 2)) (n + 1))) 3)) n))), (rm, fz_da cD 28 (vf_upd (vf_upd (vf_upd (vf_upd mm 1 (FP.dneg (mm 2))) (n + 2) (FP.dneg ((vf_upd mm 1 (FP.dneg (mm 2))) (n + 1)))) 0 (FP.dneg ((vf_upd (vf_upd mm 1 (FP.dneg (mm 2))) (n + 2) (FP.dneg ((vf_upd mm 1 (FP.dneg (mm 2))) (n + 1)))) 3))) (n + 3) (FP.dneg ((vf_upd (vf_upd (vf_upd mm 1 (FP.dneg (mm 2))) (n + 2) (FP.dneg ((vf_upd mm 1 (FP.dneg (mm 2))) (n + 1)))) 0 (FP.dneg ((vf_upd (vf_upd mm 1 (FP.dneg (mm 2))) (n + 2) (FP.dneg ((vf_upd mm 1 (FP.dneg (mm 2))) (n + 1)))) 3))) n))))]) (wr := []) (As := [.int (nI n), .int (nI (n + 3))]) (rest := []) ⟨hx, hb, hml, hown, hts⟩ (c_X1_mirror l D cD r rd rm n (vf_upd (vf_upd (vf_upd dd 1 (dd 2)) (n + 2) ((vf_upd dd 1 (dd 2)) (n + 1))) 0 ((vf_upd (vf_upd dd 1 (dd 2)) (n + 2) ((vf_upd dd 1 (dd 2)) (n + 1))) 3)) (vf_upd (vf_upd (vf_upd mm 1 (FP.dneg (mm 2))) (n + 2) (FP.dneg ((vf_upd mm 1 (FP.dneg (mm 2))) (n + 1)))) 0 (FP.dneg ((vf_upd (vf_upd mm 1 (FP.dneg (mm 2))) (n + 2) (FP.dneg ((vf_upd mm 1 (FP.dneg (mm 2))) (n + 1)))) 3))) n (n + 3) (by omega) (by omega)) (cwV 2 hts gX1_fillEnds_X1_mirror rfl rfl rfl (by decide +kernel) ⟨Nat.le_of_ble_eq_true rfl, Nat.le_of_ble_eq_true rfl⟩) hK hNW hP hD hS hA [0, 1, 2] [] [0, 1, 2] rfl rfl rfl rfl (by decide) rfl rfl (q0 := 0) (ci := 1) rfl rfl rfl rfl hl.1 rfl (Nat.le_of_ble_eq_true rfl) dX1_fillEnds_104 ⟨Nat.zero_le _, Nat.zero_le _⟩ (fun H locs hP hD hS => ?_)
  refine lv_goto (tgt := 128) hx hb dX1_fillEnds_107 (by decide) ?_
  refine lv_iinc (v := nI (3)) (lv' := [(4, .int (nI 3)), (3, .int (nI (n + 1))), (2, .int (nI 2)), (0, .ref r), (1, .int (nI 1))]) hx hb dX1_fillEnds_128 hl (k := 0) rfl (nI_1 _) (by decide) rfl (fun ls hl => ?_)
  refine lv_goto (tgt := 14) hx hb dX1_fillEnds_131 (by decide) ?_
  refine lv_iload hx hb dX1_fillEnds_14 (lv_at hl 0 rfl) ?_
  refine lv_iconst (v := nI 2) hx hb dX1_fillEnds_16 (by decide) ?_
  refine fz_icmp_gtN (tgt := 134) hx hb (by omega) (by omega) dX1_fillEnds_17 (by decide) (fun c17 => ?_) (fun c17 => absurd c17 (by decide))
  obtain ⟨hP, hD⟩ := fz_swapf (a := rd) (cD := cD) (n := 28) (g := fz_ends 1 false n dd) 1 rfl (fun i hi => by unfold fz_ends vf_upd; repeat (first | rfl | (split <;> try (subst_vars; simp_all) <;> try omega))) hP hD
  have hP : va_P D vwCl [(r, .inr (1, [.ref rd, .ref rm, .int (nI n)])), (rd, fz_da cD 28 (fz_ends 1 false n dd)), (rm, fz_da cD 28 (vf_upd (vf_upd (vf_upd (vf_upd mm 1 (FP.dneg (mm 2))) (n + 2) (FP.dneg ((vf_upd mm 1 (FP.dneg (mm 2))) (n + 1)))) 0 (FP.dneg ((vf_upd (vf_upd mm 1 (FP.dneg (mm 2))) (n + 2) (FP.dneg ((vf_upd mm 1 (FP.dneg (mm 2))) (n + 1)))) 3))) (n + 3) (FP.dneg ((vf_upd (vf_upd (vf_upd mm 1 (FP.dneg (mm 2))) (n + 2) (FP.dneg ((vf_upd mm 1 (FP.dneg (mm 2))) (n + 1)))) 0 (FP.dneg ((vf_upd (vf_upd mm 1 (FP.dneg (mm 2))) (n + 2) (FP.dneg ((vf_upd mm 1 (FP.dneg (mm 2))) (n + 1)))) 3))) n))))] H := hP
  have hD : va_D A [(r, .inr (1, [.ref rd, .ref rm, .int (nI n)])), (rd, fz_da cD 28 (fz_ends 1 false n dd)), (rm, fz_da cD 28 (vf_upd (vf_upd (vf_upd (vf_upd mm 1 (FP.dneg (mm 2))) (n + 2) (FP.dneg ((vf_upd mm 1 (FP.dneg (mm 2))) (n + 1)))) 0 (FP.dneg ((vf_upd (vf_upd mm 1 (FP.dneg (mm 2))) (n + 2) (FP.dneg ((vf_upd mm 1 (FP.dneg (mm 2))) (n + 1)))) 3))) (n + 3) (FP.dneg ((vf_upd (vf_upd (vf_upd mm 1 (FP.dneg (mm 2))) (n + 2) (FP.dneg ((vf_upd mm 1 (FP.dneg (mm 2))) (n + 1)))) 0 (FP.dneg ((vf_upd (vf_upd mm 1 (FP.dneg (mm 2))) (n + 2) (FP.dneg ((vf_upd mm 1 (FP.dneg (mm 2))) (n + 1)))) 3))) n))))] := hD
  obtain ⟨hP, hD⟩ := fz_swapf (a := rm) (cD := cD) (n := 28) (g := fz_ends 1 true n mm) 2 rfl (fun i hi => by unfold fz_ends vf_upd; repeat (first | rfl | (split <;> try (subst_vars; simp_all) <;> try omega))) hP hD
  have hP : va_P D vwCl [(r, .inr (1, [.ref rd, .ref rm, .int (nI n)])), (rd, fz_da cD 28 (fz_ends 1 false n dd)), (rm, fz_da cD 28 (fz_ends 1 true n mm))] H := hP
  have hD : va_D A [(r, .inr (1, [.ref rd, .ref rm, .int (nI n)])), (rd, fz_da cD 28 (fz_ends 1 false n dd)), (rm, fz_da cD 28 (fz_ends 1 true n mm))] := hD
  exact fz_vret hx hb hr hlocks (rfl) hP hK hD hS dX1_fillEnds_134

set_option maxHeartbeats 4000000 in
set_option maxRecDepth 100000 in
theorem c_X1_fillEnds2 (l : Launch) (D : va_G) (cD : ClassId) (r rd rm n : Nat) (dd mm : Nat → UInt64) (hn4 : 4 ≤ n) (hn : n ≤ 24) : fz_C l D [(cD, .double)] yX1_fillEnds wsX1_fillEnds ({ frames := 1, cells := 0, slots := 0, locals := 30 }) [.ref r, .int (nI 2)] [(r, .inr (1, [.ref rd, .ref rm, .int (nI n)])), (rd, fz_da cD 28 dd), (rm, fz_da cD 28 mm)] [(r, .inr (1, [.ref rd, .ref rm, .int (nI n)])), (rd, fz_da cD 28 (fz_ends 2 false n dd)), (rm, fz_da cD 28 (fz_ends 2 true n mm))] (none) := by
  refine fz_start (cc := cX1_fillEnds) (maxL := 5) (ret := none) (by decide) rfl (Nat.le_of_ble_eq_true rfl) ?_
  intro p e s m below meth c A hx hb hr hlocks hml hown hts hK hA hNW H locs hP hD hS ls hl
  have hl : lv_has ls 5 [(0, .ref r), (1, .int (nI 2))] := hl
  have hown : s.vm.findClass RX1 = some m.cls := hown
  have hw_fieldLink_RX1_18_FlowGrid_Row_size_I := hts (.fieldLink RX1 18 "FlowGrid$Row" "size" "I") (by decide +kernel)
  have hin_X1 : ∀ w ∈ u_ws RX1 TX1 3, w ∈ wsX1_fillEnds := by decide +kernel
  refine lv_iconst (v := nI 2) hx hb dX1_fillEnds_0 (by decide) ?_
  refine lv_istore_n (lv' := [(2, .int (nI 2)), (0, .ref r), (1, .int (nI 2))]) hx hb dX1_fillEnds_1 rfl hl (by decide) rfl (fun ls hl => ?_)
  refine lv_iconst (v := nI 2) hx hb dX1_fillEnds_2 (by decide) ?_
  refine lv_aload_n hx hb dX1_fillEnds_3 rfl (lv_at hl 1 rfl) ?_
  refine va_get (D := D) (ci := 1) (v := .int (nI n)) (C := RX1) (T := TX1) (N := 3) hx hb hts hin_X1 hown hK hP 0 rfl rfl 2 (by decide) hw_fieldLink_RX1_18_FlowGrid_Row_size_I (fun _ h9 => h9) rfl dX1_fillEnds_4 ?_
  refine fz_iaddN hx hb dX1_fillEnds_7 ?_
  refine fz_topn (b := n + 2) (by omega) ?_
  refine lv_iconst (v := nI 1) hx hb dX1_fillEnds_8 (by decide) ?_
  refine fz_isubN hx hb (by omega) dX1_fillEnds_9 ?_
  refine fz_topn (b := n + 1) (by omega) ?_
  refine lv_istore_n (lv' := [(3, .int (nI (n + 1))), (2, .int (nI 2)), (0, .ref r), (1, .int (nI 2))]) hx hb dX1_fillEnds_10 rfl hl (by decide) rfl (fun ls hl => ?_)
  refine lv_iconst (v := nI 1) hx hb dX1_fillEnds_11 (by decide) ?_
  refine lv_istore (lv' := [(4, .int (nI 1)), (3, .int (nI (n + 1))), (2, .int (nI 2)), (0, .ref r), (1, .int (nI 2))]) hx hb dX1_fillEnds_12 hl (by decide) rfl (fun ls hl => ?_)
  refine lv_iload hx hb dX1_fillEnds_14 (lv_at hl 0 rfl) ?_
  refine lv_iconst (v := nI 2) hx hb dX1_fillEnds_16 (by decide) ?_
  refine fz_icmp_gtN (tgt := 134) hx hb (by omega) (by omega) dX1_fillEnds_17 (by decide) (fun c17 => absurd c17 (by decide)) (fun c17 => ?_)
  refine lv_iload_n hx hb dX1_fillEnds_20 rfl (lv_at hl 4 rfl) ?_
  refine lv_lookup (off := 89) (tgt := 110) hx hb dX1_fillEnds_21 (by decide) (by decide) (by decide) ?_
  refine lv_aload_n hx hb dX1_fillEnds_110 rfl (lv_at hl 3 rfl) ?_
  refine lv_iload_n hx hb dX1_fillEnds_111 rfl (lv_at hl 2 rfl) ?_
  refine lv_iload_n hx hb dX1_fillEnds_112 rfl (lv_at hl 2 rfl) ?_
  refine lv_iload hx hb dX1_fillEnds_113 (lv_at hl 0 rfl) ?_
  refine fz_isubN hx hb (by omega) dX1_fillEnds_115 ?_
  refine fz_topn (b := 1) (by omega) ?_
  refine fz_callV (ws' := [(r, .inr (1, [.ref rd, .ref rm, .int (nI n)])), (rd, fz_da cD 28 (vf_upd dd 1 (dd 2))), (rm, fz_da cD 28 (vf_upd mm 1 (mm 2)))]) (wr := []) (As := [.int (nI 2), .int (nI 1)]) (rest := []) ⟨hx, hb, hml, hown, hts⟩ (c_X1_copy l D cD r rd rm n dd mm 2 1 (by omega) (by omega)) (cwV 2 hts gX1_fillEnds_X1_copy rfl rfl rfl (by decide +kernel) ⟨Nat.le_of_ble_eq_true rfl, Nat.le_of_ble_eq_true rfl⟩) hK hNW hP hD hS hA [0, 1, 2] [] [0, 1, 2] rfl rfl rfl rfl (by decide) rfl rfl (q0 := 0) (ci := 1) rfl rfl rfl rfl hl.1 rfl (Nat.le_of_ble_eq_true rfl) dX1_fillEnds_116 ⟨Nat.zero_le _, Nat.zero_le _⟩ (fun H locs hP hD hS => ?_)
  refine lv_aload_n hx hb dX1_fillEnds_119 rfl (lv_at hl 3 rfl) ?_
  refine lv_iload_n hx hb dX1_fillEnds_120 rfl (lv_at hl 1 rfl) ?_
  refine lv_iload_n hx hb dX1_fillEnds_121 rfl (lv_at hl 1 rfl) ?_
  refine lv_iload hx hb dX1_fillEnds_122 (lv_at hl 0 rfl) ?_
  refine fz_iaddN hx hb dX1_fillEnds_124 ?_
  refine fz_topn (b := n + 2) (by omega) ?_
  refine fz_callV (ws' := [(r, .inr (1, [.ref rd, .ref rm, .int (nI n)])), (rd, fz_da cD 28 (vf_upd (vf_upd dd 1 (dd 2)) (n + 2) ((vf_upd dd 1 (dd 2)) (n + 1)))), (rm, fz_da cD 28 (vf_upd (vf_upd mm 1 (mm 2)) (n + 2) ((vf_upd mm 1 (mm 2)) (n + 1))))]) (wr := []) (As := [.int (nI (n + 1)), .int (nI (n + 2))]) (rest := []) ⟨hx, hb, hml, hown, hts⟩ (c_X1_copy l D cD r rd rm n (vf_upd dd 1 (dd 2)) (vf_upd mm 1 (mm 2)) (n + 1) (n + 2) (by omega) (by omega)) (cwV 2 hts gX1_fillEnds_X1_copy rfl rfl rfl (by decide +kernel) ⟨Nat.le_of_ble_eq_true rfl, Nat.le_of_ble_eq_true rfl⟩) hK hNW hP hD hS hA [0, 1, 2] [] [0, 1, 2] rfl rfl rfl rfl (by decide) rfl rfl (q0 := 0) (ci := 1) rfl rfl rfl rfl hl.1 rfl (Nat.le_of_ble_eq_true rfl) dX1_fillEnds_125 ⟨Nat.zero_le _, Nat.zero_le _⟩ (fun H locs hP hD hS => ?_)
  refine lv_iinc (v := nI (2)) (lv' := [(4, .int (nI 2)), (3, .int (nI (n + 1))), (2, .int (nI 2)), (0, .ref r), (1, .int (nI 2))]) hx hb dX1_fillEnds_128 hl (k := 0) rfl (nI_1 _) (by decide) rfl (fun ls hl => ?_)
  refine lv_goto (tgt := 14) hx hb dX1_fillEnds_131 (by decide) ?_
  refine lv_iload hx hb dX1_fillEnds_14 (lv_at hl 0 rfl) ?_
  refine lv_iconst (v := nI 2) hx hb dX1_fillEnds_16 (by decide) ?_
  refine fz_icmp_gtN (tgt := 134) hx hb (by omega) (by omega) dX1_fillEnds_17 (by decide) (fun c17 => absurd c17 (by decide)) (fun c17 => ?_)
  refine lv_iload_n hx hb dX1_fillEnds_20 rfl (lv_at hl 4 rfl) ?_
  refine lv_lookup (off := 89) (tgt := 110) hx hb dX1_fillEnds_21 (by decide) (by decide) (by decide) ?_
  refine lv_aload_n hx hb dX1_fillEnds_110 rfl (lv_at hl 3 rfl) ?_
  refine lv_iload_n hx hb dX1_fillEnds_111 rfl (lv_at hl 2 rfl) ?_
  refine lv_iload_n hx hb dX1_fillEnds_112 rfl (lv_at hl 2 rfl) ?_
  refine lv_iload hx hb dX1_fillEnds_113 (lv_at hl 0 rfl) ?_
  refine fz_isubN hx hb (by omega) dX1_fillEnds_115 ?_
  refine fz_topn (b := 0) (by omega) ?_
  refine fz_callV (ws' := [(r, .inr (1, [.ref rd, .ref rm, .int (nI n)])), (rd, fz_da cD 28 (vf_upd (vf_upd (vf_upd dd 1 (dd 2)) (n + 2) ((vf_upd dd 1 (dd 2)) (n + 1))) 0 ((vf_upd (vf_upd dd 1 (dd 2)) (n + 2) ((vf_upd dd 1 (dd 2)) (n + 1))) 2))), (rm, fz_da cD 28 (vf_upd (vf_upd (vf_upd mm 1 (mm 2)) (n + 2) ((vf_upd mm 1 (mm 2)) (n + 1))) 0 ((vf_upd (vf_upd mm 1 (mm 2)) (n + 2) ((vf_upd mm 1 (mm 2)) (n + 1))) 2)))]) (wr := []) (As := [.int (nI 2), .int (nI 0)]) (rest := []) ⟨hx, hb, hml, hown, hts⟩ (c_X1_copy l D cD r rd rm n (vf_upd (vf_upd dd 1 (dd 2)) (n + 2) ((vf_upd dd 1 (dd 2)) (n + 1))) (vf_upd (vf_upd mm 1 (mm 2)) (n + 2) ((vf_upd mm 1 (mm 2)) (n + 1))) 2 0 (by omega) (by omega)) (cwV 2 hts gX1_fillEnds_X1_copy rfl rfl rfl (by decide +kernel) ⟨Nat.le_of_ble_eq_true rfl, Nat.le_of_ble_eq_true rfl⟩) hK hNW hP hD hS hA [0, 1, 2] [] [0, 1, 2] rfl rfl rfl rfl (by decide) rfl rfl (q0 := 0) (ci := 1) rfl rfl rfl rfl hl.1 rfl (Nat.le_of_ble_eq_true rfl) dX1_fillEnds_116 ⟨Nat.zero_le _, Nat.zero_le _⟩ (fun H locs hP hD hS => ?_)
  refine lv_aload_n hx hb dX1_fillEnds_119 rfl (lv_at hl 3 rfl) ?_
  refine lv_iload_n hx hb dX1_fillEnds_120 rfl (lv_at hl 1 rfl) ?_
  refine lv_iload_n hx hb dX1_fillEnds_121 rfl (lv_at hl 1 rfl) ?_
  refine lv_iload hx hb dX1_fillEnds_122 (lv_at hl 0 rfl) ?_
  refine fz_iaddN hx hb dX1_fillEnds_124 ?_
  refine fz_topn (b := n + 3) (by omega) ?_
  refine fz_callV (ws' := [(r, .inr (1, [.ref rd, .ref rm, .int (nI n)])), (rd, fz_da cD 28 (vf_upd (vf_upd (vf_upd (vf_upd dd 1 (dd 2)) (n + 2) ((vf_upd dd 1 (dd 2)) (n + 1))) 0 ((vf_upd (vf_upd dd 1 (dd 2)) (n + 2) ((vf_upd dd 1 (dd 2)) (n + 1))) 2)) (n + 3) ((vf_upd (vf_upd (vf_upd dd 1 (dd 2)) (n + 2) ((vf_upd dd 1 (dd 2)) (n + 1))) 0 ((vf_upd (vf_upd dd 1 (dd 2)) (n + 2) ((vf_upd dd 1 (dd 2)) (n + 1))) 2)) (n + 1)))), (rm, fz_da cD 28 (vf_upd (vf_upd (vf_upd (vf_upd mm 1 (mm 2)) (n + 2) ((vf_upd mm 1 (mm 2)) (n + 1))) 0 ((vf_upd (vf_upd mm 1 (mm 2)) (n + 2) ((vf_upd mm 1 (mm 2)) (n + 1))) 2)) (n + 3) ((vf_upd (vf_upd (vf_upd mm 1 (mm 2)) (n + 2) ((vf_upd mm 1 (mm 2)) (n + 1))) 0 ((vf_upd (vf_upd mm 1 (mm 2)) (n + 2) ((vf_upd mm 1 (mm 2)) (n + 1))) 2)) (n + 1))))]) (wr := []) (As := [.int (nI (n + 1)), .int (nI (n + 3))]) (rest := []) ⟨hx, hb, hml, hown, hts⟩ (c_X1_copy l D cD r rd rm n (vf_upd (vf_upd (vf_upd dd 1 (dd 2)) (n + 2) ((vf_upd dd 1 (dd 2)) (n + 1))) 0 ((vf_upd (vf_upd dd 1 (dd 2)) (n + 2) ((vf_upd dd 1 (dd 2)) (n + 1))) 2)) (vf_upd (vf_upd (vf_upd mm 1 (mm 2)) (n + 2) ((vf_upd mm 1 (mm 2)) (n + 1))) 0 ((vf_upd (vf_upd mm 1 (mm 2)) (n + 2) ((vf_upd mm 1 (mm 2)) (n + 1))) 2)) (n + 1) (n + 3) (by omega) (by omega)) (cwV 2 hts gX1_fillEnds_X1_copy rfl rfl rfl (by decide +kernel) ⟨Nat.le_of_ble_eq_true rfl, Nat.le_of_ble_eq_true rfl⟩) hK hNW hP hD hS hA [0, 1, 2] [] [0, 1, 2] rfl rfl rfl rfl (by decide) rfl rfl (q0 := 0) (ci := 1) rfl rfl rfl rfl hl.1 rfl (Nat.le_of_ble_eq_true rfl) dX1_fillEnds_125 ⟨Nat.zero_le _, Nat.zero_le _⟩ (fun H locs hP hD hS => ?_)
  refine lv_iinc (v := nI (3)) (lv' := [(4, .int (nI 3)), (3, .int (nI (n + 1))), (2, .int (nI 2)), (0, .ref r), (1, .int (nI 2))]) hx hb dX1_fillEnds_128 hl (k := 0) rfl (nI_1 _) (by decide) rfl (fun ls hl => ?_)
  refine lv_goto (tgt := 14) hx hb dX1_fillEnds_131 (by decide) ?_
  refine lv_iload hx hb dX1_fillEnds_14 (lv_at hl 0 rfl) ?_
  refine lv_iconst (v := nI 2) hx hb dX1_fillEnds_16 (by decide) ?_
  refine fz_icmp_gtN (tgt := 134) hx hb (by omega) (by omega) dX1_fillEnds_17 (by decide) (fun c17 => ?_) (fun c17 => absurd c17 (by decide))
  obtain ⟨hP, hD⟩ := fz_swapf (a := rd) (cD := cD) (n := 28) (g := fz_ends 2 false n dd) 1 rfl (fun i hi => by unfold fz_ends vf_upd; repeat (first | rfl | (split <;> try (subst_vars; simp_all) <;> try omega))) hP hD
  have hP : va_P D vwCl [(r, .inr (1, [.ref rd, .ref rm, .int (nI n)])), (rd, fz_da cD 28 (fz_ends 2 false n dd)), (rm, fz_da cD 28 (vf_upd (vf_upd (vf_upd (vf_upd mm 1 (mm 2)) (n + 2) ((vf_upd mm 1 (mm 2)) (n + 1))) 0 ((vf_upd (vf_upd mm 1 (mm 2)) (n + 2) ((vf_upd mm 1 (mm 2)) (n + 1))) 2)) (n + 3) ((vf_upd (vf_upd (vf_upd mm 1 (mm 2)) (n + 2) ((vf_upd mm 1 (mm 2)) (n + 1))) 0 ((vf_upd (vf_upd mm 1 (mm 2)) (n + 2) ((vf_upd mm 1 (mm 2)) (n + 1))) 2)) (n + 1))))] H := hP
  have hD : va_D A [(r, .inr (1, [.ref rd, .ref rm, .int (nI n)])), (rd, fz_da cD 28 (fz_ends 2 false n dd)), (rm, fz_da cD 28 (vf_upd (vf_upd (vf_upd (vf_upd mm 1 (mm 2)) (n + 2) ((vf_upd mm 1 (mm 2)) (n + 1))) 0 ((vf_upd (vf_upd mm 1 (mm 2)) (n + 2) ((vf_upd mm 1 (mm 2)) (n + 1))) 2)) (n + 3) ((vf_upd (vf_upd (vf_upd mm 1 (mm 2)) (n + 2) ((vf_upd mm 1 (mm 2)) (n + 1))) 0 ((vf_upd (vf_upd mm 1 (mm 2)) (n + 2) ((vf_upd mm 1 (mm 2)) (n + 1))) 2)) (n + 1))))] := hD
  obtain ⟨hP, hD⟩ := fz_swapf (a := rm) (cD := cD) (n := 28) (g := fz_ends 2 true n mm) 2 rfl (fun i hi => by unfold fz_ends vf_upd; repeat (first | rfl | (split <;> try (subst_vars; simp_all) <;> try omega))) hP hD
  have hP : va_P D vwCl [(r, .inr (1, [.ref rd, .ref rm, .int (nI n)])), (rd, fz_da cD 28 (fz_ends 2 false n dd)), (rm, fz_da cD 28 (fz_ends 2 true n mm))] H := hP
  have hD : va_D A [(r, .inr (1, [.ref rd, .ref rm, .int (nI n)])), (rd, fz_da cD 28 (fz_ends 2 false n dd)), (rm, fz_da cD 28 (fz_ends 2 true n mm))] := hD
  exact fz_vret hx hb hr hlocks (rfl) hP hK hD hS dX1_fillEnds_134

set_option maxHeartbeats 4000000 in
set_option maxRecDepth 100000 in
theorem c_X1_move (l : Launch) (D : va_G) (cD : ClassId) (r rd rm n : Nat) (dd mm : Nat → UInt64) (f s1 s2 f1 f2 lf rt : Nat) (FH FM : Nat → UInt64) (t : UInt64) (hn : n ≤ 24) (hH : fz_mvOk t dd FH n) (hM : fz_mvOk t mm FM n) : fz_C l D [(cD, .double)] yX1_move wsX1_move ({ frames := 0, cells := 0, slots := 0, locals := 0 }) [.ref r, .double t, .ref f] [(r, .inr (1, [.ref rd, .ref rm, .int (nI n)])), (rd, fz_da cD 28 dd), (rm, fz_da cD 28 mm), (f, .inr (0, [.ref s1, .ref s2, .ref f1, .ref f2, .ref lf, .ref rt])), (f1, fz_da cD 25 FH), (f2, fz_da cD 25 FM)] [(r, .inr (1, [.ref rd, .ref rm, .int (nI n)])), (rd, fz_da cD 28 (fz_pre 2 n (fz_mvG t dd FH) dd)), (rm, fz_da cD 28 (fz_pre 2 n (fz_mvG t mm FM) mm)), (f, .inr (0, [.ref s1, .ref s2, .ref f1, .ref f2, .ref lf, .ref rt])), (f1, fz_da cD 25 FH), (f2, fz_da cD 25 FM)] (none) := by
  refine fz_start (cc := cX1_move) (maxL := 6) (ret := none) (by decide) rfl (Nat.le_of_ble_eq_true rfl) ?_
  intro p e s m below meth c A hx hb hr hlocks hml hown hts hK hA hNW H locs hP hD hS ls hl
  have hl : lv_has ls 6 [(0, .ref r), (1, .double t), (3, .ref f)] := hl
  have hown : s.vm.findClass RX1 = some m.cls := hown
  have hw_fieldLink_RX1_18_FlowGrid_Row_size_I := hts (.fieldLink RX1 18 "FlowGrid$Row" "size" "I") (by decide +kernel)
  have hin_X1 : ∀ w ∈ u_ws RX1 TX1 3, w ∈ wsX1_move := by decide +kernel
  have hw_fieldLink_RX1_9_FlowGrid_Row_depths_D := hts (.fieldLink RX1 9 "FlowGrid$Row" "depths" "[D") (by decide +kernel)
  have hw_fieldLink_RX1_35_FlowGrid_Faces_depthFluxes_D := hts (.fieldLink RX1 35 "FlowGrid$Faces" "depthFluxes" "[D") (by decide +kernel)
  have hin_X0 : ∀ w ∈ u_ws RX0 TX0 6, w ∈ wsX1_move := by decide +kernel
  have hw_fieldLink_RX1_15_FlowGrid_Row_momenta_D := hts (.fieldLink RX1 15 "FlowGrid$Row" "momenta" "[D") (by decide +kernel)
  have hw_fieldLink_RX1_40_FlowGrid_Faces_momentumFluxes_D := hts (.fieldLink RX1 40 "FlowGrid$Faces" "momentumFluxes" "[D") (by decide +kernel)
  refine lv_iconst (v := nI 0) hx hb dX1_move_0 (by decide) ?_
  refine lv_istore (lv' := [(4, .int (nI 0)), (0, .ref r), (1, .double t), (3, .ref f)]) hx hb dX1_move_1 hl (by decide) rfl (fun ls hl => ?_)
  have loop3 : ∀ (it k : Nat), k ≤ n → n < k + it → ∀ (H : Heap) (locs : List Loc) (ls : Array Slot), va_P D vwCl [(r, .inr (1, [.ref rd, .ref rm, .int (nI n)])), (rd, fz_da cD 28 (fz_pre 2 k (fz_mvG t dd FH) dd)), (rm, fz_da cD 28 (fz_pre 2 k (fz_mvG t mm FM) mm)), (f, .inr (0, [.ref s1, .ref s2, .ref f1, .ref f2, .ref lf, .ref rt])), (f1, fz_da cD 25 FH), (f2, fz_da cD 25 FM)] H → va_D A [(r, .inr (1, [.ref rd, .ref rm, .int (nI n)])), (rd, fz_da cD 28 (fz_pre 2 k (fz_mvG t dd FH) dd)), (rm, fz_da cD 28 (fz_pre 2 k (fz_mvG t mm FM) mm)), (f, .inr (0, [.ref s1, .ref s2, .ref f1, .ref f2, .ref lf, .ref rt])), (f1, fz_da cD 25 FH), (f2, fz_da cD 25 FM)] → va_S A s.heap H locs → lv_has ls 6 [(0, .ref r), (1, .double t), (3, .ref f), (4, .int (nI k))] → W p l e ({ frames := 0, cells := 0, slots := 0, locals := 0 }) s m ([.ref r, .double t, .ref f] : List Value).toArray below meth c H locs 0 0 (MQ below (fz_O D [(cD, .double)] [(r, .inr (1, [.ref rd, .ref rm, .int (nI n)])), (rd, fz_da cD 28 (fz_pre 2 n (fz_mvG t dd FH) dd)), (rm, fz_da cD 28 (fz_pre 2 n (fz_mvG t mm FM) mm)), (f, .inr (0, [.ref s1, .ref s2, .ref f1, .ref f2, .ref lf, .ref rt])), (f1, fz_da cD 25 FH), (f2, fz_da cD 25 FM)] (none) A) ([.ref r, .double t, .ref f] : List Value).toArray s 0 0 A) (F0 m 3 ls []) := by
    intro it
    induction it with
    | zero => intro k h1 h2; exact absurd h2 (by omega)
    | succ it ih =>
      intro k hkk hnk H locs ls hP hD hS hl
      refine lv_iload hx hb dX1_move_3 (lv_at hl 3 rfl) ?_
      refine lv_aload_n hx hb dX1_move_5 rfl (lv_at hl 0 rfl) ?_
      refine va_get (D := D) (ci := 1) (v := .int (nI n)) (C := RX1) (T := TX1) (N := 3) hx hb hts hin_X1 hown hK hP 0 rfl rfl 2 (by decide) hw_fieldLink_RX1_18_FlowGrid_Row_size_I (fun _ h9 => h9) rfl dX1_move_6 ?_
      refine fz_icmp_geN (tgt := 92) hx hb (by omega) (by omega) dX1_move_9 (by decide) (fun c9 => ?_) (fun c9 => ?_)
      · have hkz : n = k := by omega
        subst hkz
        exact fz_vret hx hb hr hlocks (rfl) hP hK hD hS dX1_move_92
      · refine lv_iconst (v := nI 2) hx hb dX1_move_12 (by decide) ?_
        refine lv_iload hx hb dX1_move_13 (lv_at hl 3 rfl) ?_
        refine fz_iaddN hx hb dX1_move_15 ?_
        refine fz_topn (b := k + 2) (by omega) ?_
        refine lv_istore (lv' := [(5, .int (nI (k + 2))), (0, .ref r), (1, .double t), (3, .ref f), (4, .int (nI k))]) hx hb dX1_move_16 hl (by decide) rfl (fun ls hl => ?_)
        refine lv_aload_n hx hb dX1_move_18 rfl (lv_at hl 1 rfl) ?_
        refine va_get (D := D) (ci := 1) (v := .ref rd) (C := RX1) (T := TX1) (N := 3) hx hb hts hin_X1 hown hK hP 0 rfl rfl 0 (by decide) hw_fieldLink_RX1_9_FlowGrid_Row_depths_D (fun _ h9 => h9) rfl dX1_move_19 ?_
        refine lv_iload hx hb dX1_move_22 (lv_at hl 0 rfl) ?_
        refine lv_aload_n hx hb dX1_move_24 rfl (lv_at hl 1 rfl) ?_
        refine va_get (D := D) (ci := 1) (v := .ref rd) (C := RX1) (T := TX1) (N := 3) hx hb hts hin_X1 hown hK hP 0 rfl rfl 0 (by decide) hw_fieldLink_RX1_9_FlowGrid_Row_depths_D (fun _ h9 => h9) rfl dX1_move_25 ?_
        refine lv_iload hx hb dX1_move_28 (lv_at hl 0 rfl) ?_
        refine fz_dald (i := k + 2) hx hb hK hP 1 0 rfl rfl (by omega) (by decide) dX1_move_30 ?_
        rw [fz_pre_at (lo := 2) (k := k) (q := (k + 2)) _ _ (by omega)]
        refine lv_dload_n hx hb dX1_move_31 rfl (lv_at hl 2 rfl) ?_
        refine lv_aload_n hx hb dX1_move_32 rfl (lv_at hl 3 rfl) ?_
        refine va_get (D := D) (ci := 0) (v := .ref f1) (C := RX0) (T := TX0) (N := 6) hx hb hts hin_X0 hown hK hP 3 rfl rfl 2 (by decide) hw_fieldLink_RX1_35_FlowGrid_Faces_depthFluxes_D (fun _ h9 => h9) rfl dX1_move_33 ?_
        refine lv_iload hx hb dX1_move_36 (lv_at hl 4 rfl) ?_
        refine lv_iconst (v := nI 1) hx hb dX1_move_38 (by decide) ?_
        refine fz_iaddN hx hb dX1_move_39 ?_
        refine fz_topn (b := k + 1) (by omega) ?_
        refine fz_dald (i := k + 1) hx hb hK hP 4 0 rfl rfl (by omega) (by decide) dX1_move_40 ?_
        refine lv_aload_n hx hb dX1_move_41 rfl (lv_at hl 3 rfl) ?_
        refine va_get (D := D) (ci := 0) (v := .ref f1) (C := RX0) (T := TX0) (N := 6) hx hb hts hin_X0 hown hK hP 3 rfl rfl 2 (by decide) hw_fieldLink_RX1_35_FlowGrid_Faces_depthFluxes_D (fun _ h9 => h9) rfl dX1_move_42 ?_
        refine lv_iload hx hb dX1_move_45 (lv_at hl 4 rfl) ?_
        refine fz_dald (i := k) hx hb hK hP 4 0 rfl rfl (by omega) (by decide) dX1_move_47 ?_
        refine lv_dsub hx hb dX1_move_48 ((hH k (by omega)).1) ?_
        refine lv_dmul hx hb dX1_move_49 ((hH k (by omega)).2.1) ?_
        refine lv_dsub hx hb dX1_move_50 ((hH k (by omega)).2.2) ?_
        refine fz_dast (i := k + 2) hx hb hK hP hD hS 1 0 rfl rfl (by omega) (by decide) dX1_move_51 (fun H locs hP hD hS => ?_)
        have hP : va_P D vwCl [(r, .inr (1, [.ref rd, .ref rm, .int (nI n)])), (rd, fz_da cD 28 (vf_upd (fz_pre 2 k (fz_mvG t dd FH) dd) (k + 2) (FP.dsub (dd (k + 2)) (FP.dmul t (FP.dsub (FH (k + 1)) (FH k)))))), (rm, fz_da cD 28 (fz_pre 2 k (fz_mvG t mm FM) mm)), (f, .inr (0, [.ref s1, .ref s2, .ref f1, .ref f2, .ref lf, .ref rt])), (f1, fz_da cD 25 FH), (f2, fz_da cD 25 FM)] H := hP
        have hD : va_D A [(r, .inr (1, [.ref rd, .ref rm, .int (nI n)])), (rd, fz_da cD 28 (vf_upd (fz_pre 2 k (fz_mvG t dd FH) dd) (k + 2) (FP.dsub (dd (k + 2)) (FP.dmul t (FP.dsub (FH (k + 1)) (FH k)))))), (rm, fz_da cD 28 (fz_pre 2 k (fz_mvG t mm FM) mm)), (f, .inr (0, [.ref s1, .ref s2, .ref f1, .ref f2, .ref lf, .ref rt])), (f1, fz_da cD 25 FH), (f2, fz_da cD 25 FM)] := hD
        have hP : va_P D vwCl [(r, .inr (1, [.ref rd, .ref rm, .int (nI n)])), (rd, fz_da cD 28 (fz_pre 2 (k + 1) (fz_mvG t dd FH) dd)), (rm, fz_da cD 28 (fz_pre 2 k (fz_mvG t mm FM) mm)), (f, .inr (0, [.ref s1, .ref s2, .ref f1, .ref f2, .ref lf, .ref rt])), (f1, fz_da cD 25 FH), (f2, fz_da cD 25 FM)] H := by rw [← fz_pre_s 2 k (fz_mvG t dd FH) dd]; exact hP
        have hD : va_D A [(r, .inr (1, [.ref rd, .ref rm, .int (nI n)])), (rd, fz_da cD 28 (fz_pre 2 (k + 1) (fz_mvG t dd FH) dd)), (rm, fz_da cD 28 (fz_pre 2 k (fz_mvG t mm FM) mm)), (f, .inr (0, [.ref s1, .ref s2, .ref f1, .ref f2, .ref lf, .ref rt])), (f1, fz_da cD 25 FH), (f2, fz_da cD 25 FM)] := by rw [← fz_pre_s 2 k (fz_mvG t dd FH) dd]; exact hD
        refine lv_aload_n hx hb dX1_move_52 rfl (lv_at hl 1 rfl) ?_
        refine va_get (D := D) (ci := 1) (v := .ref rm) (C := RX1) (T := TX1) (N := 3) hx hb hts hin_X1 hown hK hP 0 rfl rfl 1 (by decide) hw_fieldLink_RX1_15_FlowGrid_Row_momenta_D (fun _ h9 => h9) rfl dX1_move_53 ?_
        refine lv_iload hx hb dX1_move_56 (lv_at hl 0 rfl) ?_
        refine lv_aload_n hx hb dX1_move_58 rfl (lv_at hl 1 rfl) ?_
        refine va_get (D := D) (ci := 1) (v := .ref rm) (C := RX1) (T := TX1) (N := 3) hx hb hts hin_X1 hown hK hP 0 rfl rfl 1 (by decide) hw_fieldLink_RX1_15_FlowGrid_Row_momenta_D (fun _ h9 => h9) rfl dX1_move_59 ?_
        refine lv_iload hx hb dX1_move_62 (lv_at hl 0 rfl) ?_
        refine fz_dald (i := k + 2) hx hb hK hP 2 0 rfl rfl (by omega) (by decide) dX1_move_64 ?_
        rw [fz_pre_at (lo := 2) (k := k) (q := (k + 2)) _ _ (by omega)]
        refine lv_dload_n hx hb dX1_move_65 rfl (lv_at hl 2 rfl) ?_
        refine lv_aload_n hx hb dX1_move_66 rfl (lv_at hl 3 rfl) ?_
        refine va_get (D := D) (ci := 0) (v := .ref f2) (C := RX0) (T := TX0) (N := 6) hx hb hts hin_X0 hown hK hP 3 rfl rfl 3 (by decide) hw_fieldLink_RX1_40_FlowGrid_Faces_momentumFluxes_D (fun _ h9 => h9) rfl dX1_move_67 ?_
        refine lv_iload hx hb dX1_move_70 (lv_at hl 4 rfl) ?_
        refine lv_iconst (v := nI 1) hx hb dX1_move_72 (by decide) ?_
        refine fz_iaddN hx hb dX1_move_73 ?_
        refine fz_topn (b := k + 1) (by omega) ?_
        refine fz_dald (i := k + 1) hx hb hK hP 5 0 rfl rfl (by omega) (by decide) dX1_move_74 ?_
        refine lv_aload_n hx hb dX1_move_75 rfl (lv_at hl 3 rfl) ?_
        refine va_get (D := D) (ci := 0) (v := .ref f2) (C := RX0) (T := TX0) (N := 6) hx hb hts hin_X0 hown hK hP 3 rfl rfl 3 (by decide) hw_fieldLink_RX1_40_FlowGrid_Faces_momentumFluxes_D (fun _ h9 => h9) rfl dX1_move_76 ?_
        refine lv_iload hx hb dX1_move_79 (lv_at hl 4 rfl) ?_
        refine fz_dald (i := k) hx hb hK hP 5 0 rfl rfl (by omega) (by decide) dX1_move_81 ?_
        refine lv_dsub hx hb dX1_move_82 ((hM k (by omega)).1) ?_
        refine lv_dmul hx hb dX1_move_83 ((hM k (by omega)).2.1) ?_
        refine lv_dsub hx hb dX1_move_84 ((hM k (by omega)).2.2) ?_
        refine fz_dast (i := k + 2) hx hb hK hP hD hS 2 0 rfl rfl (by omega) (by decide) dX1_move_85 (fun H locs hP hD hS => ?_)
        have hP : va_P D vwCl [(r, .inr (1, [.ref rd, .ref rm, .int (nI n)])), (rd, fz_da cD 28 (fz_pre 2 (k + 1) (fz_mvG t dd FH) dd)), (rm, fz_da cD 28 (vf_upd (fz_pre 2 k (fz_mvG t mm FM) mm) (k + 2) (FP.dsub (mm (k + 2)) (FP.dmul t (FP.dsub (FM (k + 1)) (FM k)))))), (f, .inr (0, [.ref s1, .ref s2, .ref f1, .ref f2, .ref lf, .ref rt])), (f1, fz_da cD 25 FH), (f2, fz_da cD 25 FM)] H := hP
        have hD : va_D A [(r, .inr (1, [.ref rd, .ref rm, .int (nI n)])), (rd, fz_da cD 28 (fz_pre 2 (k + 1) (fz_mvG t dd FH) dd)), (rm, fz_da cD 28 (vf_upd (fz_pre 2 k (fz_mvG t mm FM) mm) (k + 2) (FP.dsub (mm (k + 2)) (FP.dmul t (FP.dsub (FM (k + 1)) (FM k)))))), (f, .inr (0, [.ref s1, .ref s2, .ref f1, .ref f2, .ref lf, .ref rt])), (f1, fz_da cD 25 FH), (f2, fz_da cD 25 FM)] := hD
        have hP : va_P D vwCl [(r, .inr (1, [.ref rd, .ref rm, .int (nI n)])), (rd, fz_da cD 28 (fz_pre 2 (k + 1) (fz_mvG t dd FH) dd)), (rm, fz_da cD 28 (fz_pre 2 (k + 1) (fz_mvG t mm FM) mm)), (f, .inr (0, [.ref s1, .ref s2, .ref f1, .ref f2, .ref lf, .ref rt])), (f1, fz_da cD 25 FH), (f2, fz_da cD 25 FM)] H := by rw [← fz_pre_s 2 k (fz_mvG t mm FM) mm]; exact hP
        have hD : va_D A [(r, .inr (1, [.ref rd, .ref rm, .int (nI n)])), (rd, fz_da cD 28 (fz_pre 2 (k + 1) (fz_mvG t dd FH) dd)), (rm, fz_da cD 28 (fz_pre 2 (k + 1) (fz_mvG t mm FM) mm)), (f, .inr (0, [.ref s1, .ref s2, .ref f1, .ref f2, .ref lf, .ref rt])), (f1, fz_da cD 25 FH), (f2, fz_da cD 25 FM)] := by rw [← fz_pre_s 2 k (fz_mvG t mm FM) mm]; exact hD
        refine lv_iinc (v := nI (k + 1)) (lv' := [(4, .int (nI (k + 1))), (5, .int (nI (k + 2))), (0, .ref r), (1, .double t), (3, .ref f)]) hx hb dX1_move_86 hl (k := 4) rfl (nI_1 _) (by decide) rfl (fun ls hl => ?_)
        refine lv_goto (tgt := 3) hx hb dX1_move_89 (by decide) ?_
        exact ih (k + 1) (by omega) (by omega) H locs ls (hP) (hD) hS (lv_sub hl [2, 3, 4, 0] rfl)
  exact loop3 (n + 1) 0 (by omega) (by omega) H locs ls (by rw [fz_pre_0, fz_pre_0]; exact hP) (by rw [fz_pre_0, fz_pre_0]; exact hD) hS (lv_sub hl [1, 2, 3, 0] rfl)

set_option maxHeartbeats 4000000 in
set_option maxRecDepth 100000 in
theorem c_X1_hasFailed (l : Launch) (D : va_G) (cD : ClassId) (r rd rm n : Nat) (dd mm : Nat → UInt64) (hn : n ≤ 24) : fz_C l D [(cD, .double)] yX1_hasFailed wsX1_hasFailed ({ frames := 0, cells := 0, slots := 0, locals := 0 }) [.ref r] [(r, .inr (1, [.ref rd, .ref rm, .int (nI n)])), (rd, fz_da cD 28 dd), (rm, fz_da cD 28 mm)] [(r, .inr (1, [.ref rd, .ref rm, .int (nI n)])), (rd, fz_da cD 28 dd), (rm, fz_da cD 28 mm)] (some (.int (fz_b (fz_anyBad dd mm n)))) := by
  refine fz_start (cc := cX1_hasFailed) (maxL := 2) (ret := (some .boolean)) (by decide) rfl (Nat.le_of_ble_eq_true rfl) ?_
  intro p e s m below meth c A hx hb hr hlocks hml hown hts hK hA hNW H locs hP hD hS ls hl
  have hl : lv_has ls 2 [(0, .ref r)] := hl
  have hown : s.vm.findClass RX1 = some m.cls := hown
  have hw_fieldLink_RX1_18_FlowGrid_Row_size_I := hts (.fieldLink RX1 18 "FlowGrid$Row" "size" "I") (by decide +kernel)
  have hin_X1 : ∀ w ∈ u_ws RX1 TX1 3, w ∈ wsX1_hasFailed := by decide +kernel
  have hw_fieldLink_RX1_9_FlowGrid_Row_depths_D := hts (.fieldLink RX1 9 "FlowGrid$Row" "depths" "[D") (by decide +kernel)
  have hw_constantDouble_RX1_43_4576918229304087675 := hts (.constantDouble RX1 43 (4576918229304087675)) (by decide +kernel)
  have hw_fieldLink_RX1_15_FlowGrid_Row_momenta_D := hts (.fieldLink RX1 15 "FlowGrid$Row" "momenta" "[D") (by decide +kernel)
  have hw_constantDouble_RX1_45_4652007308841189376 := hts (.constantDouble RX1 45 (4652007308841189376)) (by decide +kernel)
  have hw_constantDouble_RX1_47_13875379345695965184 := hts (.constantDouble RX1 47 (13875379345695965184)) (by decide +kernel)
  refine lv_iconst (v := nI 2) hx hb dX1_hasFailed_0 (by decide) ?_
  refine lv_istore_n (lv' := [(1, .int (nI 2)), (0, .ref r)]) hx hb dX1_hasFailed_1 rfl hl (by decide) rfl (fun ls hl => ?_)
  have loop2 : ∀ (it k : Nat), k ≤ n → n < k + it → fz_anyBad dd mm k = false → ∀ (H : Heap) (locs : List Loc) (ls : Array Slot), va_P D vwCl [(r, .inr (1, [.ref rd, .ref rm, .int (nI n)])), (rd, fz_da cD 28 dd), (rm, fz_da cD 28 mm)] H → va_D A [(r, .inr (1, [.ref rd, .ref rm, .int (nI n)])), (rd, fz_da cD 28 dd), (rm, fz_da cD 28 mm)] → va_S A s.heap H locs → lv_has ls 2 [(0, .ref r), (1, .int (nI (k + 2)))] → W p l e ({ frames := 0, cells := 0, slots := 0, locals := 0 }) s m ([.ref r] : List Value).toArray below meth c H locs 0 0 (MQ below (fz_O D [(cD, .double)] [(r, .inr (1, [.ref rd, .ref rm, .int (nI n)])), (rd, fz_da cD 28 dd), (rm, fz_da cD 28 mm)] (some (.int (fz_b (fz_anyBad dd mm n)))) A) ([.ref r] : List Value).toArray s 0 0 A) (F0 m 2 ls []) := by
    intro it
    induction it with
    | zero => intro k h1 h2; exact absurd h2 (by omega)
    | succ it ih =>
      intro k hkk hnk hb0 H locs ls hP hD hS hl
      refine lv_iload_n hx hb dX1_hasFailed_2 rfl (lv_at hl 1 rfl) ?_
      refine lv_iconst (v := nI 2) hx hb dX1_hasFailed_3 (by decide) ?_
      refine lv_aload_n hx hb dX1_hasFailed_4 rfl (lv_at hl 0 rfl) ?_
      refine va_get (D := D) (ci := 1) (v := .int (nI n)) (C := RX1) (T := TX1) (N := 3) hx hb hts hin_X1 hown hK hP 0 rfl rfl 2 (by decide) hw_fieldLink_RX1_18_FlowGrid_Row_size_I (fun _ h9 => h9) rfl dX1_hasFailed_5 ?_
      refine fz_iaddN hx hb dX1_hasFailed_8 ?_
      refine fz_topn (b := n + 2) (by omega) ?_
      refine fz_icmp_geN (tgt := 59) hx hb (by omega) (by omega) dX1_hasFailed_9 (by decide) (fun c9 => ?_) (fun c9 => ?_)
      · refine lv_iconst (v := nI 0) hx hb dX1_hasFailed_59 (by decide) ?_
        have hkz : n = k := by omega
        subst hkz
        exact fz_zret hx hb hr hlocks rfl (by rw [hb0]; rfl) hP hK hD hS dX1_hasFailed_60
      · refine lv_aload_n hx hb dX1_hasFailed_12 rfl (lv_at hl 0 rfl) ?_
        refine va_get (D := D) (ci := 1) (v := .ref rd) (C := RX1) (T := TX1) (N := 3) hx hb hts hin_X1 hown hK hP 0 rfl rfl 0 (by decide) hw_fieldLink_RX1_9_FlowGrid_Row_depths_D (fun _ h9 => h9) rfl dX1_hasFailed_13 ?_
        refine lv_iload_n hx hb dX1_hasFailed_16 rfl (lv_at hl 1 rfl) ?_
        refine fz_dald (i := k + 2) hx hb hK hP 1 0 rfl rfl (by omega) (by decide) dX1_hasFailed_17 ?_
        refine lv_ldc2d hx hb hown hw_constantDouble_RX1_43_4576918229304087675 dX1_hasFailed_18 ?_
        refine fz_dg_lt (tgt := 51) hx hb dX1_hasFailed_21 dX1_hasFailed_22 (by decide) (fun c21 => ?_) (fun c21 => ?_)
        · refine lv_iconst (v := nI 1) hx hb dX1_hasFailed_51 (by decide) ?_
          exact fz_zret hx hb hr hlocks rfl (by rw [fz_anyBad_of (k := k) (by omega) (by simp [fz_bad, c21])]; rfl) hP hK hD hS dX1_hasFailed_52
        · refine lv_aload_n hx hb dX1_hasFailed_25 rfl (lv_at hl 0 rfl) ?_
          refine va_get (D := D) (ci := 1) (v := .ref rm) (C := RX1) (T := TX1) (N := 3) hx hb hts hin_X1 hown hK hP 0 rfl rfl 1 (by decide) hw_fieldLink_RX1_15_FlowGrid_Row_momenta_D (fun _ h9 => h9) rfl dX1_hasFailed_26 ?_
          refine lv_iload_n hx hb dX1_hasFailed_29 rfl (lv_at hl 1 rfl) ?_
          refine fz_dald (i := k + 2) hx hb hK hP 2 0 rfl rfl (by omega) (by decide) dX1_hasFailed_30 ?_
          refine lv_ldc2d hx hb hown hw_constantDouble_RX1_45_4652007308841189376 dX1_hasFailed_31 ?_
          refine fz_dl_gt (tgt := 51) hx hb dX1_hasFailed_34 dX1_hasFailed_35 (by decide) (fun c34 => ?_) (fun c34 => ?_)
          · refine lv_iconst (v := nI 1) hx hb dX1_hasFailed_51 (by decide) ?_
            exact fz_zret hx hb hr hlocks rfl (by rw [fz_anyBad_of (k := k) (by omega) (by simp [fz_bad, c21, c34])]; rfl) hP hK hD hS dX1_hasFailed_52
          · refine lv_aload_n hx hb dX1_hasFailed_38 rfl (lv_at hl 0 rfl) ?_
            refine va_get (D := D) (ci := 1) (v := .ref rm) (C := RX1) (T := TX1) (N := 3) hx hb hts hin_X1 hown hK hP 0 rfl rfl 1 (by decide) hw_fieldLink_RX1_15_FlowGrid_Row_momenta_D (fun _ h9 => h9) rfl dX1_hasFailed_39 ?_
            refine lv_iload_n hx hb dX1_hasFailed_42 rfl (lv_at hl 1 rfl) ?_
            refine fz_dald (i := k + 2) hx hb hK hP 2 0 rfl rfl (by omega) (by decide) dX1_hasFailed_43 ?_
            refine lv_ldc2d hx hb hown hw_constantDouble_RX1_47_13875379345695965184 dX1_hasFailed_44 ?_
            refine fz_dg_ge (tgt := 53) hx hb dX1_hasFailed_47 dX1_hasFailed_48 (by decide) (fun c47 => ?_) (fun c47 => ?_)
            · refine lv_iinc (v := nI (k + 3)) (lv' := [(1, .int (nI (k + 3))), (0, .ref r)]) hx hb dX1_hasFailed_53 hl (k := 1) rfl (nI_1 _) (by decide) rfl (fun ls hl => ?_)
              refine lv_goto (tgt := 2) hx hb dX1_hasFailed_56 (by decide) ?_
              exact ih (k + 1) (by omega) (by omega) (by unfold fz_anyBad; rw [hb0]; simp [fz_bad, c21, c34, c47]) H locs ls (hP) (hD) hS (lv_sub hl [1, 0] rfl)
            · refine lv_iconst (v := nI 1) hx hb dX1_hasFailed_51 (by decide) ?_
              exact fz_zret hx hb hr hlocks rfl (by rw [fz_anyBad_of (k := k) (by omega) (by simp [fz_bad, c21, c34, c47])]; rfl) hP hK hD hS dX1_hasFailed_52
  exact loop2 (n + 1) 0 (by omega) (by omega) rfl H locs ls (hP) (hD) hS (lv_sub hl [1, 0] rfl)

set_option maxHeartbeats 4000000 in
set_option maxRecDepth 100000 in
theorem c_X1_meet (l : Launch) (D : va_G) (cD : ClassId) (r rd rm n : Nat) (dd mm : Nat → UInt64) (q qd qm n2 : Nat) (ee ff : Nat → UInt64) (hn : n ≤ 24) (hH : fz_mtOk ee dd n) (hM : fz_mtOk ff mm n) : fz_C l D [(cD, .double)] yX1_meet wsX1_meet ({ frames := 0, cells := 0, slots := 0, locals := 0 }) [.ref r, .ref q] [(r, .inr (1, [.ref rd, .ref rm, .int (nI n)])), (rd, fz_da cD 28 dd), (rm, fz_da cD 28 mm), (q, .inr (1, [.ref qd, .ref qm, .int (nI n2)])), (qd, fz_da cD 28 ee), (qm, fz_da cD 28 ff)] [(r, .inr (1, [.ref rd, .ref rm, .int (nI n)])), (rd, fz_da cD 28 (fz_pre 2 n (fz_mtG ee dd) dd)), (rm, fz_da cD 28 (fz_pre 2 n (fz_mtG ff mm) mm)), (q, .inr (1, [.ref qd, .ref qm, .int (nI n2)])), (qd, fz_da cD 28 ee), (qm, fz_da cD 28 ff)] (none) := by
  refine fz_start (cc := cX1_meet) (maxL := 3) (ret := none) (by decide) rfl (Nat.le_of_ble_eq_true rfl) ?_
  intro p e s m below meth c A hx hb hr hlocks hml hown hts hK hA hNW H locs hP hD hS ls hl
  have hl : lv_has ls 3 [(0, .ref r), (1, .ref q)] := hl
  have hown : s.vm.findClass RX1 = some m.cls := hown
  have hw_fieldLink_RX1_18_FlowGrid_Row_size_I := hts (.fieldLink RX1 18 "FlowGrid$Row" "size" "I") (by decide +kernel)
  have hin_X1 : ∀ w ∈ u_ws RX1 TX1 3, w ∈ wsX1_meet := by decide +kernel
  have hw_fieldLink_RX1_9_FlowGrid_Row_depths_D := hts (.fieldLink RX1 9 "FlowGrid$Row" "depths" "[D") (by decide +kernel)
  have hw_constantDouble_RX1_49_4602678819172646912 := hts (.constantDouble RX1 49 (4602678819172646912)) (by decide +kernel)
  have hw_fieldLink_RX1_15_FlowGrid_Row_momenta_D := hts (.fieldLink RX1 15 "FlowGrid$Row" "momenta" "[D") (by decide +kernel)
  refine lv_iconst (v := nI 2) hx hb dX1_meet_0 (by decide) ?_
  refine lv_istore_n (lv' := [(2, .int (nI 2)), (0, .ref r), (1, .ref q)]) hx hb dX1_meet_1 rfl hl (by decide) rfl (fun ls hl => ?_)
  have loop2 : ∀ (it k : Nat), k ≤ n → n < k + it → ∀ (H : Heap) (locs : List Loc) (ls : Array Slot), va_P D vwCl [(r, .inr (1, [.ref rd, .ref rm, .int (nI n)])), (rd, fz_da cD 28 (fz_pre 2 k (fz_mtG ee dd) dd)), (rm, fz_da cD 28 (fz_pre 2 k (fz_mtG ff mm) mm)), (q, .inr (1, [.ref qd, .ref qm, .int (nI n2)])), (qd, fz_da cD 28 ee), (qm, fz_da cD 28 ff)] H → va_D A [(r, .inr (1, [.ref rd, .ref rm, .int (nI n)])), (rd, fz_da cD 28 (fz_pre 2 k (fz_mtG ee dd) dd)), (rm, fz_da cD 28 (fz_pre 2 k (fz_mtG ff mm) mm)), (q, .inr (1, [.ref qd, .ref qm, .int (nI n2)])), (qd, fz_da cD 28 ee), (qm, fz_da cD 28 ff)] → va_S A s.heap H locs → lv_has ls 3 [(0, .ref r), (1, .ref q), (2, .int (nI (k + 2)))] → W p l e ({ frames := 0, cells := 0, slots := 0, locals := 0 }) s m ([.ref r, .ref q] : List Value).toArray below meth c H locs 0 0 (MQ below (fz_O D [(cD, .double)] [(r, .inr (1, [.ref rd, .ref rm, .int (nI n)])), (rd, fz_da cD 28 (fz_pre 2 n (fz_mtG ee dd) dd)), (rm, fz_da cD 28 (fz_pre 2 n (fz_mtG ff mm) mm)), (q, .inr (1, [.ref qd, .ref qm, .int (nI n2)])), (qd, fz_da cD 28 ee), (qm, fz_da cD 28 ff)] (none) A) ([.ref r, .ref q] : List Value).toArray s 0 0 A) (F0 m 2 ls []) := by
    intro it
    induction it with
    | zero => intro k h1 h2; exact absurd h2 (by omega)
    | succ it ih =>
      intro k hkk hnk H locs ls hP hD hS hl
      refine lv_iload_n hx hb dX1_meet_2 rfl (lv_at hl 2 rfl) ?_
      refine lv_iconst (v := nI 2) hx hb dX1_meet_3 (by decide) ?_
      refine lv_aload_n hx hb dX1_meet_4 rfl (lv_at hl 0 rfl) ?_
      refine va_get (D := D) (ci := 1) (v := .int (nI n)) (C := RX1) (T := TX1) (N := 3) hx hb hts hin_X1 hown hK hP 0 rfl rfl 2 (by decide) hw_fieldLink_RX1_18_FlowGrid_Row_size_I (fun _ h9 => h9) rfl dX1_meet_5 ?_
      refine fz_iaddN hx hb dX1_meet_8 ?_
      refine fz_topn (b := n + 2) (by omega) ?_
      refine fz_icmp_geN (tgt := 64) hx hb (by omega) (by omega) dX1_meet_9 (by decide) (fun c9 => ?_) (fun c9 => ?_)
      · have hkz : n = k := by omega
        subst hkz
        exact fz_vret hx hb hr hlocks (rfl) hP hK hD hS dX1_meet_64
      · refine lv_aload_n hx hb dX1_meet_12 rfl (lv_at hl 0 rfl) ?_
        refine va_get (D := D) (ci := 1) (v := .ref rd) (C := RX1) (T := TX1) (N := 3) hx hb hts hin_X1 hown hK hP 0 rfl rfl 0 (by decide) hw_fieldLink_RX1_9_FlowGrid_Row_depths_D (fun _ h9 => h9) rfl dX1_meet_13 ?_
        refine lv_iload_n hx hb dX1_meet_16 rfl (lv_at hl 2 rfl) ?_
        refine lv_ldc2d hx hb hown hw_constantDouble_RX1_49_4602678819172646912 dX1_meet_17 ?_
        refine lv_aload_n hx hb dX1_meet_20 rfl (lv_at hl 1 rfl) ?_
        refine va_get (D := D) (ci := 1) (v := .ref qd) (C := RX1) (T := TX1) (N := 3) hx hb hts hin_X1 hown hK hP 3 rfl rfl 0 (by decide) hw_fieldLink_RX1_9_FlowGrid_Row_depths_D (fun _ h9 => h9) rfl dX1_meet_21 ?_
        refine lv_iload_n hx hb dX1_meet_24 rfl (lv_at hl 2 rfl) ?_
        refine fz_dald (i := k + 2) hx hb hK hP 4 0 rfl rfl (by omega) (by decide) dX1_meet_25 ?_
        refine lv_aload_n hx hb dX1_meet_26 rfl (lv_at hl 0 rfl) ?_
        refine va_get (D := D) (ci := 1) (v := .ref rd) (C := RX1) (T := TX1) (N := 3) hx hb hts hin_X1 hown hK hP 0 rfl rfl 0 (by decide) hw_fieldLink_RX1_9_FlowGrid_Row_depths_D (fun _ h9 => h9) rfl dX1_meet_27 ?_
        refine lv_iload_n hx hb dX1_meet_30 rfl (lv_at hl 2 rfl) ?_
        refine fz_dald (i := k + 2) hx hb hK hP 1 0 rfl rfl (by omega) (by decide) dX1_meet_31 ?_
        rw [fz_pre_at (lo := 2) (k := k) (q := (k + 2)) _ _ (by omega)]
        refine lv_dadd hx hb dX1_meet_32 ((hH k (by omega)).1) ?_
        refine lv_dmul hx hb dX1_meet_33 ((hH k (by omega)).2) ?_
        refine fz_dast (i := k + 2) hx hb hK hP hD hS 1 0 rfl rfl (by omega) (by decide) dX1_meet_34 (fun H locs hP hD hS => ?_)
        have hP : va_P D vwCl [(r, .inr (1, [.ref rd, .ref rm, .int (nI n)])), (rd, fz_da cD 28 (vf_upd (fz_pre 2 k (fz_mtG ee dd) dd) (k + 2) (FP.dmul 4602678819172646912 (FP.dadd (ee (k + 2)) (dd (k + 2)))))), (rm, fz_da cD 28 (fz_pre 2 k (fz_mtG ff mm) mm)), (q, .inr (1, [.ref qd, .ref qm, .int (nI n2)])), (qd, fz_da cD 28 ee), (qm, fz_da cD 28 ff)] H := hP
        have hD : va_D A [(r, .inr (1, [.ref rd, .ref rm, .int (nI n)])), (rd, fz_da cD 28 (vf_upd (fz_pre 2 k (fz_mtG ee dd) dd) (k + 2) (FP.dmul 4602678819172646912 (FP.dadd (ee (k + 2)) (dd (k + 2)))))), (rm, fz_da cD 28 (fz_pre 2 k (fz_mtG ff mm) mm)), (q, .inr (1, [.ref qd, .ref qm, .int (nI n2)])), (qd, fz_da cD 28 ee), (qm, fz_da cD 28 ff)] := hD
        have hP : va_P D vwCl [(r, .inr (1, [.ref rd, .ref rm, .int (nI n)])), (rd, fz_da cD 28 (fz_pre 2 (k + 1) (fz_mtG ee dd) dd)), (rm, fz_da cD 28 (fz_pre 2 k (fz_mtG ff mm) mm)), (q, .inr (1, [.ref qd, .ref qm, .int (nI n2)])), (qd, fz_da cD 28 ee), (qm, fz_da cD 28 ff)] H := by rw [← fz_pre_s 2 k (fz_mtG ee dd) dd]; exact hP
        have hD : va_D A [(r, .inr (1, [.ref rd, .ref rm, .int (nI n)])), (rd, fz_da cD 28 (fz_pre 2 (k + 1) (fz_mtG ee dd) dd)), (rm, fz_da cD 28 (fz_pre 2 k (fz_mtG ff mm) mm)), (q, .inr (1, [.ref qd, .ref qm, .int (nI n2)])), (qd, fz_da cD 28 ee), (qm, fz_da cD 28 ff)] := by rw [← fz_pre_s 2 k (fz_mtG ee dd) dd]; exact hD
        refine lv_aload_n hx hb dX1_meet_35 rfl (lv_at hl 0 rfl) ?_
        refine va_get (D := D) (ci := 1) (v := .ref rm) (C := RX1) (T := TX1) (N := 3) hx hb hts hin_X1 hown hK hP 0 rfl rfl 1 (by decide) hw_fieldLink_RX1_15_FlowGrid_Row_momenta_D (fun _ h9 => h9) rfl dX1_meet_36 ?_
        refine lv_iload_n hx hb dX1_meet_39 rfl (lv_at hl 2 rfl) ?_
        refine lv_ldc2d hx hb hown hw_constantDouble_RX1_49_4602678819172646912 dX1_meet_40 ?_
        refine lv_aload_n hx hb dX1_meet_43 rfl (lv_at hl 1 rfl) ?_
        refine va_get (D := D) (ci := 1) (v := .ref qm) (C := RX1) (T := TX1) (N := 3) hx hb hts hin_X1 hown hK hP 3 rfl rfl 1 (by decide) hw_fieldLink_RX1_15_FlowGrid_Row_momenta_D (fun _ h9 => h9) rfl dX1_meet_44 ?_
        refine lv_iload_n hx hb dX1_meet_47 rfl (lv_at hl 2 rfl) ?_
        refine fz_dald (i := k + 2) hx hb hK hP 5 0 rfl rfl (by omega) (by decide) dX1_meet_48 ?_
        refine lv_aload_n hx hb dX1_meet_49 rfl (lv_at hl 0 rfl) ?_
        refine va_get (D := D) (ci := 1) (v := .ref rm) (C := RX1) (T := TX1) (N := 3) hx hb hts hin_X1 hown hK hP 0 rfl rfl 1 (by decide) hw_fieldLink_RX1_15_FlowGrid_Row_momenta_D (fun _ h9 => h9) rfl dX1_meet_50 ?_
        refine lv_iload_n hx hb dX1_meet_53 rfl (lv_at hl 2 rfl) ?_
        refine fz_dald (i := k + 2) hx hb hK hP 2 0 rfl rfl (by omega) (by decide) dX1_meet_54 ?_
        rw [fz_pre_at (lo := 2) (k := k) (q := (k + 2)) _ _ (by omega)]
        refine lv_dadd hx hb dX1_meet_55 ((hM k (by omega)).1) ?_
        refine lv_dmul hx hb dX1_meet_56 ((hM k (by omega)).2) ?_
        refine fz_dast (i := k + 2) hx hb hK hP hD hS 2 0 rfl rfl (by omega) (by decide) dX1_meet_57 (fun H locs hP hD hS => ?_)
        have hP : va_P D vwCl [(r, .inr (1, [.ref rd, .ref rm, .int (nI n)])), (rd, fz_da cD 28 (fz_pre 2 (k + 1) (fz_mtG ee dd) dd)), (rm, fz_da cD 28 (vf_upd (fz_pre 2 k (fz_mtG ff mm) mm) (k + 2) (FP.dmul 4602678819172646912 (FP.dadd (ff (k + 2)) (mm (k + 2)))))), (q, .inr (1, [.ref qd, .ref qm, .int (nI n2)])), (qd, fz_da cD 28 ee), (qm, fz_da cD 28 ff)] H := hP
        have hD : va_D A [(r, .inr (1, [.ref rd, .ref rm, .int (nI n)])), (rd, fz_da cD 28 (fz_pre 2 (k + 1) (fz_mtG ee dd) dd)), (rm, fz_da cD 28 (vf_upd (fz_pre 2 k (fz_mtG ff mm) mm) (k + 2) (FP.dmul 4602678819172646912 (FP.dadd (ff (k + 2)) (mm (k + 2)))))), (q, .inr (1, [.ref qd, .ref qm, .int (nI n2)])), (qd, fz_da cD 28 ee), (qm, fz_da cD 28 ff)] := hD
        have hP : va_P D vwCl [(r, .inr (1, [.ref rd, .ref rm, .int (nI n)])), (rd, fz_da cD 28 (fz_pre 2 (k + 1) (fz_mtG ee dd) dd)), (rm, fz_da cD 28 (fz_pre 2 (k + 1) (fz_mtG ff mm) mm)), (q, .inr (1, [.ref qd, .ref qm, .int (nI n2)])), (qd, fz_da cD 28 ee), (qm, fz_da cD 28 ff)] H := by rw [← fz_pre_s 2 k (fz_mtG ff mm) mm]; exact hP
        have hD : va_D A [(r, .inr (1, [.ref rd, .ref rm, .int (nI n)])), (rd, fz_da cD 28 (fz_pre 2 (k + 1) (fz_mtG ee dd) dd)), (rm, fz_da cD 28 (fz_pre 2 (k + 1) (fz_mtG ff mm) mm)), (q, .inr (1, [.ref qd, .ref qm, .int (nI n2)])), (qd, fz_da cD 28 ee), (qm, fz_da cD 28 ff)] := by rw [← fz_pre_s 2 k (fz_mtG ff mm) mm]; exact hD
        refine lv_iinc (v := nI (k + 3)) (lv' := [(2, .int (nI (k + 3))), (0, .ref r), (1, .ref q)]) hx hb dX1_meet_58 hl (k := 2) rfl (nI_1 _) (by decide) rfl (fun ls hl => ?_)
        refine lv_goto (tgt := 2) hx hb dX1_meet_61 (by decide) ?_
        exact ih (k + 1) (by omega) (by omega) H locs ls (hP) (hD) hS (lv_sub hl [1, 2, 0] rfl)
  exact loop2 (n + 1) 0 (by omega) (by omega) H locs ls (by rw [fz_pre_0, fz_pre_0]; exact hP) (by rw [fz_pre_0, fz_pre_0]; exact hD) hS (lv_sub hl [1, 2, 0] rfl)

set_option maxHeartbeats 4000000 in
set_option maxRecDepth 100000 in
theorem c_X1_longestTime (l : Launch) (D : va_G) (cD : ClassId) (r rd rm n : Nat) (dd mm : Nat → UInt64) (t : UInt64) (hn : n ≤ 24) (hw : fz_wOk dd mm n) (hq : fz_lt FP.dconst0 (fz_wC dd mm n) = true → vf_n64 (FP.ddiv 4600877379321698714 (fz_wC dd mm n))) : fz_C l D [(cD, .double)] yX1_longestTime wsX1_longestTime ({ frames := 1, cells := 0, slots := 0, locals := 30 }) [.ref r, .double t] [(r, .inr (1, [.ref rd, .ref rm, .int (nI n)])), (rd, fz_da cD 28 dd), (rm, fz_da cD 28 mm)] [(r, .inr (1, [.ref rd, .ref rm, .int (nI n)])), (rd, fz_da cD 28 dd), (rm, fz_da cD 28 mm)] (some (.double (fz_longC t (fz_wC dd mm n)))) := by
  refine fz_start (cc := cX1_longestTime) (maxL := 8) (ret := (some .double)) (by decide) rfl (Nat.le_of_ble_eq_true rfl) ?_
  intro p e s m below meth c A hx hb hr hlocks hml hown hts hK hA hNW H locs hP hD hS ls hl
  have hl : lv_has ls 8 [(0, .ref r), (1, .double t)] := hl
  have hown : s.vm.findClass RX1 = some m.cls := hown
  have hw_fieldLink_RX1_18_FlowGrid_Row_size_I := hts (.fieldLink RX1 18 "FlowGrid$Row" "size" "I") (by decide +kernel)
  have hin_X1 : ∀ w ∈ u_ws RX1 TX1 3, w ∈ wsX1_longestTime := by decide +kernel
  have hw_constantDouble_RX1_65_4600877379321698714 := hts (.constantDouble RX1 65 (4600877379321698714)) (by decide +kernel)
  have hw_initialized_RX3 := hts (.initialized RX3) (by decide +kernel)
  have hw_static_yX3_lesser := hts (.static yX3_lesser) (by decide +kernel)
  have hw_fieldLink_RX1_9_FlowGrid_Row_depths_D := hts (.fieldLink RX1 9 "FlowGrid$Row" "depths" "[D") (by decide +kernel)
  have hw_fieldLink_RX1_15_FlowGrid_Row_momenta_D := hts (.fieldLink RX1 15 "FlowGrid$Row" "momenta" "[D") (by decide +kernel)
  have hw_static_yX3_speedOf := hts (.static yX3_speedOf) (by decide +kernel)
  have hw_static_yX3_absolute := hts (.static yX3_absolute) (by decide +kernel)
  have hw_static_yX3_root := hts (.static yX3_root) (by decide +kernel)
  have hw_static_yX3_greater := hts (.static yX3_greater) (by decide +kernel)
  refine lv_dconst0 hx hb dX1_longestTime_0 ?_
  refine lv_dstore_n (lv' := [(3, .double FP.dconst0), (0, .ref r), (1, .double t)]) hx hb dX1_longestTime_1 rfl hl (by decide) rfl (fun ls hl => ?_)
  refine lv_iconst (v := nI 2) hx hb dX1_longestTime_2 (by decide) ?_
  refine lv_istore (lv' := [(5, .int (nI 2)), (3, .double FP.dconst0), (0, .ref r), (1, .double t)]) hx hb dX1_longestTime_3 hl (by decide) rfl (fun ls hl => ?_)
  have loop5 : ∀ (it k : Nat), k ≤ n → n < k + it → ∀ (H : Heap) (locs : List Loc) (ls : Array Slot), va_P D vwCl [(r, .inr (1, [.ref rd, .ref rm, .int (nI n)])), (rd, fz_da cD 28 dd), (rm, fz_da cD 28 mm)] H → va_D A [(r, .inr (1, [.ref rd, .ref rm, .int (nI n)])), (rd, fz_da cD 28 dd), (rm, fz_da cD 28 mm)] → va_S A s.heap H locs → lv_has ls 8 [(0, .ref r), (1, .double t), (3, .double (fz_wC dd mm k)), (5, .int (nI (k + 2)))] → W p l e ({ frames := 1, cells := 0, slots := 0, locals := 30 }) s m ([.ref r, .double t] : List Value).toArray below meth c H locs 0 0 (MQ below (fz_O D [(cD, .double)] [(r, .inr (1, [.ref rd, .ref rm, .int (nI n)])), (rd, fz_da cD 28 dd), (rm, fz_da cD 28 mm)] (some (.double (fz_longC t (fz_wC dd mm n)))) A) ([.ref r, .double t] : List Value).toArray s 0 0 A) (F0 m 5 ls []) := by
    intro it
    induction it with
    | zero => intro k h1 h2; exact absurd h2 (by omega)
    | succ it ih =>
      intro k hkk hnk H locs ls hP hD hS hl
      refine lv_iload hx hb dX1_longestTime_5 (lv_at hl 3 rfl) ?_
      refine lv_iconst (v := nI 2) hx hb dX1_longestTime_7 (by decide) ?_
      refine lv_aload_n hx hb dX1_longestTime_8 rfl (lv_at hl 0 rfl) ?_
      refine va_get (D := D) (ci := 1) (v := .int (nI n)) (C := RX1) (T := TX1) (N := 3) hx hb hts hin_X1 hown hK hP 0 rfl rfl 2 (by decide) hw_fieldLink_RX1_18_FlowGrid_Row_size_I (fun _ h9 => h9) rfl dX1_longestTime_9 ?_
      refine fz_iaddN hx hb dX1_longestTime_12 ?_
      refine fz_topn (b := n + 2) (by omega) ?_
      refine fz_icmp_geN (tgt := 57) hx hb (by omega) (by omega) dX1_longestTime_13 (by decide) (fun c13 => ?_) (fun c13 => ?_)
      · have hkz : n = k := by omega
        subst hkz
        refine lv_dload_n hx hb dX1_longestTime_57 rfl (lv_at hl 2 rfl) ?_
        refine lv_dconst0 hx hb dX1_longestTime_58 ?_
        refine fz_dl_le (tgt := 75) hx hb dX1_longestTime_59 dX1_longestTime_60 (by decide) (fun c59 => ?_) (fun c59 => ?_)
        · refine lv_dload_n hx hb dX1_longestTime_75 rfl (lv_at hl 1 rfl) ?_
          exact fz_dret hx hb hr hlocks (by unfold fz_longC; rw [if_neg (by rw [c59]; decide)]) hP hK hD hS dX1_longestTime_76
        · refine lv_dload_n hx hb dX1_longestTime_63 rfl (lv_at hl 1 rfl) ?_
          refine lv_ldc2d hx hb hown hw_constantDouble_RX1_65_4600877379321698714 dX1_longestTime_64 ?_
          refine lv_dload_n hx hb dX1_longestTime_67 rfl (lv_at hl 2 rfl) ?_
          refine lv_ddiv hx hb dX1_longestTime_68 (hq (by assumption)) ?_
          refine fz_callN (ws' := [(r, .inr (1, [.ref rd, .ref rm, .int (nI n)])), (rd, fz_da cD 28 dd), (rm, fz_da cD 28 mm)]) (wr := [(r, .inr (1, [.ref rd, .ref rm, .int (nI n)])), (rd, fz_da cD 28 dd), (rm, fz_da cD 28 mm)]) (As := [.double t, .double (FP.ddiv 4600877379321698714 (fz_wC dd mm n))]) (rest := []) ⟨hx, hb, hml, hown, hts⟩ (c_X3_lesser l D cD t (FP.ddiv 4600877379321698714 (fz_wC dd mm n))) ⟨va_cnB 2 hts gX1_longestTime_X3_lesser_n67 rfl rfl rfl (hNW ("FlowGrid$Row", 67, ⟨"FlowGrid", "lesser", "(DD)D"⟩) (by decide +kernel)) hw_initialized_RX3 (by decide +kernel) ⟨Nat.le_of_ble_eq_true rfl, Nat.le_of_ble_eq_true rfl⟩, hw_static_yX3_lesser, trivial⟩ hK hNW hP hD hS hA [] [0, 1, 2] [0, 1, 2] rfl rfl rfl rfl (by decide) rfl rfl rfl hl.1 rfl (Nat.le_of_ble_eq_true rfl) dX1_longestTime_69 ⟨Nat.zero_le _, Nat.zero_le _⟩ (fun H locs hP hD hS => ?_)
          refine lv_goto (tgt := 76) hx hb dX1_longestTime_72 (by decide) ?_
          exact fz_dret hx hb hr hlocks (by unfold fz_longC; rw [if_pos c59]) hP hK hD hS dX1_longestTime_76
      · refine lv_aload_n hx hb dX1_longestTime_16 rfl (lv_at hl 0 rfl) ?_
        refine va_get (D := D) (ci := 1) (v := .ref rd) (C := RX1) (T := TX1) (N := 3) hx hb hts hin_X1 hown hK hP 0 rfl rfl 0 (by decide) hw_fieldLink_RX1_9_FlowGrid_Row_depths_D (fun _ h9 => h9) rfl dX1_longestTime_17 ?_
        refine lv_iload hx hb dX1_longestTime_20 (lv_at hl 3 rfl) ?_
        refine fz_dald (i := k + 2) hx hb hK hP 1 0 rfl rfl (by omega) (by decide) dX1_longestTime_22 ?_
        refine lv_dstore (lv' := [(6, .double (dd (k + 2))), (0, .ref r), (1, .double t), (3, .double (fz_wC dd mm k)), (5, .int (nI (k + 2)))]) hx hb dX1_longestTime_23 hl (by decide) rfl (fun ls hl => ?_)
        refine lv_dload_n hx hb dX1_longestTime_25 rfl (lv_at hl 3 rfl) ?_
        refine lv_dload hx hb dX1_longestTime_26 (lv_at hl 0 rfl) ?_
        refine lv_aload_n hx hb dX1_longestTime_28 rfl (lv_at hl 1 rfl) ?_
        refine va_get (D := D) (ci := 1) (v := .ref rm) (C := RX1) (T := TX1) (N := 3) hx hb hts hin_X1 hown hK hP 0 rfl rfl 1 (by decide) hw_fieldLink_RX1_15_FlowGrid_Row_momenta_D (fun _ h9 => h9) rfl dX1_longestTime_29 ?_
        refine lv_iload hx hb dX1_longestTime_32 (lv_at hl 4 rfl) ?_
        refine fz_dald (i := k + 2) hx hb hK hP 2 0 rfl rfl (by omega) (by decide) dX1_longestTime_34 ?_
        refine fz_callN (ws' := [(r, .inr (1, [.ref rd, .ref rm, .int (nI n)])), (rd, fz_da cD 28 dd), (rm, fz_da cD 28 mm)]) (wr := [(r, .inr (1, [.ref rd, .ref rm, .int (nI n)])), (rd, fz_da cD 28 dd), (rm, fz_da cD 28 mm)]) (As := [.double (dd (k + 2)), .double (mm (k + 2))]) (rest := [.double (fz_wC dd mm k)]) ⟨hx, hb, hml, hown, hts⟩ (c_X3_speedOf l D cD (dd (k + 2)) (mm (k + 2)) ((hw k (by omega)).1.1) ((hw k (by omega)).1.2.1)) ⟨va_cnB 2 hts gX1_longestTime_X3_speedOf_n51 rfl rfl rfl (hNW ("FlowGrid$Row", 51, ⟨"FlowGrid", "speedOf", "(DD)D"⟩) (by decide +kernel)) hw_initialized_RX3 (by decide +kernel) ⟨Nat.le_of_ble_eq_true rfl, Nat.le_of_ble_eq_true rfl⟩, hw_static_yX3_speedOf, trivial⟩ hK hNW hP hD hS hA [] [0, 1, 2] [0, 1, 2] rfl rfl rfl rfl (by decide) rfl rfl rfl hl.1 rfl (Nat.le_of_ble_eq_true rfl) dX1_longestTime_35 ⟨Nat.zero_le _, Nat.zero_le _⟩ (fun H locs hP hD hS => ?_)
        refine fz_callN (ws' := [(r, .inr (1, [.ref rd, .ref rm, .int (nI n)])), (rd, fz_da cD 28 dd), (rm, fz_da cD 28 mm)]) (wr := [(r, .inr (1, [.ref rd, .ref rm, .int (nI n)])), (rd, fz_da cD 28 dd), (rm, fz_da cD 28 mm)]) (As := [.double (FP.ddiv (mm (k + 2)) (dd (k + 2)))]) (rest := [.double (fz_wC dd mm k)]) ⟨hx, hb, hml, hown, hts⟩ (c_X3_absolute l D cD (FP.ddiv (mm (k + 2)) (dd (k + 2)))) ⟨va_cnB 1 hts gX1_longestTime_X3_absolute_n55 rfl rfl rfl (hNW ("FlowGrid$Row", 55, ⟨"FlowGrid", "absolute", "(D)D"⟩) (by decide +kernel)) hw_initialized_RX3 (by decide +kernel) ⟨Nat.le_of_ble_eq_true rfl, Nat.le_of_ble_eq_true rfl⟩, hw_static_yX3_absolute, trivial⟩ hK hNW hP hD hS hA [] [0, 1, 2] [0, 1, 2] rfl rfl rfl rfl (by decide) rfl rfl rfl hl.1 rfl (Nat.le_of_ble_eq_true rfl) dX1_longestTime_38 ⟨Nat.zero_le _, Nat.zero_le _⟩ (fun H locs hP hD hS => ?_)
        refine lv_dload hx hb dX1_longestTime_41 (lv_at hl 0 rfl) ?_
        refine fz_callN (ws' := [(r, .inr (1, [.ref rd, .ref rm, .int (nI n)])), (rd, fz_da cD 28 dd), (rm, fz_da cD 28 mm)]) (wr := [(r, .inr (1, [.ref rd, .ref rm, .int (nI n)])), (rd, fz_da cD 28 dd), (rm, fz_da cD 28 mm)]) (As := [.double (dd (k + 2))]) (rest := [.double (fz_abs (FP.ddiv (mm (k + 2)) (dd (k + 2)))), .double (fz_wC dd mm k)]) ⟨hx, hb, hml, hown, hts⟩ (c_X3_root l D cD (dd (k + 2)) ((hw k (by omega)).1.2.2)) ⟨va_cnB 1 hts gX1_longestTime_X3_root_n59 rfl rfl rfl (hNW ("FlowGrid$Row", 59, ⟨"FlowGrid", "root", "(D)D"⟩) (by decide +kernel)) hw_initialized_RX3 (by decide +kernel) ⟨Nat.le_of_ble_eq_true rfl, Nat.le_of_ble_eq_true rfl⟩, hw_static_yX3_root, trivial⟩ hK hNW hP hD hS hA [] [0, 1, 2] [0, 1, 2] rfl rfl rfl rfl (by decide) rfl rfl rfl hl.1 rfl (Nat.le_of_ble_eq_true rfl) dX1_longestTime_43 ⟨Nat.zero_le _, Nat.zero_le _⟩ (fun H locs hP hD hS => ?_)
        refine lv_dadd hx hb dX1_longestTime_46 ((hw k (by omega)).2) ?_
        refine fz_callN (ws' := [(r, .inr (1, [.ref rd, .ref rm, .int (nI n)])), (rd, fz_da cD 28 dd), (rm, fz_da cD 28 mm)]) (wr := [(r, .inr (1, [.ref rd, .ref rm, .int (nI n)])), (rd, fz_da cD 28 dd), (rm, fz_da cD 28 mm)]) (As := [.double (fz_wC dd mm k), .double (FP.dadd (fz_abs (FP.ddiv (mm (k + 2)) (dd (k + 2)))) (fz_root (dd (k + 2))))]) (rest := []) ⟨hx, hb, hml, hown, hts⟩ (c_X3_greater l D cD (fz_wC dd mm k) (FP.dadd (fz_abs (FP.ddiv (mm (k + 2)) (dd (k + 2)))) (fz_root (dd (k + 2))))) ⟨va_cnB 2 hts gX1_longestTime_X3_greater_n62 rfl rfl rfl (hNW ("FlowGrid$Row", 62, ⟨"FlowGrid", "greater", "(DD)D"⟩) (by decide +kernel)) hw_initialized_RX3 (by decide +kernel) ⟨Nat.le_of_ble_eq_true rfl, Nat.le_of_ble_eq_true rfl⟩, hw_static_yX3_greater, trivial⟩ hK hNW hP hD hS hA [] [0, 1, 2] [0, 1, 2] rfl rfl rfl rfl (by decide) rfl rfl rfl hl.1 rfl (Nat.le_of_ble_eq_true rfl) dX1_longestTime_47 ⟨Nat.zero_le _, Nat.zero_le _⟩ (fun H locs hP hD hS => ?_)
        refine lv_dstore_n (lv' := [(3, .double (fz_gtrC (fz_wC dd mm k) (FP.dadd (fz_abs (FP.ddiv (mm (k + 2)) (dd (k + 2)))) (fz_root (dd (k + 2)))))), (6, .double (dd (k + 2))), (0, .ref r), (1, .double t), (5, .int (nI (k + 2)))]) hx hb dX1_longestTime_50 rfl hl (by decide) rfl (fun ls hl => ?_)
        refine lv_iinc (v := nI (k + 3)) (lv' := [(5, .int (nI (k + 3))), (3, .double (fz_gtrC (fz_wC dd mm k) (FP.dadd (fz_abs (FP.ddiv (mm (k + 2)) (dd (k + 2)))) (fz_root (dd (k + 2)))))), (6, .double (dd (k + 2))), (0, .ref r), (1, .double t)]) hx hb dX1_longestTime_51 hl (k := 4) rfl (nI_1 _) (by decide) rfl (fun ls hl => ?_)
        refine lv_goto (tgt := 5) hx hb dX1_longestTime_54 (by decide) ?_
        exact ih (k + 1) (by omega) (by omega) H locs ls (hP) (hD) hS (lv_sub hl [3, 4, 1, 0] rfl)
  exact loop5 (n + 1) 0 (by omega) (by omega) H locs ls (hP) (hD) hS (lv_sub hl [2, 3, 1, 0] rfl)

set_option maxHeartbeats 4000000 in
set_option maxRecDepth 100000 in
theorem c_X1_total_d (l : Launch) (D : va_G) (cD : ClassId) (r rd rm n : Nat) (dd mm : Nat → UInt64) (hn : n ≤ 24) (hk0 : fz_kahOk dd n) : fz_C l D [(cD, .double)] yX1_total wsX1_total ({ frames := 0, cells := 0, slots := 0, locals := 0 }) [.ref r, .ref rd] [(r, .inr (1, [.ref rd, .ref rm, .int (nI n)])), (rd, fz_da cD 28 dd), (rm, fz_da cD 28 mm)] [(r, .inr (1, [.ref rd, .ref rm, .int (nI n)])), (rd, fz_da cD 28 dd), (rm, fz_da cD 28 mm)] (some (.double (fz_kah dd n).1)) := by
  refine fz_start (cc := cX1_total) (maxL := 11) (ret := (some .double)) (by decide) rfl (Nat.le_of_ble_eq_true rfl) ?_
  intro p e s m below meth c A hx hb hr hlocks hml hown hts hK hA hNW H locs hP hD hS ls hl
  have hl : lv_has ls 11 [(0, .ref r), (1, .ref rd)] := hl
  have hown : s.vm.findClass RX1 = some m.cls := hown
  have hw_fieldLink_RX1_18_FlowGrid_Row_size_I := hts (.fieldLink RX1 18 "FlowGrid$Row" "size" "I") (by decide +kernel)
  have hin_X1 : ∀ w ∈ u_ws RX1 TX1 3, w ∈ wsX1_total := by decide +kernel
  refine lv_dconst0 hx hb dX1_total_0 ?_
  refine lv_dstore_n (lv' := [(2, .double FP.dconst0), (0, .ref r), (1, .ref rd)]) hx hb dX1_total_1 rfl hl (by decide) rfl (fun ls hl => ?_)
  refine lv_dconst0 hx hb dX1_total_2 ?_
  refine lv_dstore (lv' := [(4, .double FP.dconst0), (2, .double FP.dconst0), (0, .ref r), (1, .ref rd)]) hx hb dX1_total_3 hl (by decide) rfl (fun ls hl => ?_)
  refine lv_iconst (v := nI 2) hx hb dX1_total_5 (by decide) ?_
  refine lv_istore (lv' := [(6, .int (nI 2)), (4, .double FP.dconst0), (2, .double FP.dconst0), (0, .ref r), (1, .ref rd)]) hx hb dX1_total_6 hl (by decide) rfl (fun ls hl => ?_)
  have loop8 : ∀ (it k : Nat), k ≤ n → n < k + it → ∀ (H : Heap) (locs : List Loc) (ls : Array Slot), va_P D vwCl [(r, .inr (1, [.ref rd, .ref rm, .int (nI n)])), (rd, fz_da cD 28 dd), (rm, fz_da cD 28 mm)] H → va_D A [(r, .inr (1, [.ref rd, .ref rm, .int (nI n)])), (rd, fz_da cD 28 dd), (rm, fz_da cD 28 mm)] → va_S A s.heap H locs → lv_has ls 11 [(0, .ref r), (1, .ref rd), (2, .double ((fz_kah dd k).1)), (4, .double ((fz_kah dd k).2)), (6, .int (nI (k + 2)))] → W p l e ({ frames := 0, cells := 0, slots := 0, locals := 0 }) s m ([.ref r, .ref rd] : List Value).toArray below meth c H locs 0 0 (MQ below (fz_O D [(cD, .double)] [(r, .inr (1, [.ref rd, .ref rm, .int (nI n)])), (rd, fz_da cD 28 dd), (rm, fz_da cD 28 mm)] (some (.double (fz_kah dd n).1)) A) ([.ref r, .ref rd] : List Value).toArray s 0 0 A) (F0 m 8 ls []) := by
    intro it
    induction it with
    | zero => intro k h1 h2; exact absurd h2 (by omega)
    | succ it ih =>
      intro k hkk hnk H locs ls hP hD hS hl
      refine lv_iload hx hb dX1_total_8 (lv_at hl 4 rfl) ?_
      refine lv_iconst (v := nI 2) hx hb dX1_total_10 (by decide) ?_
      refine lv_aload_n hx hb dX1_total_11 rfl (lv_at hl 0 rfl) ?_
      refine va_get (D := D) (ci := 1) (v := .int (nI n)) (C := RX1) (T := TX1) (N := 3) hx hb hts hin_X1 hown hK hP 0 rfl rfl 2 (by decide) hw_fieldLink_RX1_18_FlowGrid_Row_size_I (fun _ h9 => h9) rfl dX1_total_12 ?_
      refine fz_iaddN hx hb dX1_total_15 ?_
      refine fz_topn (b := n + 2) (by omega) ?_
      refine fz_icmp_geN (tgt := 52) hx hb (by omega) (by omega) dX1_total_16 (by decide) (fun c16 => ?_) (fun c16 => ?_)
      · refine lv_dload_n hx hb dX1_total_52 rfl (lv_at hl 2 rfl) ?_
        have hkz : n = k := by omega
        subst hkz
        exact fz_dret hx hb hr hlocks (rfl) hP hK hD hS dX1_total_53
      · refine lv_aload_n hx hb dX1_total_19 rfl (lv_at hl 1 rfl) ?_
        refine lv_iload hx hb dX1_total_20 (lv_at hl 4 rfl) ?_
        refine fz_dald (i := k + 2) hx hb hK hP 1 0 rfl rfl (by omega) (by decide) dX1_total_22 ?_
        refine lv_dload hx hb dX1_total_23 (lv_at hl 3 rfl) ?_
        refine lv_dsub hx hb dX1_total_25 ((hk0 k (by omega)).1) ?_
        refine lv_dstore (lv' := [(7, .double (FP.dsub (dd (k + 2)) ((fz_kah dd k).2))), (0, .ref r), (1, .ref rd), (2, .double ((fz_kah dd k).1)), (4, .double ((fz_kah dd k).2)), (6, .int (nI (k + 2)))]) hx hb dX1_total_26 hl (by decide) rfl (fun ls hl => ?_)
        refine lv_dload_n hx hb dX1_total_28 rfl (lv_at hl 3 rfl) ?_
        refine lv_dload hx hb dX1_total_29 (lv_at hl 0 rfl) ?_
        refine lv_dadd hx hb dX1_total_31 ((hk0 k (by omega)).2.1) ?_
        refine lv_dstore (lv' := [(9, .double (FP.dadd ((fz_kah dd k).1) (FP.dsub (dd (k + 2)) ((fz_kah dd k).2)))), (7, .double (FP.dsub (dd (k + 2)) ((fz_kah dd k).2))), (0, .ref r), (1, .ref rd), (2, .double ((fz_kah dd k).1)), (4, .double ((fz_kah dd k).2)), (6, .int (nI (k + 2)))]) hx hb dX1_total_32 hl (by decide) rfl (fun ls hl => ?_)
        refine lv_dload hx hb dX1_total_34 (lv_at hl 0 rfl) ?_
        refine lv_dload_n hx hb dX1_total_36 rfl (lv_at hl 4 rfl) ?_
        refine lv_dsub hx hb dX1_total_37 ((hk0 k (by omega)).2.2.1) ?_
        refine lv_dload hx hb dX1_total_38 (lv_at hl 1 rfl) ?_
        refine lv_dsub hx hb dX1_total_40 ((hk0 k (by omega)).2.2.2) ?_
        refine lv_dstore (lv' := [(4, .double (FP.dsub (FP.dsub (FP.dadd ((fz_kah dd k).1) (FP.dsub (dd (k + 2)) ((fz_kah dd k).2))) ((fz_kah dd k).1)) (FP.dsub (dd (k + 2)) ((fz_kah dd k).2)))), (9, .double (FP.dadd ((fz_kah dd k).1) (FP.dsub (dd (k + 2)) ((fz_kah dd k).2)))), (7, .double (FP.dsub (dd (k + 2)) ((fz_kah dd k).2))), (0, .ref r), (1, .ref rd), (2, .double ((fz_kah dd k).1)), (6, .int (nI (k + 2)))]) hx hb dX1_total_41 hl (by decide) rfl (fun ls hl => ?_)
        refine lv_dload hx hb dX1_total_43 (lv_at hl 1 rfl) ?_
        refine lv_dstore_n (lv' := [(2, .double (FP.dadd ((fz_kah dd k).1) (FP.dsub (dd (k + 2)) ((fz_kah dd k).2)))), (4, .double (FP.dsub (FP.dsub (FP.dadd ((fz_kah dd k).1) (FP.dsub (dd (k + 2)) ((fz_kah dd k).2))) ((fz_kah dd k).1)) (FP.dsub (dd (k + 2)) ((fz_kah dd k).2)))), (9, .double (FP.dadd ((fz_kah dd k).1) (FP.dsub (dd (k + 2)) ((fz_kah dd k).2)))), (7, .double (FP.dsub (dd (k + 2)) ((fz_kah dd k).2))), (0, .ref r), (1, .ref rd), (6, .int (nI (k + 2)))]) hx hb dX1_total_45 rfl hl (by decide) rfl (fun ls hl => ?_)
        refine lv_iinc (v := nI (k + 3)) (lv' := [(6, .int (nI (k + 3))), (2, .double (FP.dadd ((fz_kah dd k).1) (FP.dsub (dd (k + 2)) ((fz_kah dd k).2)))), (4, .double (FP.dsub (FP.dsub (FP.dadd ((fz_kah dd k).1) (FP.dsub (dd (k + 2)) ((fz_kah dd k).2))) ((fz_kah dd k).1)) (FP.dsub (dd (k + 2)) ((fz_kah dd k).2)))), (9, .double (FP.dadd ((fz_kah dd k).1) (FP.dsub (dd (k + 2)) ((fz_kah dd k).2)))), (7, .double (FP.dsub (dd (k + 2)) ((fz_kah dd k).2))), (0, .ref r), (1, .ref rd)]) hx hb dX1_total_46 hl (k := 6) rfl (nI_1 _) (by decide) rfl (fun ls hl => ?_)
        refine lv_goto (tgt := 8) hx hb dX1_total_49 (by decide) ?_
        exact ih (k + 1) (by omega) (by omega) H locs ls (hP) (hD) hS (lv_sub hl [5, 6, 1, 2, 0] rfl)
  exact loop8 (n + 1) 0 (by omega) (by omega) H locs ls (hP) (hD) hS (lv_sub hl [3, 4, 2, 1, 0] rfl)

set_option maxHeartbeats 4000000 in
set_option maxRecDepth 100000 in
theorem c_X1_total_m (l : Launch) (D : va_G) (cD : ClassId) (r rd rm n : Nat) (dd mm : Nat → UInt64) (hn : n ≤ 24) (hk0 : fz_kahOk mm n) : fz_C l D [(cD, .double)] yX1_total wsX1_total ({ frames := 0, cells := 0, slots := 0, locals := 0 }) [.ref r, .ref rm] [(r, .inr (1, [.ref rd, .ref rm, .int (nI n)])), (rd, fz_da cD 28 dd), (rm, fz_da cD 28 mm)] [(r, .inr (1, [.ref rd, .ref rm, .int (nI n)])), (rd, fz_da cD 28 dd), (rm, fz_da cD 28 mm)] (some (.double (fz_kah mm n).1)) := by
  refine fz_start (cc := cX1_total) (maxL := 11) (ret := (some .double)) (by decide) rfl (Nat.le_of_ble_eq_true rfl) ?_
  intro p e s m below meth c A hx hb hr hlocks hml hown hts hK hA hNW H locs hP hD hS ls hl
  have hl : lv_has ls 11 [(0, .ref r), (1, .ref rm)] := hl
  have hown : s.vm.findClass RX1 = some m.cls := hown
  have hw_fieldLink_RX1_18_FlowGrid_Row_size_I := hts (.fieldLink RX1 18 "FlowGrid$Row" "size" "I") (by decide +kernel)
  have hin_X1 : ∀ w ∈ u_ws RX1 TX1 3, w ∈ wsX1_total := by decide +kernel
  refine lv_dconst0 hx hb dX1_total_0 ?_
  refine lv_dstore_n (lv' := [(2, .double FP.dconst0), (0, .ref r), (1, .ref rm)]) hx hb dX1_total_1 rfl hl (by decide) rfl (fun ls hl => ?_)
  refine lv_dconst0 hx hb dX1_total_2 ?_
  refine lv_dstore (lv' := [(4, .double FP.dconst0), (2, .double FP.dconst0), (0, .ref r), (1, .ref rm)]) hx hb dX1_total_3 hl (by decide) rfl (fun ls hl => ?_)
  refine lv_iconst (v := nI 2) hx hb dX1_total_5 (by decide) ?_
  refine lv_istore (lv' := [(6, .int (nI 2)), (4, .double FP.dconst0), (2, .double FP.dconst0), (0, .ref r), (1, .ref rm)]) hx hb dX1_total_6 hl (by decide) rfl (fun ls hl => ?_)
  have loop8 : ∀ (it k : Nat), k ≤ n → n < k + it → ∀ (H : Heap) (locs : List Loc) (ls : Array Slot), va_P D vwCl [(r, .inr (1, [.ref rd, .ref rm, .int (nI n)])), (rd, fz_da cD 28 dd), (rm, fz_da cD 28 mm)] H → va_D A [(r, .inr (1, [.ref rd, .ref rm, .int (nI n)])), (rd, fz_da cD 28 dd), (rm, fz_da cD 28 mm)] → va_S A s.heap H locs → lv_has ls 11 [(0, .ref r), (1, .ref rm), (2, .double ((fz_kah mm k).1)), (4, .double ((fz_kah mm k).2)), (6, .int (nI (k + 2)))] → W p l e ({ frames := 0, cells := 0, slots := 0, locals := 0 }) s m ([.ref r, .ref rm] : List Value).toArray below meth c H locs 0 0 (MQ below (fz_O D [(cD, .double)] [(r, .inr (1, [.ref rd, .ref rm, .int (nI n)])), (rd, fz_da cD 28 dd), (rm, fz_da cD 28 mm)] (some (.double (fz_kah mm n).1)) A) ([.ref r, .ref rm] : List Value).toArray s 0 0 A) (F0 m 8 ls []) := by
    intro it
    induction it with
    | zero => intro k h1 h2; exact absurd h2 (by omega)
    | succ it ih =>
      intro k hkk hnk H locs ls hP hD hS hl
      refine lv_iload hx hb dX1_total_8 (lv_at hl 4 rfl) ?_
      refine lv_iconst (v := nI 2) hx hb dX1_total_10 (by decide) ?_
      refine lv_aload_n hx hb dX1_total_11 rfl (lv_at hl 0 rfl) ?_
      refine va_get (D := D) (ci := 1) (v := .int (nI n)) (C := RX1) (T := TX1) (N := 3) hx hb hts hin_X1 hown hK hP 0 rfl rfl 2 (by decide) hw_fieldLink_RX1_18_FlowGrid_Row_size_I (fun _ h9 => h9) rfl dX1_total_12 ?_
      refine fz_iaddN hx hb dX1_total_15 ?_
      refine fz_topn (b := n + 2) (by omega) ?_
      refine fz_icmp_geN (tgt := 52) hx hb (by omega) (by omega) dX1_total_16 (by decide) (fun c16 => ?_) (fun c16 => ?_)
      · refine lv_dload_n hx hb dX1_total_52 rfl (lv_at hl 2 rfl) ?_
        have hkz : n = k := by omega
        subst hkz
        exact fz_dret hx hb hr hlocks (rfl) hP hK hD hS dX1_total_53
      · refine lv_aload_n hx hb dX1_total_19 rfl (lv_at hl 1 rfl) ?_
        refine lv_iload hx hb dX1_total_20 (lv_at hl 4 rfl) ?_
        refine fz_dald (i := k + 2) hx hb hK hP 2 0 rfl rfl (by omega) (by decide) dX1_total_22 ?_
        refine lv_dload hx hb dX1_total_23 (lv_at hl 3 rfl) ?_
        refine lv_dsub hx hb dX1_total_25 ((hk0 k (by omega)).1) ?_
        refine lv_dstore (lv' := [(7, .double (FP.dsub (mm (k + 2)) ((fz_kah mm k).2))), (0, .ref r), (1, .ref rm), (2, .double ((fz_kah mm k).1)), (4, .double ((fz_kah mm k).2)), (6, .int (nI (k + 2)))]) hx hb dX1_total_26 hl (by decide) rfl (fun ls hl => ?_)
        refine lv_dload_n hx hb dX1_total_28 rfl (lv_at hl 3 rfl) ?_
        refine lv_dload hx hb dX1_total_29 (lv_at hl 0 rfl) ?_
        refine lv_dadd hx hb dX1_total_31 ((hk0 k (by omega)).2.1) ?_
        refine lv_dstore (lv' := [(9, .double (FP.dadd ((fz_kah mm k).1) (FP.dsub (mm (k + 2)) ((fz_kah mm k).2)))), (7, .double (FP.dsub (mm (k + 2)) ((fz_kah mm k).2))), (0, .ref r), (1, .ref rm), (2, .double ((fz_kah mm k).1)), (4, .double ((fz_kah mm k).2)), (6, .int (nI (k + 2)))]) hx hb dX1_total_32 hl (by decide) rfl (fun ls hl => ?_)
        refine lv_dload hx hb dX1_total_34 (lv_at hl 0 rfl) ?_
        refine lv_dload_n hx hb dX1_total_36 rfl (lv_at hl 4 rfl) ?_
        refine lv_dsub hx hb dX1_total_37 ((hk0 k (by omega)).2.2.1) ?_
        refine lv_dload hx hb dX1_total_38 (lv_at hl 1 rfl) ?_
        refine lv_dsub hx hb dX1_total_40 ((hk0 k (by omega)).2.2.2) ?_
        refine lv_dstore (lv' := [(4, .double (FP.dsub (FP.dsub (FP.dadd ((fz_kah mm k).1) (FP.dsub (mm (k + 2)) ((fz_kah mm k).2))) ((fz_kah mm k).1)) (FP.dsub (mm (k + 2)) ((fz_kah mm k).2)))), (9, .double (FP.dadd ((fz_kah mm k).1) (FP.dsub (mm (k + 2)) ((fz_kah mm k).2)))), (7, .double (FP.dsub (mm (k + 2)) ((fz_kah mm k).2))), (0, .ref r), (1, .ref rm), (2, .double ((fz_kah mm k).1)), (6, .int (nI (k + 2)))]) hx hb dX1_total_41 hl (by decide) rfl (fun ls hl => ?_)
        refine lv_dload hx hb dX1_total_43 (lv_at hl 1 rfl) ?_
        refine lv_dstore_n (lv' := [(2, .double (FP.dadd ((fz_kah mm k).1) (FP.dsub (mm (k + 2)) ((fz_kah mm k).2)))), (4, .double (FP.dsub (FP.dsub (FP.dadd ((fz_kah mm k).1) (FP.dsub (mm (k + 2)) ((fz_kah mm k).2))) ((fz_kah mm k).1)) (FP.dsub (mm (k + 2)) ((fz_kah mm k).2)))), (9, .double (FP.dadd ((fz_kah mm k).1) (FP.dsub (mm (k + 2)) ((fz_kah mm k).2)))), (7, .double (FP.dsub (mm (k + 2)) ((fz_kah mm k).2))), (0, .ref r), (1, .ref rm), (6, .int (nI (k + 2)))]) hx hb dX1_total_45 rfl hl (by decide) rfl (fun ls hl => ?_)
        refine lv_iinc (v := nI (k + 3)) (lv' := [(6, .int (nI (k + 3))), (2, .double (FP.dadd ((fz_kah mm k).1) (FP.dsub (mm (k + 2)) ((fz_kah mm k).2)))), (4, .double (FP.dsub (FP.dsub (FP.dadd ((fz_kah mm k).1) (FP.dsub (mm (k + 2)) ((fz_kah mm k).2))) ((fz_kah mm k).1)) (FP.dsub (mm (k + 2)) ((fz_kah mm k).2)))), (9, .double (FP.dadd ((fz_kah mm k).1) (FP.dsub (mm (k + 2)) ((fz_kah mm k).2)))), (7, .double (FP.dsub (mm (k + 2)) ((fz_kah mm k).2))), (0, .ref r), (1, .ref rm)]) hx hb dX1_total_46 hl (k := 6) rfl (nI_1 _) (by decide) rfl (fun ls hl => ?_)
        refine lv_goto (tgt := 8) hx hb dX1_total_49 (by decide) ?_
        exact ih (k + 1) (by omega) (by omega) H locs ls (hP) (hD) hS (lv_sub hl [5, 6, 1, 2, 0] rfl)
  exact loop8 (n + 1) 0 (by omega) (by omega) H locs ls (hP) (hD) hS (lv_sub hl [3, 4, 2, 1, 0] rfl)
