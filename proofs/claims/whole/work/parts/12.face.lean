/-! FlowGrid's face -/
def fz_first (f : Nat → Bool) : Nat := if f 0 = true then 0 else if f 1 = true then 1 else if f 2 = true then 2 else if f 3 = true then 3 else if f 4 = true then 4 else 5
theorem fz_first_bad (f : Nat → Bool) : ∀ j, j < fz_first f → f j = false := by
  intro j hj
  unfold fz_first at hj
  by_cases h0 : f 0 = true
  · rw [if_pos h0] at hj; omega
  rw [if_neg h0] at hj
  by_cases h1 : f 1 = true
  · rw [if_pos h1] at hj
    obtain rfl : j = 0 := by omega
    simpa using h0
  rw [if_neg h1] at hj
  by_cases h2 : f 2 = true
  · rw [if_pos h2] at hj
    rcases (show j = 0 ∨ j = 1 by omega) with rfl | rfl <;> simp_all
  rw [if_neg h2] at hj
  by_cases h3 : f 3 = true
  · rw [if_pos h3] at hj
    rcases (show j = 0 ∨ j = 1 ∨ j = 2 by omega) with rfl | rfl | rfl <;> simp_all
  rw [if_neg h3] at hj
  by_cases h4 : f 4 = true
  · rw [if_pos h4] at hj
    rcases (show j = 0 ∨ j = 1 ∨ j = 2 ∨ j = 3 by omega) with rfl | rfl | rfl | rfl <;> simp_all
  rw [if_neg h4] at hj
  rcases (show j = 0 ∨ j = 1 ∨ j = 2 ∨ j = 3 ∨ j = 4 by omega) with rfl | rfl | rfl | rfl | rfl <;> simp_all
theorem fz_first_good {f : Nat → Bool} (h : fz_first f < 5) : f (fz_first f) = true := by
  unfold fz_first at *
  repeat' split at *
  all_goals first | assumption | omega
theorem fz_first_le (f : Nat → Bool) : fz_first f ≤ 5 := by
  unfold fz_first
  repeat' split
  all_goals omega
def fz_kx (kd lim sol ord n : Nat) (most : UInt64) (d m : Nat → UInt64) : Nat := fz_first (fun j => fz_good kd lim sol ord n (fz_hv (fz_t0 n most d m) j) d m)
def fz_tk (kd lim sol ord n : Nat) (most : UInt64) (d m : Nat → UInt64) : UInt64 := fz_hv (fz_t0 n most d m) (fz_kx kd lim sol ord n most d m)
def fz_rs (kd lim sol ord n : Nat) (all : UInt64) (d m : Nat → UInt64) (gone : UInt64) (st fl : Int32) : Nat → UInt64 × (Nat → UInt64) × (Nat → UInt64) × UInt64 × Int32 × Int32
  | 0 => (all, d, m, gone, st, fl)
  | k + 1 => (FP.dsub (fz_rs kd lim sol ord n all d m gone st fl k).1 (fz_tk kd lim sol ord n (fz_rs kd lim sol ord n all d m gone st fl k).1 (fz_rs kd lim sol ord n all d m gone st fl k).2.1 (fz_rs kd lim sol ord n all d m gone st fl k).2.2.1),
      fz_newD kd lim sol ord n (fz_tk kd lim sol ord n (fz_rs kd lim sol ord n all d m gone st fl k).1 (fz_rs kd lim sol ord n all d m gone st fl k).2.1 (fz_rs kd lim sol ord n all d m gone st fl k).2.2.1) (fz_rs kd lim sol ord n all d m gone st fl k).2.1 (fz_rs kd lim sol ord n all d m gone st fl k).2.2.1,
      fz_newM kd lim sol ord n (fz_tk kd lim sol ord n (fz_rs kd lim sol ord n all d m gone st fl k).1 (fz_rs kd lim sol ord n all d m gone st fl k).2.1 (fz_rs kd lim sol ord n all d m gone st fl k).2.2.1) (fz_rs kd lim sol ord n all d m gone st fl k).2.1 (fz_rs kd lim sol ord n all d m gone st fl k).2.2.1,
      FP.dadd (fz_rs kd lim sol ord n all d m gone st fl k).2.2.2.1 (fz_tk kd lim sol ord n (fz_rs kd lim sol ord n all d m gone st fl k).1 (fz_rs kd lim sol ord n all d m gone st fl k).2.1 (fz_rs kd lim sol ord n all d m gone st fl k).2.2.1),
      (fz_rs kd lim sol ord n all d m gone st fl k).2.2.2.2.1 + nI 1,
      fz_inc (fz_rs kd lim sol ord n all d m gone st fl k).2.2.2.2.2 (fz_kx kd lim sol ord n (fz_rs kd lim sol ord n all d m gone st fl k).1 (fz_rs kd lim sol ord n all d m gone st fl k).2.1 (fz_rs kd lim sol ord n all d m gone st fl k).2.2.1))
theorem fz_in1 {v a b : Nat} (ha : a ≤ v) (hb : v ≤ b) (h31 : b < 2 ^ 31) : fz_in (nI v) (nI a) (nI b) = 1 := by
  unfold fz_in fz_out
  rw [if_neg]
  have h1 : ¬ nI v < nI a := nI_nlt ha (by omega)
  have h2 : ¬ nI b < nI v := nI_nlt hb h31
  simp [h1, h2]
theorem fz_has1 {v n : Nat} (h : v < n) (hn : n ≤ 24) : fz_has (nI v) n = true := by
  unfold fz_has
  have h1 : ¬ nI v < 0 := nI_pos (by omega)
  have h2 : ¬ nI n ≤ nI v := nI_ge h (by omega)
  simp [h1, h2]

set_option maxHeartbeats 4000000 in
set_option maxRecDepth 100000 in
theorem c_X3_cells (l : Launch) (D : va_G) (cD : ClassId) (g r rd rm q f n kd lim sol ord : Nat) (dd mm : Nat → UInt64) (gone : UInt64) (cst cfl crf : Int32) (v : Nat) (hv4 : 4 ≤ v) (hv24 : v ≤ 24) : fz_C l D [(cD, .double)] yX3_cells wsX3_cells ({ frames := 2, cells := 0, slots := 0, locals := 60 }) [.ref g, .int (nI v)] [(g, .inr (3, [.ref r, .ref q, .ref f, .int (nI kd), .int (nI lim), .int (nI sol), .int (nI ord), .double gone, .int cst, .int cfl, .int crf])), (r, .inr (1, [.ref rd, .ref rm, .int (nI n)])), (rd, fz_da cD 28 dd), (rm, fz_da cD 28 mm)] [(g, .inr (3, [.ref r, .ref q, .ref f, .int (nI kd), .int (nI lim), .int (nI sol), .int (nI ord), .double FP.dconst0, .int cst, .int cfl, .int crf])), (r, .inr (1, [.ref rd, .ref rm, .int (nI v)])), (rd, fz_da cD 28 (fz_pre 0 28 (fun _ => FP.dconst1) dd)), (rm, fz_da cD 28 (fz_pre 0 28 (fun _ => FP.dconst0) mm))] (none) := by
  refine fz_start (cc := cX3_cells) (maxL := 2) (ret := none) (by decide) rfl (Nat.le_of_ble_eq_true rfl) ?_
  intro p e s m below meth c A hx hb hr hlocks hml hown hts hK hA hNW H locs hP hD hS ls hl
  have hl : lv_has ls 2 [(0, .ref g), (1, .int (nI v))] := hl
  have hown : s.vm.findClass RX3 = some m.cls := hown
  have hw_fieldLink_RX3_12_FlowGrid_now_LFlowGrid_Row := hts (.fieldLink RX3 12 "FlowGrid" "now" "LFlowGrid$Row;") (by decide +kernel)
  have hin_X3 : ∀ w ∈ u_ws RX3 TX3 11, w ∈ wsX3_cells := by decide +kernel
  have hw_fieldLink_RX3_39_FlowGrid_gone_D := hts (.fieldLink RX3 39 "FlowGrid" "gone" "D") (by decide +kernel)
  refine lv_iload_n hx hb dX3_cells_0 rfl (lv_at hl 1 rfl) ?_
  refine lv_iconst (v := nI 4) hx hb dX3_cells_1 (by decide) ?_
  refine lv_bipush (v := nI 24) hx hb dX3_cells_2 (by decide) ?_
  refine fz_callS (ws' := [(g, .inr (3, [.ref r, .ref q, .ref f, .int (nI kd), .int (nI lim), .int (nI sol), .int (nI ord), .double gone, .int cst, .int cfl, .int crf])), (r, .inr (1, [.ref rd, .ref rm, .int (nI n)])), (rd, fz_da cD 28 dd), (rm, fz_da cD 28 mm)]) (wr := [(g, .inr (3, [.ref r, .ref q, .ref f, .int (nI kd), .int (nI lim), .int (nI sol), .int (nI ord), .double gone, .int cst, .int cfl, .int crf])), (r, .inr (1, [.ref rd, .ref rm, .int (nI n)])), (rd, fz_da cD 28 dd), (rm, fz_da cD 28 mm)]) (As := [.int (nI v), .int (nI 4), .int (nI 24)]) (rest := []) ⟨hx, hb, hml, hown, hts⟩ (c_X3_isWithin l D cD (nI v) (nI 4) (nI 24)) (va_cwS 3 hts gX3_cells_X3_isWithin rfl rfl rfl (by decide +kernel) ⟨Nat.le_of_ble_eq_true rfl, Nat.le_of_ble_eq_true rfl⟩) hK hNW hP hD hS hA [] [0, 1, 2, 3] [0, 1, 2, 3] rfl rfl rfl rfl (by decide) rfl rfl rfl hl.1 rfl (Nat.le_of_ble_eq_true rfl) dX3_cells_4 ⟨Nat.zero_le _, Nat.zero_le _⟩ (fun H locs hP hD hS => ?_)
  refine lv_if_ne (tgt := 20) hx hb dX3_cells_7 (by decide) (fun c7 => ?_) (fun c7 => absurd c7 (by rw [fz_in1 hv4 hv24 (by decide)]; decide))
  refine lv_aload_n hx hb dX3_cells_20 rfl (lv_at hl 0 rfl) ?_
  refine va_get (D := D) (ci := 3) (v := .ref r) (C := RX3) (T := TX3) (N := 11) hx hb hts hin_X3 hown hK hP 0 rfl rfl 0 (by decide) hw_fieldLink_RX3_12_FlowGrid_now_LFlowGrid_Row (fun _ h9 => h9) rfl dX3_cells_21 ?_
  refine lv_iload_n hx hb dX3_cells_24 rfl (lv_at hl 1 rfl) ?_
  refine fz_callV (ws' := [(g, .inr (3, [.ref r, .ref q, .ref f, .int (nI kd), .int (nI lim), .int (nI sol), .int (nI ord), .double gone, .int cst, .int cfl, .int crf])), (r, .inr (1, [.ref rd, .ref rm, .int (nI v)])), (rd, fz_da cD 28 (fz_pre 0 28 (fun _ => FP.dconst1) dd)), (rm, fz_da cD 28 (fz_pre 0 28 (fun _ => FP.dconst0) mm))]) (wr := [(g, .inr (3, [.ref r, .ref q, .ref f, .int (nI kd), .int (nI lim), .int (nI sol), .int (nI ord), .double gone, .int cst, .int cfl, .int crf]))]) (As := [.int (nI v)]) (rest := []) ⟨hx, hb, hml, hown, hts⟩ (c_X1_level l D cD r rd rm (nI n) (nI v) dd mm) (cwV 1 hts gX3_cells_X1_level rfl rfl rfl (by decide +kernel) ⟨Nat.le_of_ble_eq_true rfl, Nat.le_of_ble_eq_true rfl⟩) hK hNW hP hD hS hA [1, 2, 3] [0] [0, 1, 2, 3] rfl rfl rfl rfl (by decide) rfl rfl (q0 := 1) (ci := 1) rfl rfl rfl rfl hl.1 rfl (Nat.le_of_ble_eq_true rfl) dX3_cells_25 ⟨Nat.zero_le _, Nat.zero_le _⟩ (fun H locs hP hD hS => ?_)
  refine lv_aload_n hx hb dX3_cells_28 rfl (lv_at hl 0 rfl) ?_
  refine lv_dconst0 hx hb dX3_cells_29 ?_
  refine va_put (D := D) (ci := 3) (v := .double FP.dconst0) (ty := .double) (C := RX3) (T := TX3) (N := 11) hx hb hts hin_X3 tyX3 tyX3_ok nmX3 hown hK hP hD hS 0 rfl rfl 7 (by decide) hw_fieldLink_RX3_39_FlowGrid_gone_D (fun _ h9 => h9) rfl (by decide +kernel) rfl rfl (Nat.le_of_ble_eq_true rfl) dX3_cells_30 (fun H locs hP hD hS => ?_)
  have hP : va_P D vwCl [(g, .inr (3, [.ref r, .ref q, .ref f, .int (nI kd), .int (nI lim), .int (nI sol), .int (nI ord), .double FP.dconst0, .int cst, .int cfl, .int crf])), (r, .inr (1, [.ref rd, .ref rm, .int (nI v)])), (rd, fz_da cD 28 (fz_pre 0 28 (fun _ => FP.dconst1) dd)), (rm, fz_da cD 28 (fz_pre 0 28 (fun _ => FP.dconst0) mm))] H := hP
  have hD : va_D A [(g, .inr (3, [.ref r, .ref q, .ref f, .int (nI kd), .int (nI lim), .int (nI sol), .int (nI ord), .double FP.dconst0, .int cst, .int cfl, .int crf])), (r, .inr (1, [.ref rd, .ref rm, .int (nI v)])), (rd, fz_da cD 28 (fz_pre 0 28 (fun _ => FP.dconst1) dd)), (rm, fz_da cD 28 (fz_pre 0 28 (fun _ => FP.dconst0) mm))] := hD
  exact fz_vret hx hb hr hlocks (rfl) hP hK hD hS dX3_cells_33

set_option maxHeartbeats 4000000 in
set_option maxRecDepth 100000 in
theorem c_X3_cellsT (l : Launch) (hlt : l.stackTraces = false) (D : va_G) (cD : ClassId) (g r rd rm q f n kd lim sol ord : Nat) (dd mm : Nat → UInt64) (gone : UInt64) (cst cfl crf : Int32) (v : Int32) (hv : fz_in v (nI 4) (nI 24) = 0) : fz_T l D [(cD, .double)] yX3_cells wsX3_cells ({ frames := 6, cells := 1, slots := 6, locals := 90 }) [.ref g, .int v] [(g, .inr (3, [.ref r, .ref q, .ref f, .int (nI kd), .int (nI lim), .int (nI sol), .int (nI ord), .double gone, .int cst, .int cfl, .int crf])), (r, .inr (1, [.ref rd, .ref rm, .int (nI n)])), (rd, fz_da cD 28 dd), (rm, fz_da cD 28 mm)] fz_IAE (fun wo => wo = [(g, .inr (3, [.ref r, .ref q, .ref f, .int (nI kd), .int (nI lim), .int (nI sol), .int (nI ord), .double gone, .int cst, .int cfl, .int crf])), (r, .inr (1, [.ref rd, .ref rm, .int (nI n)])), (rd, fz_da cD 28 dd), (rm, fz_da cD 28 mm)]) := by
  refine fz_startT (cc := cX3_cells) (maxL := 2) (ret := none) (by decide) rfl (Nat.le_of_ble_eq_true rfl) ?_
  intro p e s m below meth c A hx hb hr hlocks hml hown hts hK hA hNW htb hST hCA hXZ H locs hP hD hS ls hl
  have hl : lv_has ls 2 [(0, .ref g), (1, .int v)] := hl
  have hown : s.vm.findClass RX3 = some m.cls := hown
  have hw_classLink_RX3_60_java_lang_IllegalArgumentException := hts (.classLink RX3 60 "java/lang/IllegalArgumentException") (by decide +kernel)
  have hw_initialized_java_lang_IllegalArgumentException := hts (.initialized "java/lang/IllegalArgumentException") (by decide +kernel)
  have hmemX_64 : ∀ w ∈ (vx_atS "FlowGrid" 64 fz_IAE ["java/lang/RuntimeException", "java/lang/Exception"]).filter goodWord, w ∈ wsX3_cells := by decide +kernel
  refine lv_iload_n hx hb dX3_cells_0 rfl (lv_at hl 1 rfl) ?_
  refine lv_iconst (v := nI 4) hx hb dX3_cells_1 (by decide) ?_
  refine lv_bipush (v := nI 24) hx hb dX3_cells_2 (by decide) ?_
  refine fz_callS (ws' := [(g, .inr (3, [.ref r, .ref q, .ref f, .int (nI kd), .int (nI lim), .int (nI sol), .int (nI ord), .double gone, .int cst, .int cfl, .int crf])), (r, .inr (1, [.ref rd, .ref rm, .int (nI n)])), (rd, fz_da cD 28 dd), (rm, fz_da cD 28 mm)]) (wr := [(g, .inr (3, [.ref r, .ref q, .ref f, .int (nI kd), .int (nI lim), .int (nI sol), .int (nI ord), .double gone, .int cst, .int cfl, .int crf])), (r, .inr (1, [.ref rd, .ref rm, .int (nI n)])), (rd, fz_da cD 28 dd), (rm, fz_da cD 28 mm)]) (As := [.int v, .int (nI 4), .int (nI 24)]) (rest := []) ⟨hx, hb, hml, hown, hts⟩ (c_X3_isWithin l D cD v (nI 4) (nI 24)) (va_cwS 3 hts gX3_cells_X3_isWithin rfl rfl rfl (by decide +kernel) ⟨Nat.le_of_ble_eq_true rfl, Nat.le_of_ble_eq_true rfl⟩) hK hNW hP hD hS hA [] [0, 1, 2, 3] [0, 1, 2, 3] rfl rfl rfl rfl (by decide) rfl rfl rfl hl.1 rfl (Nat.le_of_ble_eq_true rfl) dX3_cells_4 ⟨Nat.zero_le _, Nat.zero_le _⟩ (fun H locs hP hD hS => ?_)
  refine lv_if_ne (tgt := 20) hx hb dX3_cells_7 (by decide) (fun c7 => absurd c7 (fun h => h hv)) (fun c7 => ?_)
  exact fz_throw (cls := fz_IAE) (text := "the number of cells is not 4 .. 24") (is := 62) (ic := 64) (ik := 60) hx hb hlt hts hown (by decide +kernel) hw_classLink_RX3_60_java_lang_IllegalArgumentException hw_initialized_java_lang_IllegalArgumentException hST (by decide +kernel) hCA (by decide +kernel) hmemX_64 (by decide +kernel) (by decide +kernel) hXZ hS (hl.1.trans hml.symm) htb dX3_cells_10 dX3_cells_13 dX3_cells_14 dX3_cells_16 dX3_cells_19 (Nat.le_of_ble_eq_true rfl) (Nat.le_of_ble_eq_true rfl) (Nat.le_refl _) (Nat.le_refl _) hlocks (rfl) hP hK hD

set_option maxHeartbeats 4000000 in
set_option maxRecDepth 100000 in
theorem c_X3_choose (l : Launch) (D : va_G) (cD : ClassId) (g r rd rm q f n kd lim sol ord : Nat) (dd mm : Nat → UInt64) (gone : UInt64) (cst cfl crf : Int32) (e1 e2 e3 e4 : Nat) (h1 : e1 ≤ 2) (h2 : e2 ≤ 3) (h3 : e3 ≤ 1) (h4 : 1 ≤ e4) (h5 : e4 ≤ 2) : fz_C l D [(cD, .double)] yX3_choose wsX3_choose ({ frames := 2, cells := 0, slots := 0, locals := 60 }) [.ref g, .int (nI e1), .int (nI e2), .int (nI e3), .int (nI e4)] [(g, .inr (3, [.ref r, .ref q, .ref f, .int (nI kd), .int (nI lim), .int (nI sol), .int (nI ord), .double gone, .int cst, .int cfl, .int crf])), (r, .inr (1, [.ref rd, .ref rm, .int (nI n)])), (rd, fz_da cD 28 dd), (rm, fz_da cD 28 mm)] [(g, .inr (3, [.ref r, .ref q, .ref f, .int (nI e1), .int (nI e2), .int (nI e3), .int (nI e4), .double gone, .int cst, .int cfl, .int crf])), (r, .inr (1, [.ref rd, .ref rm, .int (nI n)])), (rd, fz_da cD 28 dd), (rm, fz_da cD 28 mm)] (none) := by
  refine fz_start (cc := cX3_choose) (maxL := 5) (ret := none) (by decide) rfl (Nat.le_of_ble_eq_true rfl) ?_
  intro p e s m below meth c A hx hb hr hlocks hml hown hts hK hA hNW H locs hP hD hS ls hl
  have hl : lv_has ls 5 [(0, .ref g), (1, .int (nI e1)), (2, .int (nI e2)), (3, .int (nI e3)), (4, .int (nI e4))] := hl
  have hown : s.vm.findClass RX3 = some m.cls := hown
  have hw_fieldLink_RX3_26_FlowGrid_ends_I := hts (.fieldLink RX3 26 "FlowGrid" "ends" "I") (by decide +kernel)
  have hin_X3 : ∀ w ∈ u_ws RX3 TX3 11, w ∈ wsX3_choose := by decide +kernel
  have hw_fieldLink_RX3_30_FlowGrid_limiter_I := hts (.fieldLink RX3 30 "FlowGrid" "limiter" "I") (by decide +kernel)
  have hw_fieldLink_RX3_33_FlowGrid_solver_I := hts (.fieldLink RX3 33 "FlowGrid" "solver" "I") (by decide +kernel)
  have hw_fieldLink_RX3_36_FlowGrid_order_I := hts (.fieldLink RX3 36 "FlowGrid" "order" "I") (by decide +kernel)
  refine lv_iload_n hx hb dX3_choose_0 rfl (lv_at hl 1 rfl) ?_
  refine lv_iconst (v := nI 0) hx hb dX3_choose_1 (by decide) ?_
  refine lv_iconst (v := nI 2) hx hb dX3_choose_2 (by decide) ?_
  refine fz_callS (ws' := [(g, .inr (3, [.ref r, .ref q, .ref f, .int (nI kd), .int (nI lim), .int (nI sol), .int (nI ord), .double gone, .int cst, .int cfl, .int crf])), (r, .inr (1, [.ref rd, .ref rm, .int (nI n)])), (rd, fz_da cD 28 dd), (rm, fz_da cD 28 mm)]) (wr := [(g, .inr (3, [.ref r, .ref q, .ref f, .int (nI kd), .int (nI lim), .int (nI sol), .int (nI ord), .double gone, .int cst, .int cfl, .int crf])), (r, .inr (1, [.ref rd, .ref rm, .int (nI n)])), (rd, fz_da cD 28 dd), (rm, fz_da cD 28 mm)]) (As := [.int (nI e1), .int (nI 0), .int (nI 2)]) (rest := []) ⟨hx, hb, hml, hown, hts⟩ (c_X3_isWithin l D cD (nI e1) (nI 0) (nI 2)) (va_cwS 3 hts gX3_choose_X3_isWithin rfl rfl rfl (by decide +kernel) ⟨Nat.le_of_ble_eq_true rfl, Nat.le_of_ble_eq_true rfl⟩) hK hNW hP hD hS hA [] [0, 1, 2, 3] [0, 1, 2, 3] rfl rfl rfl rfl (by decide) rfl rfl rfl hl.1 rfl (Nat.le_of_ble_eq_true rfl) dX3_choose_3 ⟨Nat.zero_le _, Nat.zero_le _⟩ (fun H locs hP hD hS => ?_)
  refine lv_if_eq (tgt := 37) hx hb dX3_choose_6 (by decide) (fun c6 => absurd c6 (by rw [fz_in1 (by omega) h1 (by decide)]; decide)) (fun c6 => ?_)
  refine lv_iload_n hx hb dX3_choose_9 rfl (lv_at hl 2 rfl) ?_
  refine lv_iconst (v := nI 0) hx hb dX3_choose_10 (by decide) ?_
  refine lv_iconst (v := nI 3) hx hb dX3_choose_11 (by decide) ?_
  refine fz_callS (ws' := [(g, .inr (3, [.ref r, .ref q, .ref f, .int (nI kd), .int (nI lim), .int (nI sol), .int (nI ord), .double gone, .int cst, .int cfl, .int crf])), (r, .inr (1, [.ref rd, .ref rm, .int (nI n)])), (rd, fz_da cD 28 dd), (rm, fz_da cD 28 mm)]) (wr := [(g, .inr (3, [.ref r, .ref q, .ref f, .int (nI kd), .int (nI lim), .int (nI sol), .int (nI ord), .double gone, .int cst, .int cfl, .int crf])), (r, .inr (1, [.ref rd, .ref rm, .int (nI n)])), (rd, fz_da cD 28 dd), (rm, fz_da cD 28 mm)]) (As := [.int (nI e2), .int (nI 0), .int (nI 3)]) (rest := []) ⟨hx, hb, hml, hown, hts⟩ (c_X3_isWithin l D cD (nI e2) (nI 0) (nI 3)) (va_cwS 3 hts gX3_choose_X3_isWithin rfl rfl rfl (by decide +kernel) ⟨Nat.le_of_ble_eq_true rfl, Nat.le_of_ble_eq_true rfl⟩) hK hNW hP hD hS hA [] [0, 1, 2, 3] [0, 1, 2, 3] rfl rfl rfl rfl (by decide) rfl rfl rfl hl.1 rfl (Nat.le_of_ble_eq_true rfl) dX3_choose_12 ⟨Nat.zero_le _, Nat.zero_le _⟩ (fun H locs hP hD hS => ?_)
  refine lv_if_eq (tgt := 37) hx hb dX3_choose_15 (by decide) (fun c15 => absurd c15 (by rw [fz_in1 (by omega) h2 (by decide)]; decide)) (fun c15 => ?_)
  refine lv_iload_n hx hb dX3_choose_18 rfl (lv_at hl 3 rfl) ?_
  refine lv_iconst (v := nI 0) hx hb dX3_choose_19 (by decide) ?_
  refine lv_iconst (v := nI 1) hx hb dX3_choose_20 (by decide) ?_
  refine fz_callS (ws' := [(g, .inr (3, [.ref r, .ref q, .ref f, .int (nI kd), .int (nI lim), .int (nI sol), .int (nI ord), .double gone, .int cst, .int cfl, .int crf])), (r, .inr (1, [.ref rd, .ref rm, .int (nI n)])), (rd, fz_da cD 28 dd), (rm, fz_da cD 28 mm)]) (wr := [(g, .inr (3, [.ref r, .ref q, .ref f, .int (nI kd), .int (nI lim), .int (nI sol), .int (nI ord), .double gone, .int cst, .int cfl, .int crf])), (r, .inr (1, [.ref rd, .ref rm, .int (nI n)])), (rd, fz_da cD 28 dd), (rm, fz_da cD 28 mm)]) (As := [.int (nI e3), .int (nI 0), .int (nI 1)]) (rest := []) ⟨hx, hb, hml, hown, hts⟩ (c_X3_isWithin l D cD (nI e3) (nI 0) (nI 1)) (va_cwS 3 hts gX3_choose_X3_isWithin rfl rfl rfl (by decide +kernel) ⟨Nat.le_of_ble_eq_true rfl, Nat.le_of_ble_eq_true rfl⟩) hK hNW hP hD hS hA [] [0, 1, 2, 3] [0, 1, 2, 3] rfl rfl rfl rfl (by decide) rfl rfl rfl hl.1 rfl (Nat.le_of_ble_eq_true rfl) dX3_choose_21 ⟨Nat.zero_le _, Nat.zero_le _⟩ (fun H locs hP hD hS => ?_)
  refine lv_if_eq (tgt := 37) hx hb dX3_choose_24 (by decide) (fun c24 => absurd c24 (by rw [fz_in1 (by omega) h3 (by decide)]; decide)) (fun c24 => ?_)
  refine lv_iload hx hb dX3_choose_27 (lv_at hl 4 rfl) ?_
  refine lv_iconst (v := nI 1) hx hb dX3_choose_29 (by decide) ?_
  refine lv_iconst (v := nI 2) hx hb dX3_choose_30 (by decide) ?_
  refine fz_callS (ws' := [(g, .inr (3, [.ref r, .ref q, .ref f, .int (nI kd), .int (nI lim), .int (nI sol), .int (nI ord), .double gone, .int cst, .int cfl, .int crf])), (r, .inr (1, [.ref rd, .ref rm, .int (nI n)])), (rd, fz_da cD 28 dd), (rm, fz_da cD 28 mm)]) (wr := [(g, .inr (3, [.ref r, .ref q, .ref f, .int (nI kd), .int (nI lim), .int (nI sol), .int (nI ord), .double gone, .int cst, .int cfl, .int crf])), (r, .inr (1, [.ref rd, .ref rm, .int (nI n)])), (rd, fz_da cD 28 dd), (rm, fz_da cD 28 mm)]) (As := [.int (nI e4), .int (nI 1), .int (nI 2)]) (rest := []) ⟨hx, hb, hml, hown, hts⟩ (c_X3_isWithin l D cD (nI e4) (nI 1) (nI 2)) (va_cwS 3 hts gX3_choose_X3_isWithin rfl rfl rfl (by decide +kernel) ⟨Nat.le_of_ble_eq_true rfl, Nat.le_of_ble_eq_true rfl⟩) hK hNW hP hD hS hA [] [0, 1, 2, 3] [0, 1, 2, 3] rfl rfl rfl rfl (by decide) rfl rfl rfl hl.1 rfl (Nat.le_of_ble_eq_true rfl) dX3_choose_31 ⟨Nat.zero_le _, Nat.zero_le _⟩ (fun H locs hP hD hS => ?_)
  refine lv_if_ne (tgt := 47) hx hb dX3_choose_34 (by decide) (fun c34 => ?_) (fun c34 => absurd c34 (by rw [fz_in1 h4 h5 (by decide)]; decide))
  refine lv_aload_n hx hb dX3_choose_47 rfl (lv_at hl 0 rfl) ?_
  refine lv_iload_n hx hb dX3_choose_48 rfl (lv_at hl 1 rfl) ?_
  refine va_put (D := D) (ci := 3) (v := .int (nI e1)) (ty := .int) (C := RX3) (T := TX3) (N := 11) hx hb hts hin_X3 tyX3 tyX3_ok nmX3 hown hK hP hD hS 0 rfl rfl 3 (by decide) hw_fieldLink_RX3_26_FlowGrid_ends_I (fun _ h9 => h9) rfl (by decide +kernel) rfl rfl (Nat.le_of_ble_eq_true rfl) dX3_choose_49 (fun H locs hP hD hS => ?_)
  have hP : va_P D vwCl [(g, .inr (3, [.ref r, .ref q, .ref f, .int (nI e1), .int (nI lim), .int (nI sol), .int (nI ord), .double gone, .int cst, .int cfl, .int crf])), (r, .inr (1, [.ref rd, .ref rm, .int (nI n)])), (rd, fz_da cD 28 dd), (rm, fz_da cD 28 mm)] H := hP
  have hD : va_D A [(g, .inr (3, [.ref r, .ref q, .ref f, .int (nI e1), .int (nI lim), .int (nI sol), .int (nI ord), .double gone, .int cst, .int cfl, .int crf])), (r, .inr (1, [.ref rd, .ref rm, .int (nI n)])), (rd, fz_da cD 28 dd), (rm, fz_da cD 28 mm)] := hD
  refine lv_aload_n hx hb dX3_choose_52 rfl (lv_at hl 0 rfl) ?_
  refine lv_iload_n hx hb dX3_choose_53 rfl (lv_at hl 2 rfl) ?_
  refine va_put (D := D) (ci := 3) (v := .int (nI e2)) (ty := .int) (C := RX3) (T := TX3) (N := 11) hx hb hts hin_X3 tyX3 tyX3_ok nmX3 hown hK hP hD hS 0 rfl rfl 4 (by decide) hw_fieldLink_RX3_30_FlowGrid_limiter_I (fun _ h9 => h9) rfl (by decide +kernel) rfl rfl (Nat.le_of_ble_eq_true rfl) dX3_choose_54 (fun H locs hP hD hS => ?_)
  have hP : va_P D vwCl [(g, .inr (3, [.ref r, .ref q, .ref f, .int (nI e1), .int (nI e2), .int (nI sol), .int (nI ord), .double gone, .int cst, .int cfl, .int crf])), (r, .inr (1, [.ref rd, .ref rm, .int (nI n)])), (rd, fz_da cD 28 dd), (rm, fz_da cD 28 mm)] H := hP
  have hD : va_D A [(g, .inr (3, [.ref r, .ref q, .ref f, .int (nI e1), .int (nI e2), .int (nI sol), .int (nI ord), .double gone, .int cst, .int cfl, .int crf])), (r, .inr (1, [.ref rd, .ref rm, .int (nI n)])), (rd, fz_da cD 28 dd), (rm, fz_da cD 28 mm)] := hD
  refine lv_aload_n hx hb dX3_choose_57 rfl (lv_at hl 0 rfl) ?_
  refine lv_iload_n hx hb dX3_choose_58 rfl (lv_at hl 3 rfl) ?_
  refine va_put (D := D) (ci := 3) (v := .int (nI e3)) (ty := .int) (C := RX3) (T := TX3) (N := 11) hx hb hts hin_X3 tyX3 tyX3_ok nmX3 hown hK hP hD hS 0 rfl rfl 5 (by decide) hw_fieldLink_RX3_33_FlowGrid_solver_I (fun _ h9 => h9) rfl (by decide +kernel) rfl rfl (Nat.le_of_ble_eq_true rfl) dX3_choose_59 (fun H locs hP hD hS => ?_)
  have hP : va_P D vwCl [(g, .inr (3, [.ref r, .ref q, .ref f, .int (nI e1), .int (nI e2), .int (nI e3), .int (nI ord), .double gone, .int cst, .int cfl, .int crf])), (r, .inr (1, [.ref rd, .ref rm, .int (nI n)])), (rd, fz_da cD 28 dd), (rm, fz_da cD 28 mm)] H := hP
  have hD : va_D A [(g, .inr (3, [.ref r, .ref q, .ref f, .int (nI e1), .int (nI e2), .int (nI e3), .int (nI ord), .double gone, .int cst, .int cfl, .int crf])), (r, .inr (1, [.ref rd, .ref rm, .int (nI n)])), (rd, fz_da cD 28 dd), (rm, fz_da cD 28 mm)] := hD
  refine lv_aload_n hx hb dX3_choose_62 rfl (lv_at hl 0 rfl) ?_
  refine lv_iload hx hb dX3_choose_63 (lv_at hl 4 rfl) ?_
  refine va_put (D := D) (ci := 3) (v := .int (nI e4)) (ty := .int) (C := RX3) (T := TX3) (N := 11) hx hb hts hin_X3 tyX3 tyX3_ok nmX3 hown hK hP hD hS 0 rfl rfl 6 (by decide) hw_fieldLink_RX3_36_FlowGrid_order_I (fun _ h9 => h9) rfl (by decide +kernel) rfl rfl (Nat.le_of_ble_eq_true rfl) dX3_choose_65 (fun H locs hP hD hS => ?_)
  have hP : va_P D vwCl [(g, .inr (3, [.ref r, .ref q, .ref f, .int (nI e1), .int (nI e2), .int (nI e3), .int (nI e4), .double gone, .int cst, .int cfl, .int crf])), (r, .inr (1, [.ref rd, .ref rm, .int (nI n)])), (rd, fz_da cD 28 dd), (rm, fz_da cD 28 mm)] H := hP
  have hD : va_D A [(g, .inr (3, [.ref r, .ref q, .ref f, .int (nI e1), .int (nI e2), .int (nI e3), .int (nI e4), .double gone, .int cst, .int cfl, .int crf])), (r, .inr (1, [.ref rd, .ref rm, .int (nI n)])), (rd, fz_da cD 28 dd), (rm, fz_da cD 28 mm)] := hD
  exact fz_vret hx hb hr hlocks (rfl) hP hK hD hS dX3_choose_68

set_option maxHeartbeats 4000000 in
set_option maxRecDepth 100000 in
theorem c_X3_chooseT (l : Launch) (hlt : l.stackTraces = false) (D : va_G) (cD : ClassId) (g r rd rm q f n kd lim sol ord : Nat) (dd mm : Nat → UInt64) (gone : UInt64) (cst cfl crf : Int32) (e1 e2 e3 e4 : Int32) (hv : ¬ (¬ fz_in e1 (nI 0) (nI 2) = 0 ∧ ¬ fz_in e2 (nI 0) (nI 3) = 0 ∧ ¬ fz_in e3 (nI 0) (nI 1) = 0 ∧ ¬ fz_in e4 (nI 1) (nI 2) = 0)) : fz_T l D [(cD, .double)] yX3_choose wsX3_choose ({ frames := 6, cells := 1, slots := 6, locals := 90 }) [.ref g, .int e1, .int e2, .int e3, .int e4] [(g, .inr (3, [.ref r, .ref q, .ref f, .int (nI kd), .int (nI lim), .int (nI sol), .int (nI ord), .double gone, .int cst, .int cfl, .int crf])), (r, .inr (1, [.ref rd, .ref rm, .int (nI n)])), (rd, fz_da cD 28 dd), (rm, fz_da cD 28 mm)] fz_IAE (fun wo => wo = [(g, .inr (3, [.ref r, .ref q, .ref f, .int (nI kd), .int (nI lim), .int (nI sol), .int (nI ord), .double gone, .int cst, .int cfl, .int crf])), (r, .inr (1, [.ref rd, .ref rm, .int (nI n)])), (rd, fz_da cD 28 dd), (rm, fz_da cD 28 mm)]) := by
  refine fz_startT (cc := cX3_choose) (maxL := 5) (ret := none) (by decide) rfl (Nat.le_of_ble_eq_true rfl) ?_
  intro p e s m below meth c A hx hb hr hlocks hml hown hts hK hA hNW htb hST hCA hXZ H locs hP hD hS ls hl
  have hl : lv_has ls 5 [(0, .ref g), (1, .int e1), (2, .int e2), (3, .int e3), (4, .int e4)] := hl
  have hown : s.vm.findClass RX3 = some m.cls := hown
  have hw_classLink_RX3_60_java_lang_IllegalArgumentException := hts (.classLink RX3 60 "java/lang/IllegalArgumentException") (by decide +kernel)
  have hw_initialized_java_lang_IllegalArgumentException := hts (.initialized "java/lang/IllegalArgumentException") (by decide +kernel)
  have hmemX_64 : ∀ w ∈ (vx_atS "FlowGrid" 64 fz_IAE ["java/lang/RuntimeException", "java/lang/Exception"]).filter goodWord, w ∈ wsX3_choose := by decide +kernel
  refine lv_iload_n hx hb dX3_choose_0 rfl (lv_at hl 1 rfl) ?_
  refine lv_iconst (v := nI 0) hx hb dX3_choose_1 (by decide) ?_
  refine lv_iconst (v := nI 2) hx hb dX3_choose_2 (by decide) ?_
  refine fz_callS (ws' := [(g, .inr (3, [.ref r, .ref q, .ref f, .int (nI kd), .int (nI lim), .int (nI sol), .int (nI ord), .double gone, .int cst, .int cfl, .int crf])), (r, .inr (1, [.ref rd, .ref rm, .int (nI n)])), (rd, fz_da cD 28 dd), (rm, fz_da cD 28 mm)]) (wr := [(g, .inr (3, [.ref r, .ref q, .ref f, .int (nI kd), .int (nI lim), .int (nI sol), .int (nI ord), .double gone, .int cst, .int cfl, .int crf])), (r, .inr (1, [.ref rd, .ref rm, .int (nI n)])), (rd, fz_da cD 28 dd), (rm, fz_da cD 28 mm)]) (As := [.int e1, .int (nI 0), .int (nI 2)]) (rest := []) ⟨hx, hb, hml, hown, hts⟩ (c_X3_isWithin l D cD e1 (nI 0) (nI 2)) (va_cwS 3 hts gX3_choose_X3_isWithin rfl rfl rfl (by decide +kernel) ⟨Nat.le_of_ble_eq_true rfl, Nat.le_of_ble_eq_true rfl⟩) hK hNW hP hD hS hA [] [0, 1, 2, 3] [0, 1, 2, 3] rfl rfl rfl rfl (by decide) rfl rfl rfl hl.1 rfl (Nat.le_of_ble_eq_true rfl) dX3_choose_3 ⟨Nat.zero_le _, Nat.zero_le _⟩ (fun H locs hP hD hS => ?_)
  refine lv_if_eq (tgt := 37) hx hb dX3_choose_6 (by decide) (fun c6 => ?_) (fun c6 => ?_)
  · exact fz_throw (cls := fz_IAE) (text := "there is no such kind of ends, limiter, solver or order") (is := 67) (ic := 64) (ik := 60) hx hb hlt hts hown (by decide +kernel) hw_classLink_RX3_60_java_lang_IllegalArgumentException hw_initialized_java_lang_IllegalArgumentException hST (by decide +kernel) hCA (by decide +kernel) hmemX_64 (by decide +kernel) (by decide +kernel) hXZ hS (hl.1.trans hml.symm) htb dX3_choose_37 dX3_choose_40 dX3_choose_41 dX3_choose_43 dX3_choose_46 (Nat.le_of_ble_eq_true rfl) (Nat.le_of_ble_eq_true rfl) (Nat.le_refl _) (Nat.le_refl _) hlocks (rfl) hP hK hD
  · refine lv_iload_n hx hb dX3_choose_9 rfl (lv_at hl 2 rfl) ?_
    refine lv_iconst (v := nI 0) hx hb dX3_choose_10 (by decide) ?_
    refine lv_iconst (v := nI 3) hx hb dX3_choose_11 (by decide) ?_
    refine fz_callS (ws' := [(g, .inr (3, [.ref r, .ref q, .ref f, .int (nI kd), .int (nI lim), .int (nI sol), .int (nI ord), .double gone, .int cst, .int cfl, .int crf])), (r, .inr (1, [.ref rd, .ref rm, .int (nI n)])), (rd, fz_da cD 28 dd), (rm, fz_da cD 28 mm)]) (wr := [(g, .inr (3, [.ref r, .ref q, .ref f, .int (nI kd), .int (nI lim), .int (nI sol), .int (nI ord), .double gone, .int cst, .int cfl, .int crf])), (r, .inr (1, [.ref rd, .ref rm, .int (nI n)])), (rd, fz_da cD 28 dd), (rm, fz_da cD 28 mm)]) (As := [.int e2, .int (nI 0), .int (nI 3)]) (rest := []) ⟨hx, hb, hml, hown, hts⟩ (c_X3_isWithin l D cD e2 (nI 0) (nI 3)) (va_cwS 3 hts gX3_choose_X3_isWithin rfl rfl rfl (by decide +kernel) ⟨Nat.le_of_ble_eq_true rfl, Nat.le_of_ble_eq_true rfl⟩) hK hNW hP hD hS hA [] [0, 1, 2, 3] [0, 1, 2, 3] rfl rfl rfl rfl (by decide) rfl rfl rfl hl.1 rfl (Nat.le_of_ble_eq_true rfl) dX3_choose_12 ⟨Nat.zero_le _, Nat.zero_le _⟩ (fun H locs hP hD hS => ?_)
    refine lv_if_eq (tgt := 37) hx hb dX3_choose_15 (by decide) (fun c15 => ?_) (fun c15 => ?_)
    · exact fz_throw (cls := fz_IAE) (text := "there is no such kind of ends, limiter, solver or order") (is := 67) (ic := 64) (ik := 60) hx hb hlt hts hown (by decide +kernel) hw_classLink_RX3_60_java_lang_IllegalArgumentException hw_initialized_java_lang_IllegalArgumentException hST (by decide +kernel) hCA (by decide +kernel) hmemX_64 (by decide +kernel) (by decide +kernel) hXZ hS (hl.1.trans hml.symm) htb dX3_choose_37 dX3_choose_40 dX3_choose_41 dX3_choose_43 dX3_choose_46 (Nat.le_of_ble_eq_true rfl) (Nat.le_of_ble_eq_true rfl) (Nat.le_refl _) (Nat.le_refl _) hlocks (rfl) hP hK hD
    · refine lv_iload_n hx hb dX3_choose_18 rfl (lv_at hl 3 rfl) ?_
      refine lv_iconst (v := nI 0) hx hb dX3_choose_19 (by decide) ?_
      refine lv_iconst (v := nI 1) hx hb dX3_choose_20 (by decide) ?_
      refine fz_callS (ws' := [(g, .inr (3, [.ref r, .ref q, .ref f, .int (nI kd), .int (nI lim), .int (nI sol), .int (nI ord), .double gone, .int cst, .int cfl, .int crf])), (r, .inr (1, [.ref rd, .ref rm, .int (nI n)])), (rd, fz_da cD 28 dd), (rm, fz_da cD 28 mm)]) (wr := [(g, .inr (3, [.ref r, .ref q, .ref f, .int (nI kd), .int (nI lim), .int (nI sol), .int (nI ord), .double gone, .int cst, .int cfl, .int crf])), (r, .inr (1, [.ref rd, .ref rm, .int (nI n)])), (rd, fz_da cD 28 dd), (rm, fz_da cD 28 mm)]) (As := [.int e3, .int (nI 0), .int (nI 1)]) (rest := []) ⟨hx, hb, hml, hown, hts⟩ (c_X3_isWithin l D cD e3 (nI 0) (nI 1)) (va_cwS 3 hts gX3_choose_X3_isWithin rfl rfl rfl (by decide +kernel) ⟨Nat.le_of_ble_eq_true rfl, Nat.le_of_ble_eq_true rfl⟩) hK hNW hP hD hS hA [] [0, 1, 2, 3] [0, 1, 2, 3] rfl rfl rfl rfl (by decide) rfl rfl rfl hl.1 rfl (Nat.le_of_ble_eq_true rfl) dX3_choose_21 ⟨Nat.zero_le _, Nat.zero_le _⟩ (fun H locs hP hD hS => ?_)
      refine lv_if_eq (tgt := 37) hx hb dX3_choose_24 (by decide) (fun c24 => ?_) (fun c24 => ?_)
      · exact fz_throw (cls := fz_IAE) (text := "there is no such kind of ends, limiter, solver or order") (is := 67) (ic := 64) (ik := 60) hx hb hlt hts hown (by decide +kernel) hw_classLink_RX3_60_java_lang_IllegalArgumentException hw_initialized_java_lang_IllegalArgumentException hST (by decide +kernel) hCA (by decide +kernel) hmemX_64 (by decide +kernel) (by decide +kernel) hXZ hS (hl.1.trans hml.symm) htb dX3_choose_37 dX3_choose_40 dX3_choose_41 dX3_choose_43 dX3_choose_46 (Nat.le_of_ble_eq_true rfl) (Nat.le_of_ble_eq_true rfl) (Nat.le_refl _) (Nat.le_refl _) hlocks (rfl) hP hK hD
      · refine lv_iload hx hb dX3_choose_27 (lv_at hl 4 rfl) ?_
        refine lv_iconst (v := nI 1) hx hb dX3_choose_29 (by decide) ?_
        refine lv_iconst (v := nI 2) hx hb dX3_choose_30 (by decide) ?_
        refine fz_callS (ws' := [(g, .inr (3, [.ref r, .ref q, .ref f, .int (nI kd), .int (nI lim), .int (nI sol), .int (nI ord), .double gone, .int cst, .int cfl, .int crf])), (r, .inr (1, [.ref rd, .ref rm, .int (nI n)])), (rd, fz_da cD 28 dd), (rm, fz_da cD 28 mm)]) (wr := [(g, .inr (3, [.ref r, .ref q, .ref f, .int (nI kd), .int (nI lim), .int (nI sol), .int (nI ord), .double gone, .int cst, .int cfl, .int crf])), (r, .inr (1, [.ref rd, .ref rm, .int (nI n)])), (rd, fz_da cD 28 dd), (rm, fz_da cD 28 mm)]) (As := [.int e4, .int (nI 1), .int (nI 2)]) (rest := []) ⟨hx, hb, hml, hown, hts⟩ (c_X3_isWithin l D cD e4 (nI 1) (nI 2)) (va_cwS 3 hts gX3_choose_X3_isWithin rfl rfl rfl (by decide +kernel) ⟨Nat.le_of_ble_eq_true rfl, Nat.le_of_ble_eq_true rfl⟩) hK hNW hP hD hS hA [] [0, 1, 2, 3] [0, 1, 2, 3] rfl rfl rfl rfl (by decide) rfl rfl rfl hl.1 rfl (Nat.le_of_ble_eq_true rfl) dX3_choose_31 ⟨Nat.zero_le _, Nat.zero_le _⟩ (fun H locs hP hD hS => ?_)
        refine lv_if_ne (tgt := 47) hx hb dX3_choose_34 (by decide) (fun c34 => absurd c34 (fun h => hv ⟨c6, c15, c24, h⟩)) (fun c34 => ?_)
        exact fz_throw (cls := fz_IAE) (text := "there is no such kind of ends, limiter, solver or order") (is := 67) (ic := 64) (ik := 60) hx hb hlt hts hown (by decide +kernel) hw_classLink_RX3_60_java_lang_IllegalArgumentException hw_initialized_java_lang_IllegalArgumentException hST (by decide +kernel) hCA (by decide +kernel) hmemX_64 (by decide +kernel) (by decide +kernel) hXZ hS (hl.1.trans hml.symm) htb dX3_choose_37 dX3_choose_40 dX3_choose_41 dX3_choose_43 dX3_choose_46 (Nat.le_of_ble_eq_true rfl) (Nat.le_of_ble_eq_true rfl) (Nat.le_refl _) (Nat.le_refl _) hlocks (rfl) hP hK hD

set_option maxHeartbeats 4000000 in
set_option maxRecDepth 100000 in
theorem c_X3_put (l : Launch) (D : va_G) (cD : ClassId) (g r rd rm q f n kd lim sol ord : Nat) (dd mm : Nat → UInt64) (gone : UInt64) (cst cfl crf : Int32) (v : Nat) (hv : v < n) (hn : n ≤ 24) (x y : UInt64) (h1 : fz_le 4593671619917905920 x = true) (h2 : fz_le x 4626322717216342016 = true) (h3 : fz_le 13855605728582041600 y = true) (h4 : fz_le y 4632233691727265792 = true) : fz_C l D [(cD, .double)] yX3_put wsX3_put ({ frames := 2, cells := 0, slots := 0, locals := 60 }) [.ref g, .int (nI v), .double x, .double y] [(g, .inr (3, [.ref r, .ref q, .ref f, .int (nI kd), .int (nI lim), .int (nI sol), .int (nI ord), .double gone, .int cst, .int cfl, .int crf])), (r, .inr (1, [.ref rd, .ref rm, .int (nI n)])), (rd, fz_da cD 28 dd), (rm, fz_da cD 28 mm)] [(g, .inr (3, [.ref r, .ref q, .ref f, .int (nI kd), .int (nI lim), .int (nI sol), .int (nI ord), .double gone, .int cst, .int cfl, .int crf])), (r, .inr (1, [.ref rd, .ref rm, .int (nI n)])), (rd, fz_da cD 28 (vf_upd dd (v + 2) x)), (rm, fz_da cD 28 (vf_upd mm (v + 2) y))] (none) := by
  refine fz_start (cc := cX3_put) (maxL := 6) (ret := none) (by decide) rfl (Nat.le_of_ble_eq_true rfl) ?_
  intro p e s m below meth c A hx hb hr hlocks hml hown hts hK hA hNW H locs hP hD hS ls hl
  have hl : lv_has ls 6 [(0, .ref g), (1, .int (nI v)), (2, .double x), (4, .double y)] := hl
  have hown : s.vm.findClass RX3 = some m.cls := hown
  have hw_fieldLink_RX3_12_FlowGrid_now_LFlowGrid_Row := hts (.fieldLink RX3 12 "FlowGrid" "now" "LFlowGrid$Row;") (by decide +kernel)
  have hin_X3 : ∀ w ∈ u_ws RX3 TX3 11, w ∈ wsX3_put := by decide +kernel
  have hw_constantDouble_RX3_75_4593671619917905920 := hts (.constantDouble RX3 75 (4593671619917905920)) (by decide +kernel)
  have hw_constantDouble_RX3_77_4626322717216342016 := hts (.constantDouble RX3 77 (4626322717216342016)) (by decide +kernel)
  have hw_constantDouble_RX3_81_13855605728582041600 := hts (.constantDouble RX3 81 (13855605728582041600)) (by decide +kernel)
  have hw_constantDouble_RX3_83_4632233691727265792 := hts (.constantDouble RX3 83 (4632233691727265792)) (by decide +kernel)
  have hw_fieldLink_RX3_87_FlowGrid_Row_depths_D := hts (.fieldLink RX3 87 "FlowGrid$Row" "depths" "[D") (by decide +kernel)
  have hin_X1 : ∀ w ∈ u_ws RX1 TX1 3, w ∈ wsX3_put := by decide +kernel
  have hw_fieldLink_RX3_91_FlowGrid_Row_momenta_D := hts (.fieldLink RX3 91 "FlowGrid$Row" "momenta" "[D") (by decide +kernel)
  refine lv_aload_n hx hb dX3_put_0 rfl (lv_at hl 0 rfl) ?_
  refine va_get (D := D) (ci := 3) (v := .ref r) (C := RX3) (T := TX3) (N := 11) hx hb hts hin_X3 hown hK hP 0 rfl rfl 0 (by decide) hw_fieldLink_RX3_12_FlowGrid_now_LFlowGrid_Row (fun _ h9 => h9) rfl dX3_put_1 ?_
  refine lv_iload_n hx hb dX3_put_4 rfl (lv_at hl 1 rfl) ?_
  refine fz_callV (ws' := [(g, .inr (3, [.ref r, .ref q, .ref f, .int (nI kd), .int (nI lim), .int (nI sol), .int (nI ord), .double gone, .int cst, .int cfl, .int crf])), (r, .inr (1, [.ref rd, .ref rm, .int (nI n)])), (rd, fz_da cD 28 dd), (rm, fz_da cD 28 mm)]) (wr := [(g, .inr (3, [.ref r, .ref q, .ref f, .int (nI kd), .int (nI lim), .int (nI sol), .int (nI ord), .double gone, .int cst, .int cfl, .int crf]))]) (As := [.int (nI v)]) (rest := []) ⟨hx, hb, hml, hown, hts⟩ (c_X1_has l D cD r rd rm n dd mm (nI v)) (cwV 1 hts gX3_put_X1_has rfl rfl rfl (by decide +kernel) ⟨Nat.le_of_ble_eq_true rfl, Nat.le_of_ble_eq_true rfl⟩) hK hNW hP hD hS hA [1, 2, 3] [0] [0, 1, 2, 3] rfl rfl rfl rfl (by decide) rfl rfl (q0 := 1) (ci := 1) rfl rfl rfl rfl hl.1 rfl (Nat.le_of_ble_eq_true rfl) dX3_put_5 ⟨Nat.zero_le _, Nat.zero_le _⟩ (fun H locs hP hD hS => ?_)
  refine lv_if_ne (tgt := 21) hx hb dX3_put_8 (by decide) (fun c8 => ?_) (fun c8 => absurd c8 (fun h => absurd (fz_b0.mp h) (by rw [fz_has1 hv hn]; decide)))
  refine lv_dload_n hx hb dX3_put_21 rfl (lv_at hl 2 rfl) ?_
  refine lv_ldc2d hx hb hown hw_constantDouble_RX3_75_4593671619917905920 dX3_put_22 ?_
  refine fz_dl_lt (tgt := 37) hx hb dX3_put_25 dX3_put_26 (by decide) (fun c25 => absurd c25 (by rw [h1]; decide)) (fun c25 => ?_)
  refine lv_dload_n hx hb dX3_put_29 rfl (lv_at hl 2 rfl) ?_
  refine lv_ldc2d hx hb hown hw_constantDouble_RX3_77_4626322717216342016 dX3_put_30 ?_
  refine fz_dg_le (tgt := 47) hx hb dX3_put_33 dX3_put_34 (by decide) (fun c33 => ?_) (fun c33 => absurd c33 (by rw [h2]; decide))
  refine lv_dload hx hb dX3_put_47 (lv_at hl 3 rfl) ?_
  refine lv_ldc2d hx hb hown hw_constantDouble_RX3_81_13855605728582041600 dX3_put_49 ?_
  refine fz_dl_lt (tgt := 65) hx hb dX3_put_52 dX3_put_53 (by decide) (fun c52 => absurd c52 (by rw [h3]; decide)) (fun c52 => ?_)
  refine lv_dload hx hb dX3_put_56 (lv_at hl 3 rfl) ?_
  refine lv_ldc2d hx hb hown hw_constantDouble_RX3_83_4632233691727265792 dX3_put_58 ?_
  refine fz_dg_le (tgt := 75) hx hb dX3_put_61 dX3_put_62 (by decide) (fun c61 => ?_) (fun c61 => absurd c61 (by rw [h4]; decide))
  refine lv_aload_n hx hb dX3_put_75 rfl (lv_at hl 0 rfl) ?_
  refine va_get (D := D) (ci := 3) (v := .ref r) (C := RX3) (T := TX3) (N := 11) hx hb hts hin_X3 hown hK hP 0 rfl rfl 0 (by decide) hw_fieldLink_RX3_12_FlowGrid_now_LFlowGrid_Row (fun _ h9 => h9) rfl dX3_put_76 ?_
  refine va_get (D := D) (ci := 1) (v := .ref rd) (C := RX1) (T := TX1) (N := 3) hx hb hts hin_X1 hown hK hP 1 rfl rfl 0 (by decide) hw_fieldLink_RX3_87_FlowGrid_Row_depths_D (fun _ h9 => h9) rfl dX3_put_79 ?_
  refine lv_iconst (v := nI 2) hx hb dX3_put_82 (by decide) ?_
  refine lv_iload_n hx hb dX3_put_83 rfl (lv_at hl 1 rfl) ?_
  refine fz_iaddN hx hb dX3_put_84 ?_
  refine fz_topn (b := v + 2) (by omega) ?_
  refine lv_dload_n hx hb dX3_put_85 rfl (lv_at hl 2 rfl) ?_
  refine fz_dast (i := v + 2) hx hb hK hP hD hS 2 0 rfl rfl (by omega) (by decide) dX3_put_86 (fun H locs hP hD hS => ?_)
  have hP : va_P D vwCl [(g, .inr (3, [.ref r, .ref q, .ref f, .int (nI kd), .int (nI lim), .int (nI sol), .int (nI ord), .double gone, .int cst, .int cfl, .int crf])), (r, .inr (1, [.ref rd, .ref rm, .int (nI n)])), (rd, fz_da cD 28 (vf_upd dd (v + 2) x)), (rm, fz_da cD 28 mm)] H := hP
  have hD : va_D A [(g, .inr (3, [.ref r, .ref q, .ref f, .int (nI kd), .int (nI lim), .int (nI sol), .int (nI ord), .double gone, .int cst, .int cfl, .int crf])), (r, .inr (1, [.ref rd, .ref rm, .int (nI n)])), (rd, fz_da cD 28 (vf_upd dd (v + 2) x)), (rm, fz_da cD 28 mm)] := hD
  refine lv_aload_n hx hb dX3_put_87 rfl (lv_at hl 0 rfl) ?_
  refine va_get (D := D) (ci := 3) (v := .ref r) (C := RX3) (T := TX3) (N := 11) hx hb hts hin_X3 hown hK hP 0 rfl rfl 0 (by decide) hw_fieldLink_RX3_12_FlowGrid_now_LFlowGrid_Row (fun _ h9 => h9) rfl dX3_put_88 ?_
  refine va_get (D := D) (ci := 1) (v := .ref rm) (C := RX1) (T := TX1) (N := 3) hx hb hts hin_X1 hown hK hP 1 rfl rfl 1 (by decide) hw_fieldLink_RX3_91_FlowGrid_Row_momenta_D (fun _ h9 => h9) rfl dX3_put_91 ?_
  refine lv_iconst (v := nI 2) hx hb dX3_put_94 (by decide) ?_
  refine lv_iload_n hx hb dX3_put_95 rfl (lv_at hl 1 rfl) ?_
  refine fz_iaddN hx hb dX3_put_96 ?_
  refine fz_topn (b := v + 2) (by omega) ?_
  refine lv_dload hx hb dX3_put_97 (lv_at hl 3 rfl) ?_
  refine fz_dast (i := v + 2) hx hb hK hP hD hS 3 0 rfl rfl (by omega) (by decide) dX3_put_99 (fun H locs hP hD hS => ?_)
  have hP : va_P D vwCl [(g, .inr (3, [.ref r, .ref q, .ref f, .int (nI kd), .int (nI lim), .int (nI sol), .int (nI ord), .double gone, .int cst, .int cfl, .int crf])), (r, .inr (1, [.ref rd, .ref rm, .int (nI n)])), (rd, fz_da cD 28 (vf_upd dd (v + 2) x)), (rm, fz_da cD 28 (vf_upd mm (v + 2) y))] H := hP
  have hD : va_D A [(g, .inr (3, [.ref r, .ref q, .ref f, .int (nI kd), .int (nI lim), .int (nI sol), .int (nI ord), .double gone, .int cst, .int cfl, .int crf])), (r, .inr (1, [.ref rd, .ref rm, .int (nI n)])), (rd, fz_da cD 28 (vf_upd dd (v + 2) x)), (rm, fz_da cD 28 (vf_upd mm (v + 2) y))] := hD
  exact fz_vret hx hb hr hlocks (rfl) hP hK hD hS dX3_put_100

set_option maxHeartbeats 4000000 in
set_option maxRecDepth 100000 in
theorem c_X3_putT (l : Launch) (hlt : l.stackTraces = false) (D : va_G) (cD : ClassId) (g r rd rm q f n kd lim sol ord : Nat) (dd mm : Nat → UInt64) (gone : UInt64) (cst cfl crf : Int32) (v : Int32) (x y : UInt64) (hv : ¬ (fz_has v n = true ∧ fz_le 4593671619917905920 x = true ∧ fz_le x 4626322717216342016 = true ∧ fz_le 13855605728582041600 y = true ∧ fz_le y 4632233691727265792 = true)) : fz_T l D [(cD, .double)] yX3_put wsX3_put ({ frames := 6, cells := 1, slots := 6, locals := 90 }) [.ref g, .int v, .double x, .double y] [(g, .inr (3, [.ref r, .ref q, .ref f, .int (nI kd), .int (nI lim), .int (nI sol), .int (nI ord), .double gone, .int cst, .int cfl, .int crf])), (r, .inr (1, [.ref rd, .ref rm, .int (nI n)])), (rd, fz_da cD 28 dd), (rm, fz_da cD 28 mm)] fz_IAE (fun wo => wo = [(g, .inr (3, [.ref r, .ref q, .ref f, .int (nI kd), .int (nI lim), .int (nI sol), .int (nI ord), .double gone, .int cst, .int cfl, .int crf])), (r, .inr (1, [.ref rd, .ref rm, .int (nI n)])), (rd, fz_da cD 28 dd), (rm, fz_da cD 28 mm)]) := by
  refine fz_startT (cc := cX3_put) (maxL := 6) (ret := none) (by decide) rfl (Nat.le_of_ble_eq_true rfl) ?_
  intro p e s m below meth c A hx hb hr hlocks hml hown hts hK hA hNW htb hST hCA hXZ H locs hP hD hS ls hl
  have hl : lv_has ls 6 [(0, .ref g), (1, .int v), (2, .double x), (4, .double y)] := hl
  have hown : s.vm.findClass RX3 = some m.cls := hown
  have hw_fieldLink_RX3_12_FlowGrid_now_LFlowGrid_Row := hts (.fieldLink RX3 12 "FlowGrid" "now" "LFlowGrid$Row;") (by decide +kernel)
  have hin_X3 : ∀ w ∈ u_ws RX3 TX3 11, w ∈ wsX3_put := by decide +kernel
  have hw_constantDouble_RX3_75_4593671619917905920 := hts (.constantDouble RX3 75 (4593671619917905920)) (by decide +kernel)
  have hw_classLink_RX3_60_java_lang_IllegalArgumentException := hts (.classLink RX3 60 "java/lang/IllegalArgumentException") (by decide +kernel)
  have hw_initialized_java_lang_IllegalArgumentException := hts (.initialized "java/lang/IllegalArgumentException") (by decide +kernel)
  have hw_constantDouble_RX3_77_4626322717216342016 := hts (.constantDouble RX3 77 (4626322717216342016)) (by decide +kernel)
  have hw_constantDouble_RX3_81_13855605728582041600 := hts (.constantDouble RX3 81 (13855605728582041600)) (by decide +kernel)
  have hw_constantDouble_RX3_83_4632233691727265792 := hts (.constantDouble RX3 83 (4632233691727265792)) (by decide +kernel)
  have hmemX_64 : ∀ w ∈ (vx_atS "FlowGrid" 64 fz_IAE ["java/lang/RuntimeException", "java/lang/Exception"]).filter goodWord, w ∈ wsX3_put := by decide +kernel
  refine lv_aload_n hx hb dX3_put_0 rfl (lv_at hl 0 rfl) ?_
  refine va_get (D := D) (ci := 3) (v := .ref r) (C := RX3) (T := TX3) (N := 11) hx hb hts hin_X3 hown hK hP 0 rfl rfl 0 (by decide) hw_fieldLink_RX3_12_FlowGrid_now_LFlowGrid_Row (fun _ h9 => h9) rfl dX3_put_1 ?_
  refine lv_iload_n hx hb dX3_put_4 rfl (lv_at hl 1 rfl) ?_
  refine fz_callV (ws' := [(g, .inr (3, [.ref r, .ref q, .ref f, .int (nI kd), .int (nI lim), .int (nI sol), .int (nI ord), .double gone, .int cst, .int cfl, .int crf])), (r, .inr (1, [.ref rd, .ref rm, .int (nI n)])), (rd, fz_da cD 28 dd), (rm, fz_da cD 28 mm)]) (wr := [(g, .inr (3, [.ref r, .ref q, .ref f, .int (nI kd), .int (nI lim), .int (nI sol), .int (nI ord), .double gone, .int cst, .int cfl, .int crf]))]) (As := [.int v]) (rest := []) ⟨hx, hb, hml, hown, hts⟩ (c_X1_has l D cD r rd rm n dd mm v) (cwV 1 hts gX3_put_X1_has rfl rfl rfl (by decide +kernel) ⟨Nat.le_of_ble_eq_true rfl, Nat.le_of_ble_eq_true rfl⟩) hK hNW hP hD hS hA [1, 2, 3] [0] [0, 1, 2, 3] rfl rfl rfl rfl (by decide) rfl rfl (q0 := 1) (ci := 1) rfl rfl rfl rfl hl.1 rfl (Nat.le_of_ble_eq_true rfl) dX3_put_5 ⟨Nat.zero_le _, Nat.zero_le _⟩ (fun H locs hP hD hS => ?_)
  refine lv_if_ne (tgt := 21) hx hb dX3_put_8 (by decide) (fun c8 => ?_) (fun c8 => ?_)
  · refine lv_dload_n hx hb dX3_put_21 rfl (lv_at hl 2 rfl) ?_
    refine lv_ldc2d hx hb hown hw_constantDouble_RX3_75_4593671619917905920 dX3_put_22 ?_
    refine fz_dl_lt (tgt := 37) hx hb dX3_put_25 dX3_put_26 (by decide) (fun c25 => ?_) (fun c25 => ?_)
    · exact fz_throw (cls := fz_IAE) (text := "the depth is not 0.125 .. 20.0") (is := 79) (ic := 64) (ik := 60) hx hb hlt hts hown (by decide +kernel) hw_classLink_RX3_60_java_lang_IllegalArgumentException hw_initialized_java_lang_IllegalArgumentException hST (by decide +kernel) hCA (by decide +kernel) hmemX_64 (by decide +kernel) (by decide +kernel) hXZ hS (hl.1.trans hml.symm) htb dX3_put_37 dX3_put_40 dX3_put_41 dX3_put_43 dX3_put_46 (Nat.le_of_ble_eq_true rfl) (Nat.le_of_ble_eq_true rfl) (Nat.le_refl _) (Nat.le_refl _) hlocks (rfl) hP hK hD
    · refine lv_dload_n hx hb dX3_put_29 rfl (lv_at hl 2 rfl) ?_
      refine lv_ldc2d hx hb hown hw_constantDouble_RX3_77_4626322717216342016 dX3_put_30 ?_
      refine fz_dg_le (tgt := 47) hx hb dX3_put_33 dX3_put_34 (by decide) (fun c33 => ?_) (fun c33 => ?_)
      · refine lv_dload hx hb dX3_put_47 (lv_at hl 3 rfl) ?_
        refine lv_ldc2d hx hb hown hw_constantDouble_RX3_81_13855605728582041600 dX3_put_49 ?_
        refine fz_dl_lt (tgt := 65) hx hb dX3_put_52 dX3_put_53 (by decide) (fun c52 => ?_) (fun c52 => ?_)
        · exact fz_throw (cls := fz_IAE) (text := "the momentum is not -50.0 .. 50.0") (is := 85) (ic := 64) (ik := 60) hx hb hlt hts hown (by decide +kernel) hw_classLink_RX3_60_java_lang_IllegalArgumentException hw_initialized_java_lang_IllegalArgumentException hST (by decide +kernel) hCA (by decide +kernel) hmemX_64 (by decide +kernel) (by decide +kernel) hXZ hS (hl.1.trans hml.symm) htb dX3_put_65 dX3_put_68 dX3_put_69 dX3_put_71 dX3_put_74 (Nat.le_of_ble_eq_true rfl) (Nat.le_of_ble_eq_true rfl) (Nat.le_refl _) (Nat.le_refl _) hlocks (rfl) hP hK hD
        · refine lv_dload hx hb dX3_put_56 (lv_at hl 3 rfl) ?_
          refine lv_ldc2d hx hb hown hw_constantDouble_RX3_83_4632233691727265792 dX3_put_58 ?_
          refine fz_dg_le (tgt := 75) hx hb dX3_put_61 dX3_put_62 (by decide) (fun c61 => absurd c61 (by intro h; exact hv ⟨fz_b1.mp c8, c25, c33, c52, h⟩)) (fun c61 => ?_)
          exact fz_throw (cls := fz_IAE) (text := "the momentum is not -50.0 .. 50.0") (is := 85) (ic := 64) (ik := 60) hx hb hlt hts hown (by decide +kernel) hw_classLink_RX3_60_java_lang_IllegalArgumentException hw_initialized_java_lang_IllegalArgumentException hST (by decide +kernel) hCA (by decide +kernel) hmemX_64 (by decide +kernel) (by decide +kernel) hXZ hS (hl.1.trans hml.symm) htb dX3_put_65 dX3_put_68 dX3_put_69 dX3_put_71 dX3_put_74 (Nat.le_of_ble_eq_true rfl) (Nat.le_of_ble_eq_true rfl) (Nat.le_refl _) (Nat.le_refl _) hlocks (rfl) hP hK hD
      · exact fz_throw (cls := fz_IAE) (text := "the depth is not 0.125 .. 20.0") (is := 79) (ic := 64) (ik := 60) hx hb hlt hts hown (by decide +kernel) hw_classLink_RX3_60_java_lang_IllegalArgumentException hw_initialized_java_lang_IllegalArgumentException hST (by decide +kernel) hCA (by decide +kernel) hmemX_64 (by decide +kernel) (by decide +kernel) hXZ hS (hl.1.trans hml.symm) htb dX3_put_37 dX3_put_40 dX3_put_41 dX3_put_43 dX3_put_46 (Nat.le_of_ble_eq_true rfl) (Nat.le_of_ble_eq_true rfl) (Nat.le_refl _) (Nat.le_refl _) hlocks (rfl) hP hK hD
  · exact fz_throw (cls := fz_IAE) (text := "there is no such cell") (is := 73) (ic := 64) (ik := 60) hx hb hlt hts hown (by decide +kernel) hw_classLink_RX3_60_java_lang_IllegalArgumentException hw_initialized_java_lang_IllegalArgumentException hST (by decide +kernel) hCA (by decide +kernel) hmemX_64 (by decide +kernel) (by decide +kernel) hXZ hS (hl.1.trans hml.symm) htb dX3_put_11 dX3_put_14 dX3_put_15 dX3_put_17 dX3_put_20 (Nat.le_of_ble_eq_true rfl) (Nat.le_of_ble_eq_true rfl) (Nat.le_refl _) (Nat.le_refl _) hlocks (rfl) hP hK hD

set_option maxHeartbeats 4000000 in
set_option maxRecDepth 100000 in
theorem c_X3_cell0 (l : Launch) (D : va_G) (cD : ClassId) (g r rd rm q f n kd lim sol ord : Nat) (dd mm : Nat → UInt64) (gone : UInt64) (cst cfl crf : Int32) (v : Nat) (hv : v < n) (hn : n ≤ 24) : fz_C l D [(cD, .double)] yX3_cell wsX3_cell ({ frames := 2, cells := 0, slots := 0, locals := 60 }) [.ref g, .int (nI v), .int (nI 0)] [(g, .inr (3, [.ref r, .ref q, .ref f, .int (nI kd), .int (nI lim), .int (nI sol), .int (nI ord), .double gone, .int cst, .int cfl, .int crf])), (r, .inr (1, [.ref rd, .ref rm, .int (nI n)])), (rd, fz_da cD 28 dd), (rm, fz_da cD 28 mm)] [(g, .inr (3, [.ref r, .ref q, .ref f, .int (nI kd), .int (nI lim), .int (nI sol), .int (nI ord), .double gone, .int cst, .int cfl, .int crf])), (r, .inr (1, [.ref rd, .ref rm, .int (nI n)])), (rd, fz_da cD 28 dd), (rm, fz_da cD 28 mm)] (some (.double (dd (v + 2)))) := by
  refine fz_start (cc := cX3_cell) (maxL := 7) (ret := (some .double)) (by decide) rfl (Nat.le_of_ble_eq_true rfl) ?_
  intro p e s m below meth c A hx hb hr hlocks hml hown hts hK hA hNW H locs hP hD hS ls hl
  have hl : lv_has ls 7 [(0, .ref g), (1, .int (nI v)), (2, .int (nI 0))] := hl
  have hown : s.vm.findClass RX3 = some m.cls := hown
  have hw_fieldLink_RX3_12_FlowGrid_now_LFlowGrid_Row := hts (.fieldLink RX3 12 "FlowGrid" "now" "LFlowGrid$Row;") (by decide +kernel)
  have hin_X3 : ∀ w ∈ u_ws RX3 TX3 11, w ∈ wsX3_cell := by decide +kernel
  have hw_fieldLink_RX3_87_FlowGrid_Row_depths_D := hts (.fieldLink RX3 87 "FlowGrid$Row" "depths" "[D") (by decide +kernel)
  have hin_X1 : ∀ w ∈ u_ws RX1 TX1 3, w ∈ wsX3_cell := by decide +kernel
  have hw_fieldLink_RX3_91_FlowGrid_Row_momenta_D := hts (.fieldLink RX3 91 "FlowGrid$Row" "momenta" "[D") (by decide +kernel)
  refine lv_aload_n hx hb dX3_cell_0 rfl (lv_at hl 0 rfl) ?_
  refine va_get (D := D) (ci := 3) (v := .ref r) (C := RX3) (T := TX3) (N := 11) hx hb hts hin_X3 hown hK hP 0 rfl rfl 0 (by decide) hw_fieldLink_RX3_12_FlowGrid_now_LFlowGrid_Row (fun _ h9 => h9) rfl dX3_cell_1 ?_
  refine lv_iload_n hx hb dX3_cell_4 rfl (lv_at hl 1 rfl) ?_
  refine fz_callV (ws' := [(g, .inr (3, [.ref r, .ref q, .ref f, .int (nI kd), .int (nI lim), .int (nI sol), .int (nI ord), .double gone, .int cst, .int cfl, .int crf])), (r, .inr (1, [.ref rd, .ref rm, .int (nI n)])), (rd, fz_da cD 28 dd), (rm, fz_da cD 28 mm)]) (wr := [(g, .inr (3, [.ref r, .ref q, .ref f, .int (nI kd), .int (nI lim), .int (nI sol), .int (nI ord), .double gone, .int cst, .int cfl, .int crf]))]) (As := [.int (nI v)]) (rest := []) ⟨hx, hb, hml, hown, hts⟩ (c_X1_has l D cD r rd rm n dd mm (nI v)) (cwV 1 hts gX3_cell_X1_has rfl rfl rfl (by decide +kernel) ⟨Nat.le_of_ble_eq_true rfl, Nat.le_of_ble_eq_true rfl⟩) hK hNW hP hD hS hA [1, 2, 3] [0] [0, 1, 2, 3] rfl rfl rfl rfl (by decide) rfl rfl (q0 := 1) (ci := 1) rfl rfl rfl rfl hl.1 rfl (Nat.le_of_ble_eq_true rfl) dX3_cell_5 ⟨Nat.zero_le _, Nat.zero_le _⟩ (fun H locs hP hD hS => ?_)
  refine lv_if_ne (tgt := 21) hx hb dX3_cell_8 (by decide) (fun c8 => ?_) (fun c8 => absurd c8 (fun h => absurd (fz_b0.mp h) (by rw [fz_has1 hv hn]; decide)))
  refine lv_aload_n hx hb dX3_cell_21 rfl (lv_at hl 0 rfl) ?_
  refine va_get (D := D) (ci := 3) (v := .ref r) (C := RX3) (T := TX3) (N := 11) hx hb hts hin_X3 hown hK hP 0 rfl rfl 0 (by decide) hw_fieldLink_RX3_12_FlowGrid_now_LFlowGrid_Row (fun _ h9 => h9) rfl dX3_cell_22 ?_
  refine va_get (D := D) (ci := 1) (v := .ref rd) (C := RX1) (T := TX1) (N := 3) hx hb hts hin_X1 hown hK hP 1 rfl rfl 0 (by decide) hw_fieldLink_RX3_87_FlowGrid_Row_depths_D (fun _ h9 => h9) rfl dX3_cell_25 ?_
  refine lv_iconst (v := nI 2) hx hb dX3_cell_28 (by decide) ?_
  refine lv_iload_n hx hb dX3_cell_29 rfl (lv_at hl 1 rfl) ?_
  refine fz_iaddN hx hb dX3_cell_30 ?_
  refine fz_topn (b := v + 2) (by omega) ?_
  refine fz_dald (i := v + 2) hx hb hK hP 2 0 rfl rfl (by omega) (by decide) dX3_cell_31 ?_
  refine lv_dstore_n (lv' := [(3, .double (dd (v + 2))), (0, .ref g), (1, .int (nI v)), (2, .int (nI 0))]) hx hb dX3_cell_32 rfl hl (by decide) rfl (fun ls hl => ?_)
  refine lv_aload_n hx hb dX3_cell_33 rfl (lv_at hl 1 rfl) ?_
  refine va_get (D := D) (ci := 3) (v := .ref r) (C := RX3) (T := TX3) (N := 11) hx hb hts hin_X3 hown hK hP 0 rfl rfl 0 (by decide) hw_fieldLink_RX3_12_FlowGrid_now_LFlowGrid_Row (fun _ h9 => h9) rfl dX3_cell_34 ?_
  refine va_get (D := D) (ci := 1) (v := .ref rm) (C := RX1) (T := TX1) (N := 3) hx hb hts hin_X1 hown hK hP 1 rfl rfl 1 (by decide) hw_fieldLink_RX3_91_FlowGrid_Row_momenta_D (fun _ h9 => h9) rfl dX3_cell_37 ?_
  refine lv_iconst (v := nI 2) hx hb dX3_cell_40 (by decide) ?_
  refine lv_iload_n hx hb dX3_cell_41 rfl (lv_at hl 2 rfl) ?_
  refine fz_iaddN hx hb dX3_cell_42 ?_
  refine fz_topn (b := v + 2) (by omega) ?_
  refine fz_dald (i := v + 2) hx hb hK hP 3 0 rfl rfl (by omega) (by decide) dX3_cell_43 ?_
  refine lv_dstore (lv' := [(5, .double (mm (v + 2))), (3, .double (dd (v + 2))), (0, .ref g), (1, .int (nI v)), (2, .int (nI 0))]) hx hb dX3_cell_44 hl (by decide) rfl (fun ls hl => ?_)
  refine lv_iload_n hx hb dX3_cell_46 rfl (lv_at hl 4 rfl) ?_
  refine lv_tableIn (off := 29) (tgt := 76) hx hb dX3_cell_47 (by decide) (by decide) (by decide) (by decide) ?_
  refine lv_dload_n hx hb dX3_cell_76 rfl (lv_at hl 1 rfl) ?_
  exact fz_dret hx hb hr hlocks (rfl) hP hK hD hS dX3_cell_77

set_option maxHeartbeats 4000000 in
set_option maxRecDepth 100000 in
theorem c_X3_cell1 (l : Launch) (D : va_G) (cD : ClassId) (g r rd rm q f n kd lim sol ord : Nat) (dd mm : Nat → UInt64) (gone : UInt64) (cst cfl crf : Int32) (v : Nat) (hv : v < n) (hn : n ≤ 24) : fz_C l D [(cD, .double)] yX3_cell wsX3_cell ({ frames := 2, cells := 0, slots := 0, locals := 60 }) [.ref g, .int (nI v), .int (nI 1)] [(g, .inr (3, [.ref r, .ref q, .ref f, .int (nI kd), .int (nI lim), .int (nI sol), .int (nI ord), .double gone, .int cst, .int cfl, .int crf])), (r, .inr (1, [.ref rd, .ref rm, .int (nI n)])), (rd, fz_da cD 28 dd), (rm, fz_da cD 28 mm)] [(g, .inr (3, [.ref r, .ref q, .ref f, .int (nI kd), .int (nI lim), .int (nI sol), .int (nI ord), .double gone, .int cst, .int cfl, .int crf])), (r, .inr (1, [.ref rd, .ref rm, .int (nI n)])), (rd, fz_da cD 28 dd), (rm, fz_da cD 28 mm)] (some (.double (mm (v + 2)))) := by
  refine fz_start (cc := cX3_cell) (maxL := 7) (ret := (some .double)) (by decide) rfl (Nat.le_of_ble_eq_true rfl) ?_
  intro p e s m below meth c A hx hb hr hlocks hml hown hts hK hA hNW H locs hP hD hS ls hl
  have hl : lv_has ls 7 [(0, .ref g), (1, .int (nI v)), (2, .int (nI 1))] := hl
  have hown : s.vm.findClass RX3 = some m.cls := hown
  have hw_fieldLink_RX3_12_FlowGrid_now_LFlowGrid_Row := hts (.fieldLink RX3 12 "FlowGrid" "now" "LFlowGrid$Row;") (by decide +kernel)
  have hin_X3 : ∀ w ∈ u_ws RX3 TX3 11, w ∈ wsX3_cell := by decide +kernel
  have hw_fieldLink_RX3_87_FlowGrid_Row_depths_D := hts (.fieldLink RX3 87 "FlowGrid$Row" "depths" "[D") (by decide +kernel)
  have hin_X1 : ∀ w ∈ u_ws RX1 TX1 3, w ∈ wsX3_cell := by decide +kernel
  have hw_fieldLink_RX3_91_FlowGrid_Row_momenta_D := hts (.fieldLink RX3 91 "FlowGrid$Row" "momenta" "[D") (by decide +kernel)
  refine lv_aload_n hx hb dX3_cell_0 rfl (lv_at hl 0 rfl) ?_
  refine va_get (D := D) (ci := 3) (v := .ref r) (C := RX3) (T := TX3) (N := 11) hx hb hts hin_X3 hown hK hP 0 rfl rfl 0 (by decide) hw_fieldLink_RX3_12_FlowGrid_now_LFlowGrid_Row (fun _ h9 => h9) rfl dX3_cell_1 ?_
  refine lv_iload_n hx hb dX3_cell_4 rfl (lv_at hl 1 rfl) ?_
  refine fz_callV (ws' := [(g, .inr (3, [.ref r, .ref q, .ref f, .int (nI kd), .int (nI lim), .int (nI sol), .int (nI ord), .double gone, .int cst, .int cfl, .int crf])), (r, .inr (1, [.ref rd, .ref rm, .int (nI n)])), (rd, fz_da cD 28 dd), (rm, fz_da cD 28 mm)]) (wr := [(g, .inr (3, [.ref r, .ref q, .ref f, .int (nI kd), .int (nI lim), .int (nI sol), .int (nI ord), .double gone, .int cst, .int cfl, .int crf]))]) (As := [.int (nI v)]) (rest := []) ⟨hx, hb, hml, hown, hts⟩ (c_X1_has l D cD r rd rm n dd mm (nI v)) (cwV 1 hts gX3_cell_X1_has rfl rfl rfl (by decide +kernel) ⟨Nat.le_of_ble_eq_true rfl, Nat.le_of_ble_eq_true rfl⟩) hK hNW hP hD hS hA [1, 2, 3] [0] [0, 1, 2, 3] rfl rfl rfl rfl (by decide) rfl rfl (q0 := 1) (ci := 1) rfl rfl rfl rfl hl.1 rfl (Nat.le_of_ble_eq_true rfl) dX3_cell_5 ⟨Nat.zero_le _, Nat.zero_le _⟩ (fun H locs hP hD hS => ?_)
  refine lv_if_ne (tgt := 21) hx hb dX3_cell_8 (by decide) (fun c8 => ?_) (fun c8 => absurd c8 (fun h => absurd (fz_b0.mp h) (by rw [fz_has1 hv hn]; decide)))
  refine lv_aload_n hx hb dX3_cell_21 rfl (lv_at hl 0 rfl) ?_
  refine va_get (D := D) (ci := 3) (v := .ref r) (C := RX3) (T := TX3) (N := 11) hx hb hts hin_X3 hown hK hP 0 rfl rfl 0 (by decide) hw_fieldLink_RX3_12_FlowGrid_now_LFlowGrid_Row (fun _ h9 => h9) rfl dX3_cell_22 ?_
  refine va_get (D := D) (ci := 1) (v := .ref rd) (C := RX1) (T := TX1) (N := 3) hx hb hts hin_X1 hown hK hP 1 rfl rfl 0 (by decide) hw_fieldLink_RX3_87_FlowGrid_Row_depths_D (fun _ h9 => h9) rfl dX3_cell_25 ?_
  refine lv_iconst (v := nI 2) hx hb dX3_cell_28 (by decide) ?_
  refine lv_iload_n hx hb dX3_cell_29 rfl (lv_at hl 1 rfl) ?_
  refine fz_iaddN hx hb dX3_cell_30 ?_
  refine fz_topn (b := v + 2) (by omega) ?_
  refine fz_dald (i := v + 2) hx hb hK hP 2 0 rfl rfl (by omega) (by decide) dX3_cell_31 ?_
  refine lv_dstore_n (lv' := [(3, .double (dd (v + 2))), (0, .ref g), (1, .int (nI v)), (2, .int (nI 1))]) hx hb dX3_cell_32 rfl hl (by decide) rfl (fun ls hl => ?_)
  refine lv_aload_n hx hb dX3_cell_33 rfl (lv_at hl 1 rfl) ?_
  refine va_get (D := D) (ci := 3) (v := .ref r) (C := RX3) (T := TX3) (N := 11) hx hb hts hin_X3 hown hK hP 0 rfl rfl 0 (by decide) hw_fieldLink_RX3_12_FlowGrid_now_LFlowGrid_Row (fun _ h9 => h9) rfl dX3_cell_34 ?_
  refine va_get (D := D) (ci := 1) (v := .ref rm) (C := RX1) (T := TX1) (N := 3) hx hb hts hin_X1 hown hK hP 1 rfl rfl 1 (by decide) hw_fieldLink_RX3_91_FlowGrid_Row_momenta_D (fun _ h9 => h9) rfl dX3_cell_37 ?_
  refine lv_iconst (v := nI 2) hx hb dX3_cell_40 (by decide) ?_
  refine lv_iload_n hx hb dX3_cell_41 rfl (lv_at hl 2 rfl) ?_
  refine fz_iaddN hx hb dX3_cell_42 ?_
  refine fz_topn (b := v + 2) (by omega) ?_
  refine fz_dald (i := v + 2) hx hb hK hP 3 0 rfl rfl (by omega) (by decide) dX3_cell_43 ?_
  refine lv_dstore (lv' := [(5, .double (mm (v + 2))), (3, .double (dd (v + 2))), (0, .ref g), (1, .int (nI v)), (2, .int (nI 1))]) hx hb dX3_cell_44 hl (by decide) rfl (fun ls hl => ?_)
  refine lv_iload_n hx hb dX3_cell_46 rfl (lv_at hl 4 rfl) ?_
  refine lv_tableIn (off := 31) (tgt := 78) hx hb dX3_cell_47 (by decide) (by decide) (by decide) (by decide) ?_
  refine lv_dload hx hb dX3_cell_78 (lv_at hl 0 rfl) ?_
  exact fz_dret hx hb hr hlocks (rfl) hP hK hD hS dX3_cell_80

set_option maxHeartbeats 4000000 in
set_option maxRecDepth 100000 in
theorem c_X3_cell2 (l : Launch) (D : va_G) (cD : ClassId) (g r rd rm q f n kd lim sol ord : Nat) (dd mm : Nat → UInt64) (gone : UInt64) (cst cfl crf : Int32) (v : Nat) (hv : v < n) (hn : n ≤ 24) (hs : fz_stOk (dd (v + 2)) (mm (v + 2))) : fz_C l D [(cD, .double)] yX3_cell wsX3_cell ({ frames := 2, cells := 0, slots := 0, locals := 60 }) [.ref g, .int (nI v), .int (nI 2)] [(g, .inr (3, [.ref r, .ref q, .ref f, .int (nI kd), .int (nI lim), .int (nI sol), .int (nI ord), .double gone, .int cst, .int cfl, .int crf])), (r, .inr (1, [.ref rd, .ref rm, .int (nI n)])), (rd, fz_da cD 28 dd), (rm, fz_da cD 28 mm)] [(g, .inr (3, [.ref r, .ref q, .ref f, .int (nI kd), .int (nI lim), .int (nI sol), .int (nI ord), .double gone, .int cst, .int cfl, .int crf])), (r, .inr (1, [.ref rd, .ref rm, .int (nI n)])), (rd, fz_da cD 28 dd), (rm, fz_da cD 28 mm)] (some (.double (FP.ddiv (mm (v + 2)) (dd (v + 2))))) := by
  refine fz_start (cc := cX3_cell) (maxL := 7) (ret := (some .double)) (by decide) rfl (Nat.le_of_ble_eq_true rfl) ?_
  intro p e s m below meth c A hx hb hr hlocks hml hown hts hK hA hNW H locs hP hD hS ls hl
  have hl : lv_has ls 7 [(0, .ref g), (1, .int (nI v)), (2, .int (nI 2))] := hl
  have hown : s.vm.findClass RX3 = some m.cls := hown
  have hw_fieldLink_RX3_12_FlowGrid_now_LFlowGrid_Row := hts (.fieldLink RX3 12 "FlowGrid" "now" "LFlowGrid$Row;") (by decide +kernel)
  have hin_X3 : ∀ w ∈ u_ws RX3 TX3 11, w ∈ wsX3_cell := by decide +kernel
  have hw_fieldLink_RX3_87_FlowGrid_Row_depths_D := hts (.fieldLink RX3 87 "FlowGrid$Row" "depths" "[D") (by decide +kernel)
  have hin_X1 : ∀ w ∈ u_ws RX1 TX1 3, w ∈ wsX3_cell := by decide +kernel
  have hw_fieldLink_RX3_91_FlowGrid_Row_momenta_D := hts (.fieldLink RX3 91 "FlowGrid$Row" "momenta" "[D") (by decide +kernel)
  refine lv_aload_n hx hb dX3_cell_0 rfl (lv_at hl 0 rfl) ?_
  refine va_get (D := D) (ci := 3) (v := .ref r) (C := RX3) (T := TX3) (N := 11) hx hb hts hin_X3 hown hK hP 0 rfl rfl 0 (by decide) hw_fieldLink_RX3_12_FlowGrid_now_LFlowGrid_Row (fun _ h9 => h9) rfl dX3_cell_1 ?_
  refine lv_iload_n hx hb dX3_cell_4 rfl (lv_at hl 1 rfl) ?_
  refine fz_callV (ws' := [(g, .inr (3, [.ref r, .ref q, .ref f, .int (nI kd), .int (nI lim), .int (nI sol), .int (nI ord), .double gone, .int cst, .int cfl, .int crf])), (r, .inr (1, [.ref rd, .ref rm, .int (nI n)])), (rd, fz_da cD 28 dd), (rm, fz_da cD 28 mm)]) (wr := [(g, .inr (3, [.ref r, .ref q, .ref f, .int (nI kd), .int (nI lim), .int (nI sol), .int (nI ord), .double gone, .int cst, .int cfl, .int crf]))]) (As := [.int (nI v)]) (rest := []) ⟨hx, hb, hml, hown, hts⟩ (c_X1_has l D cD r rd rm n dd mm (nI v)) (cwV 1 hts gX3_cell_X1_has rfl rfl rfl (by decide +kernel) ⟨Nat.le_of_ble_eq_true rfl, Nat.le_of_ble_eq_true rfl⟩) hK hNW hP hD hS hA [1, 2, 3] [0] [0, 1, 2, 3] rfl rfl rfl rfl (by decide) rfl rfl (q0 := 1) (ci := 1) rfl rfl rfl rfl hl.1 rfl (Nat.le_of_ble_eq_true rfl) dX3_cell_5 ⟨Nat.zero_le _, Nat.zero_le _⟩ (fun H locs hP hD hS => ?_)
  refine lv_if_ne (tgt := 21) hx hb dX3_cell_8 (by decide) (fun c8 => ?_) (fun c8 => absurd c8 (fun h => absurd (fz_b0.mp h) (by rw [fz_has1 hv hn]; decide)))
  refine lv_aload_n hx hb dX3_cell_21 rfl (lv_at hl 0 rfl) ?_
  refine va_get (D := D) (ci := 3) (v := .ref r) (C := RX3) (T := TX3) (N := 11) hx hb hts hin_X3 hown hK hP 0 rfl rfl 0 (by decide) hw_fieldLink_RX3_12_FlowGrid_now_LFlowGrid_Row (fun _ h9 => h9) rfl dX3_cell_22 ?_
  refine va_get (D := D) (ci := 1) (v := .ref rd) (C := RX1) (T := TX1) (N := 3) hx hb hts hin_X1 hown hK hP 1 rfl rfl 0 (by decide) hw_fieldLink_RX3_87_FlowGrid_Row_depths_D (fun _ h9 => h9) rfl dX3_cell_25 ?_
  refine lv_iconst (v := nI 2) hx hb dX3_cell_28 (by decide) ?_
  refine lv_iload_n hx hb dX3_cell_29 rfl (lv_at hl 1 rfl) ?_
  refine fz_iaddN hx hb dX3_cell_30 ?_
  refine fz_topn (b := v + 2) (by omega) ?_
  refine fz_dald (i := v + 2) hx hb hK hP 2 0 rfl rfl (by omega) (by decide) dX3_cell_31 ?_
  refine lv_dstore_n (lv' := [(3, .double (dd (v + 2))), (0, .ref g), (1, .int (nI v)), (2, .int (nI 2))]) hx hb dX3_cell_32 rfl hl (by decide) rfl (fun ls hl => ?_)
  refine lv_aload_n hx hb dX3_cell_33 rfl (lv_at hl 1 rfl) ?_
  refine va_get (D := D) (ci := 3) (v := .ref r) (C := RX3) (T := TX3) (N := 11) hx hb hts hin_X3 hown hK hP 0 rfl rfl 0 (by decide) hw_fieldLink_RX3_12_FlowGrid_now_LFlowGrid_Row (fun _ h9 => h9) rfl dX3_cell_34 ?_
  refine va_get (D := D) (ci := 1) (v := .ref rm) (C := RX1) (T := TX1) (N := 3) hx hb hts hin_X1 hown hK hP 1 rfl rfl 1 (by decide) hw_fieldLink_RX3_91_FlowGrid_Row_momenta_D (fun _ h9 => h9) rfl dX3_cell_37 ?_
  refine lv_iconst (v := nI 2) hx hb dX3_cell_40 (by decide) ?_
  refine lv_iload_n hx hb dX3_cell_41 rfl (lv_at hl 2 rfl) ?_
  refine fz_iaddN hx hb dX3_cell_42 ?_
  refine fz_topn (b := v + 2) (by omega) ?_
  refine fz_dald (i := v + 2) hx hb hK hP 3 0 rfl rfl (by omega) (by decide) dX3_cell_43 ?_
  refine lv_dstore (lv' := [(5, .double (mm (v + 2))), (3, .double (dd (v + 2))), (0, .ref g), (1, .int (nI v)), (2, .int (nI 2))]) hx hb dX3_cell_44 hl (by decide) rfl (fun ls hl => ?_)
  refine lv_iload_n hx hb dX3_cell_46 rfl (lv_at hl 4 rfl) ?_
  refine lv_tableIn (off := 34) (tgt := 81) hx hb dX3_cell_47 (by decide) (by decide) (by decide) (by decide) ?_
  refine lv_dload_n hx hb dX3_cell_81 rfl (lv_at hl 1 rfl) ?_
  refine lv_dload hx hb dX3_cell_82 (lv_at hl 0 rfl) ?_
  refine fz_callS (ws' := [(g, .inr (3, [.ref r, .ref q, .ref f, .int (nI kd), .int (nI lim), .int (nI sol), .int (nI ord), .double gone, .int cst, .int cfl, .int crf])), (r, .inr (1, [.ref rd, .ref rm, .int (nI n)])), (rd, fz_da cD 28 dd), (rm, fz_da cD 28 mm)]) (wr := [(g, .inr (3, [.ref r, .ref q, .ref f, .int (nI kd), .int (nI lim), .int (nI sol), .int (nI ord), .double gone, .int cst, .int cfl, .int crf])), (r, .inr (1, [.ref rd, .ref rm, .int (nI n)])), (rd, fz_da cD 28 dd), (rm, fz_da cD 28 mm)]) (As := [.double (dd (v + 2)), .double (mm (v + 2))]) (rest := []) ⟨hx, hb, hml, hown, hts⟩ (c_X3_speedOf l D cD (dd (v + 2)) (mm (v + 2)) (hs.1) (hs.2.1)) (va_cwS 2 hts gX3_cell_X3_speedOf rfl rfl rfl (by decide +kernel) ⟨Nat.le_of_ble_eq_true rfl, Nat.le_of_ble_eq_true rfl⟩) hK hNW hP hD hS hA [] [0, 1, 2, 3] [0, 1, 2, 3] rfl rfl rfl rfl (by decide) rfl rfl rfl hl.1 rfl (Nat.le_of_ble_eq_true rfl) dX3_cell_84 ⟨Nat.zero_le _, Nat.zero_le _⟩ (fun H locs hP hD hS => ?_)
  exact fz_dret hx hb hr hlocks (rfl) hP hK hD hS dX3_cell_87

set_option maxHeartbeats 4000000 in
set_option maxRecDepth 100000 in
theorem c_X3_cell3 (l : Launch) (D : va_G) (cD : ClassId) (g r rd rm q f n kd lim sol ord : Nat) (dd mm : Nat → UInt64) (gone : UInt64) (cst cfl crf : Int32) (v : Nat) (hv : v < n) (hn : n ≤ 24) (hs : fz_stOk (dd (v + 2)) (mm (v + 2))) : fz_C l D [(cD, .double)] yX3_cell wsX3_cell ({ frames := 2, cells := 0, slots := 0, locals := 60 }) [.ref g, .int (nI v), .int (nI 3)] [(g, .inr (3, [.ref r, .ref q, .ref f, .int (nI kd), .int (nI lim), .int (nI sol), .int (nI ord), .double gone, .int cst, .int cfl, .int crf])), (r, .inr (1, [.ref rd, .ref rm, .int (nI n)])), (rd, fz_da cD 28 dd), (rm, fz_da cD 28 mm)] [(g, .inr (3, [.ref r, .ref q, .ref f, .int (nI kd), .int (nI lim), .int (nI sol), .int (nI ord), .double gone, .int cst, .int cfl, .int crf])), (r, .inr (1, [.ref rd, .ref rm, .int (nI n)])), (rd, fz_da cD 28 dd), (rm, fz_da cD 28 mm)] (some (.double (fz_root (dd (v + 2))))) := by
  refine fz_start (cc := cX3_cell) (maxL := 7) (ret := (some .double)) (by decide) rfl (Nat.le_of_ble_eq_true rfl) ?_
  intro p e s m below meth c A hx hb hr hlocks hml hown hts hK hA hNW H locs hP hD hS ls hl
  have hl : lv_has ls 7 [(0, .ref g), (1, .int (nI v)), (2, .int (nI 3))] := hl
  have hown : s.vm.findClass RX3 = some m.cls := hown
  have hw_fieldLink_RX3_12_FlowGrid_now_LFlowGrid_Row := hts (.fieldLink RX3 12 "FlowGrid" "now" "LFlowGrid$Row;") (by decide +kernel)
  have hin_X3 : ∀ w ∈ u_ws RX3 TX3 11, w ∈ wsX3_cell := by decide +kernel
  have hw_fieldLink_RX3_87_FlowGrid_Row_depths_D := hts (.fieldLink RX3 87 "FlowGrid$Row" "depths" "[D") (by decide +kernel)
  have hin_X1 : ∀ w ∈ u_ws RX1 TX1 3, w ∈ wsX3_cell := by decide +kernel
  have hw_fieldLink_RX3_91_FlowGrid_Row_momenta_D := hts (.fieldLink RX3 91 "FlowGrid$Row" "momenta" "[D") (by decide +kernel)
  refine lv_aload_n hx hb dX3_cell_0 rfl (lv_at hl 0 rfl) ?_
  refine va_get (D := D) (ci := 3) (v := .ref r) (C := RX3) (T := TX3) (N := 11) hx hb hts hin_X3 hown hK hP 0 rfl rfl 0 (by decide) hw_fieldLink_RX3_12_FlowGrid_now_LFlowGrid_Row (fun _ h9 => h9) rfl dX3_cell_1 ?_
  refine lv_iload_n hx hb dX3_cell_4 rfl (lv_at hl 1 rfl) ?_
  refine fz_callV (ws' := [(g, .inr (3, [.ref r, .ref q, .ref f, .int (nI kd), .int (nI lim), .int (nI sol), .int (nI ord), .double gone, .int cst, .int cfl, .int crf])), (r, .inr (1, [.ref rd, .ref rm, .int (nI n)])), (rd, fz_da cD 28 dd), (rm, fz_da cD 28 mm)]) (wr := [(g, .inr (3, [.ref r, .ref q, .ref f, .int (nI kd), .int (nI lim), .int (nI sol), .int (nI ord), .double gone, .int cst, .int cfl, .int crf]))]) (As := [.int (nI v)]) (rest := []) ⟨hx, hb, hml, hown, hts⟩ (c_X1_has l D cD r rd rm n dd mm (nI v)) (cwV 1 hts gX3_cell_X1_has rfl rfl rfl (by decide +kernel) ⟨Nat.le_of_ble_eq_true rfl, Nat.le_of_ble_eq_true rfl⟩) hK hNW hP hD hS hA [1, 2, 3] [0] [0, 1, 2, 3] rfl rfl rfl rfl (by decide) rfl rfl (q0 := 1) (ci := 1) rfl rfl rfl rfl hl.1 rfl (Nat.le_of_ble_eq_true rfl) dX3_cell_5 ⟨Nat.zero_le _, Nat.zero_le _⟩ (fun H locs hP hD hS => ?_)
  refine lv_if_ne (tgt := 21) hx hb dX3_cell_8 (by decide) (fun c8 => ?_) (fun c8 => absurd c8 (fun h => absurd (fz_b0.mp h) (by rw [fz_has1 hv hn]; decide)))
  refine lv_aload_n hx hb dX3_cell_21 rfl (lv_at hl 0 rfl) ?_
  refine va_get (D := D) (ci := 3) (v := .ref r) (C := RX3) (T := TX3) (N := 11) hx hb hts hin_X3 hown hK hP 0 rfl rfl 0 (by decide) hw_fieldLink_RX3_12_FlowGrid_now_LFlowGrid_Row (fun _ h9 => h9) rfl dX3_cell_22 ?_
  refine va_get (D := D) (ci := 1) (v := .ref rd) (C := RX1) (T := TX1) (N := 3) hx hb hts hin_X1 hown hK hP 1 rfl rfl 0 (by decide) hw_fieldLink_RX3_87_FlowGrid_Row_depths_D (fun _ h9 => h9) rfl dX3_cell_25 ?_
  refine lv_iconst (v := nI 2) hx hb dX3_cell_28 (by decide) ?_
  refine lv_iload_n hx hb dX3_cell_29 rfl (lv_at hl 1 rfl) ?_
  refine fz_iaddN hx hb dX3_cell_30 ?_
  refine fz_topn (b := v + 2) (by omega) ?_
  refine fz_dald (i := v + 2) hx hb hK hP 2 0 rfl rfl (by omega) (by decide) dX3_cell_31 ?_
  refine lv_dstore_n (lv' := [(3, .double (dd (v + 2))), (0, .ref g), (1, .int (nI v)), (2, .int (nI 3))]) hx hb dX3_cell_32 rfl hl (by decide) rfl (fun ls hl => ?_)
  refine lv_aload_n hx hb dX3_cell_33 rfl (lv_at hl 1 rfl) ?_
  refine va_get (D := D) (ci := 3) (v := .ref r) (C := RX3) (T := TX3) (N := 11) hx hb hts hin_X3 hown hK hP 0 rfl rfl 0 (by decide) hw_fieldLink_RX3_12_FlowGrid_now_LFlowGrid_Row (fun _ h9 => h9) rfl dX3_cell_34 ?_
  refine va_get (D := D) (ci := 1) (v := .ref rm) (C := RX1) (T := TX1) (N := 3) hx hb hts hin_X1 hown hK hP 1 rfl rfl 1 (by decide) hw_fieldLink_RX3_91_FlowGrid_Row_momenta_D (fun _ h9 => h9) rfl dX3_cell_37 ?_
  refine lv_iconst (v := nI 2) hx hb dX3_cell_40 (by decide) ?_
  refine lv_iload_n hx hb dX3_cell_41 rfl (lv_at hl 2 rfl) ?_
  refine fz_iaddN hx hb dX3_cell_42 ?_
  refine fz_topn (b := v + 2) (by omega) ?_
  refine fz_dald (i := v + 2) hx hb hK hP 3 0 rfl rfl (by omega) (by decide) dX3_cell_43 ?_
  refine lv_dstore (lv' := [(5, .double (mm (v + 2))), (3, .double (dd (v + 2))), (0, .ref g), (1, .int (nI v)), (2, .int (nI 3))]) hx hb dX3_cell_44 hl (by decide) rfl (fun ls hl => ?_)
  refine lv_iload_n hx hb dX3_cell_46 rfl (lv_at hl 4 rfl) ?_
  refine lv_tableIn (off := 41) (tgt := 88) hx hb dX3_cell_47 (by decide) (by decide) (by decide) (by decide) ?_
  refine lv_dload_n hx hb dX3_cell_88 rfl (lv_at hl 1 rfl) ?_
  refine fz_callS (ws' := [(g, .inr (3, [.ref r, .ref q, .ref f, .int (nI kd), .int (nI lim), .int (nI sol), .int (nI ord), .double gone, .int cst, .int cfl, .int crf])), (r, .inr (1, [.ref rd, .ref rm, .int (nI n)])), (rd, fz_da cD 28 dd), (rm, fz_da cD 28 mm)]) (wr := [(g, .inr (3, [.ref r, .ref q, .ref f, .int (nI kd), .int (nI lim), .int (nI sol), .int (nI ord), .double gone, .int cst, .int cfl, .int crf])), (r, .inr (1, [.ref rd, .ref rm, .int (nI n)])), (rd, fz_da cD 28 dd), (rm, fz_da cD 28 mm)]) (As := [.double (dd (v + 2))]) (rest := []) ⟨hx, hb, hml, hown, hts⟩ (c_X3_root l D cD (dd (v + 2)) (hs.2.2)) (va_cwS 1 hts gX3_cell_X3_root rfl rfl rfl (by decide +kernel) ⟨Nat.le_of_ble_eq_true rfl, Nat.le_of_ble_eq_true rfl⟩) hK hNW hP hD hS hA [] [0, 1, 2, 3] [0, 1, 2, 3] rfl rfl rfl rfl (by decide) rfl rfl rfl hl.1 rfl (Nat.le_of_ble_eq_true rfl) dX3_cell_89 ⟨Nat.zero_le _, Nat.zero_le _⟩ (fun H locs hP hD hS => ?_)
  exact fz_dret hx hb hr hlocks (rfl) hP hK hD hS dX3_cell_92

set_option maxHeartbeats 4000000 in
set_option maxRecDepth 100000 in
theorem c_X3_cellT1 (l : Launch) (hlt : l.stackTraces = false) (D : va_G) (cD : ClassId) (g r rd rm q f n kd lim sol ord : Nat) (dd mm : Nat → UInt64) (gone : UInt64) (cst cfl crf : Int32) (v w : Int32) (hv : fz_has v n = false) : fz_T l D [(cD, .double)] yX3_cell wsX3_cell ({ frames := 6, cells := 1, slots := 6, locals := 90 }) [.ref g, .int v, .int w] [(g, .inr (3, [.ref r, .ref q, .ref f, .int (nI kd), .int (nI lim), .int (nI sol), .int (nI ord), .double gone, .int cst, .int cfl, .int crf])), (r, .inr (1, [.ref rd, .ref rm, .int (nI n)])), (rd, fz_da cD 28 dd), (rm, fz_da cD 28 mm)] fz_NSE (fun wo => wo = [(g, .inr (3, [.ref r, .ref q, .ref f, .int (nI kd), .int (nI lim), .int (nI sol), .int (nI ord), .double gone, .int cst, .int cfl, .int crf])), (r, .inr (1, [.ref rd, .ref rm, .int (nI n)])), (rd, fz_da cD 28 dd), (rm, fz_da cD 28 mm)]) := by
  refine fz_startT (cc := cX3_cell) (maxL := 7) (ret := (some .double)) (by decide) rfl (Nat.le_of_ble_eq_true rfl) ?_
  intro p e s m below meth c A hx hb hr hlocks hml hown hts hK hA hNW htb hST hCA hXZ H locs hP hD hS ls hl
  have hl : lv_has ls 7 [(0, .ref g), (1, .int v), (2, .int w)] := hl
  have hown : s.vm.findClass RX3 = some m.cls := hown
  have hw_fieldLink_RX3_12_FlowGrid_now_LFlowGrid_Row := hts (.fieldLink RX3 12 "FlowGrid" "now" "LFlowGrid$Row;") (by decide +kernel)
  have hin_X3 : ∀ w ∈ u_ws RX3 TX3 11, w ∈ wsX3_cell := by decide +kernel
  have hw_classLink_RX3_106_java_util_NoSuchElementException := hts (.classLink RX3 106 "java/util/NoSuchElementException") (by decide +kernel)
  have hw_initialized_java_util_NoSuchElementException := hts (.initialized "java/util/NoSuchElementException") (by decide +kernel)
  have hmemX_108 : ∀ w ∈ (vn_atS "FlowGrid" 108).filter goodWord, w ∈ wsX3_cell := by decide +kernel
  refine lv_aload_n hx hb dX3_cell_0 rfl (lv_at hl 0 rfl) ?_
  refine va_get (D := D) (ci := 3) (v := .ref r) (C := RX3) (T := TX3) (N := 11) hx hb hts hin_X3 hown hK hP 0 rfl rfl 0 (by decide) hw_fieldLink_RX3_12_FlowGrid_now_LFlowGrid_Row (fun _ h9 => h9) rfl dX3_cell_1 ?_
  refine lv_iload_n hx hb dX3_cell_4 rfl (lv_at hl 1 rfl) ?_
  refine fz_callV (ws' := [(g, .inr (3, [.ref r, .ref q, .ref f, .int (nI kd), .int (nI lim), .int (nI sol), .int (nI ord), .double gone, .int cst, .int cfl, .int crf])), (r, .inr (1, [.ref rd, .ref rm, .int (nI n)])), (rd, fz_da cD 28 dd), (rm, fz_da cD 28 mm)]) (wr := [(g, .inr (3, [.ref r, .ref q, .ref f, .int (nI kd), .int (nI lim), .int (nI sol), .int (nI ord), .double gone, .int cst, .int cfl, .int crf]))]) (As := [.int v]) (rest := []) ⟨hx, hb, hml, hown, hts⟩ (c_X1_has l D cD r rd rm n dd mm v) (cwV 1 hts gX3_cell_X1_has rfl rfl rfl (by decide +kernel) ⟨Nat.le_of_ble_eq_true rfl, Nat.le_of_ble_eq_true rfl⟩) hK hNW hP hD hS hA [1, 2, 3] [0] [0, 1, 2, 3] rfl rfl rfl rfl (by decide) rfl rfl (q0 := 1) (ci := 1) rfl rfl rfl rfl hl.1 rfl (Nat.le_of_ble_eq_true rfl) dX3_cell_5 ⟨Nat.zero_le _, Nat.zero_le _⟩ (fun H locs hP hD hS => ?_)
  refine lv_if_ne (tgt := 21) hx hb dX3_cell_8 (by decide) (fun c8 => absurd c8 (fun h => h (fz_b0.mpr hv))) (fun c8 => ?_)
  exact fz_throwN (text := "there is no such cell") (is := 73) (ik := 106) hx hb hlt hts hown (by decide +kernel) hw_classLink_RX3_106_java_util_NoSuchElementException hw_initialized_java_util_NoSuchElementException hST (by decide +kernel) hCA (by decide +kernel) hmemX_108 (by decide +kernel) (by decide +kernel) hXZ hS (hl.1.trans hml.symm) htb dX3_cell_11 dX3_cell_14 dX3_cell_15 dX3_cell_17 dX3_cell_20 (Nat.le_of_ble_eq_true rfl) (Nat.le_of_ble_eq_true rfl) (Nat.le_refl _) (Nat.le_refl _) hlocks (rfl) hP hK hD

set_option maxHeartbeats 4000000 in
set_option maxRecDepth 100000 in
theorem c_X3_cellT2 (l : Launch) (hlt : l.stackTraces = false) (D : va_G) (cD : ClassId) (g r rd rm q f n kd lim sol ord : Nat) (dd mm : Nat → UInt64) (gone : UInt64) (cst cfl crf : Int32) (v : Nat) (hv : v < n) (hn : n ≤ 24) (w : Int32) (hw : w.toInt < 0 ∨ 3 < w.toInt) : fz_T l D [(cD, .double)] yX3_cell wsX3_cell ({ frames := 6, cells := 1, slots := 6, locals := 90 }) [.ref g, .int (nI v), .int w] [(g, .inr (3, [.ref r, .ref q, .ref f, .int (nI kd), .int (nI lim), .int (nI sol), .int (nI ord), .double gone, .int cst, .int cfl, .int crf])), (r, .inr (1, [.ref rd, .ref rm, .int (nI n)])), (rd, fz_da cD 28 dd), (rm, fz_da cD 28 mm)] fz_NSE (fun wo => wo = [(g, .inr (3, [.ref r, .ref q, .ref f, .int (nI kd), .int (nI lim), .int (nI sol), .int (nI ord), .double gone, .int cst, .int cfl, .int crf])), (r, .inr (1, [.ref rd, .ref rm, .int (nI n)])), (rd, fz_da cD 28 dd), (rm, fz_da cD 28 mm)]) := by
  refine fz_startT (cc := cX3_cell) (maxL := 7) (ret := (some .double)) (by decide) rfl (Nat.le_of_ble_eq_true rfl) ?_
  intro p e s m below meth c A hx hb hr hlocks hml hown hts hK hA hNW htb hST hCA hXZ H locs hP hD hS ls hl
  have hl : lv_has ls 7 [(0, .ref g), (1, .int (nI v)), (2, .int w)] := hl
  have hown : s.vm.findClass RX3 = some m.cls := hown
  have hw_fieldLink_RX3_12_FlowGrid_now_LFlowGrid_Row := hts (.fieldLink RX3 12 "FlowGrid" "now" "LFlowGrid$Row;") (by decide +kernel)
  have hin_X3 : ∀ w ∈ u_ws RX3 TX3 11, w ∈ wsX3_cell := by decide +kernel
  have hw_fieldLink_RX3_87_FlowGrid_Row_depths_D := hts (.fieldLink RX3 87 "FlowGrid$Row" "depths" "[D") (by decide +kernel)
  have hin_X1 : ∀ w ∈ u_ws RX1 TX1 3, w ∈ wsX3_cell := by decide +kernel
  have hw_fieldLink_RX3_91_FlowGrid_Row_momenta_D := hts (.fieldLink RX3 91 "FlowGrid$Row" "momenta" "[D") (by decide +kernel)
  have hw_classLink_RX3_106_java_util_NoSuchElementException := hts (.classLink RX3 106 "java/util/NoSuchElementException") (by decide +kernel)
  have hw_initialized_java_util_NoSuchElementException := hts (.initialized "java/util/NoSuchElementException") (by decide +kernel)
  have hmemX_108 : ∀ w ∈ (vn_atS "FlowGrid" 108).filter goodWord, w ∈ wsX3_cell := by decide +kernel
  refine lv_aload_n hx hb dX3_cell_0 rfl (lv_at hl 0 rfl) ?_
  refine va_get (D := D) (ci := 3) (v := .ref r) (C := RX3) (T := TX3) (N := 11) hx hb hts hin_X3 hown hK hP 0 rfl rfl 0 (by decide) hw_fieldLink_RX3_12_FlowGrid_now_LFlowGrid_Row (fun _ h9 => h9) rfl dX3_cell_1 ?_
  refine lv_iload_n hx hb dX3_cell_4 rfl (lv_at hl 1 rfl) ?_
  refine fz_callV (ws' := [(g, .inr (3, [.ref r, .ref q, .ref f, .int (nI kd), .int (nI lim), .int (nI sol), .int (nI ord), .double gone, .int cst, .int cfl, .int crf])), (r, .inr (1, [.ref rd, .ref rm, .int (nI n)])), (rd, fz_da cD 28 dd), (rm, fz_da cD 28 mm)]) (wr := [(g, .inr (3, [.ref r, .ref q, .ref f, .int (nI kd), .int (nI lim), .int (nI sol), .int (nI ord), .double gone, .int cst, .int cfl, .int crf]))]) (As := [.int (nI v)]) (rest := []) ⟨hx, hb, hml, hown, hts⟩ (c_X1_has l D cD r rd rm n dd mm (nI v)) (cwV 1 hts gX3_cell_X1_has rfl rfl rfl (by decide +kernel) ⟨Nat.le_of_ble_eq_true rfl, Nat.le_of_ble_eq_true rfl⟩) hK hNW hP hD hS hA [1, 2, 3] [0] [0, 1, 2, 3] rfl rfl rfl rfl (by decide) rfl rfl (q0 := 1) (ci := 1) rfl rfl rfl rfl hl.1 rfl (Nat.le_of_ble_eq_true rfl) dX3_cell_5 ⟨Nat.zero_le _, Nat.zero_le _⟩ (fun H locs hP hD hS => ?_)
  refine lv_if_ne (tgt := 21) hx hb dX3_cell_8 (by decide) (fun c8 => ?_) (fun c8 => absurd c8 (fun h => absurd (fz_b0.mp h) (by rw [fz_has1 hv hn]; decide)))
  refine lv_aload_n hx hb dX3_cell_21 rfl (lv_at hl 0 rfl) ?_
  refine va_get (D := D) (ci := 3) (v := .ref r) (C := RX3) (T := TX3) (N := 11) hx hb hts hin_X3 hown hK hP 0 rfl rfl 0 (by decide) hw_fieldLink_RX3_12_FlowGrid_now_LFlowGrid_Row (fun _ h9 => h9) rfl dX3_cell_22 ?_
  refine va_get (D := D) (ci := 1) (v := .ref rd) (C := RX1) (T := TX1) (N := 3) hx hb hts hin_X1 hown hK hP 1 rfl rfl 0 (by decide) hw_fieldLink_RX3_87_FlowGrid_Row_depths_D (fun _ h9 => h9) rfl dX3_cell_25 ?_
  refine lv_iconst (v := nI 2) hx hb dX3_cell_28 (by decide) ?_
  refine lv_iload_n hx hb dX3_cell_29 rfl (lv_at hl 1 rfl) ?_
  refine fz_iaddN hx hb dX3_cell_30 ?_
  refine fz_topn (b := v + 2) (by omega) ?_
  refine fz_dald (i := v + 2) hx hb hK hP 2 0 rfl rfl (by omega) (by decide) dX3_cell_31 ?_
  refine lv_dstore_n (lv' := [(3, .double (dd (v + 2))), (0, .ref g), (1, .int (nI v)), (2, .int w)]) hx hb dX3_cell_32 rfl hl (by decide) rfl (fun ls hl => ?_)
  refine lv_aload_n hx hb dX3_cell_33 rfl (lv_at hl 1 rfl) ?_
  refine va_get (D := D) (ci := 3) (v := .ref r) (C := RX3) (T := TX3) (N := 11) hx hb hts hin_X3 hown hK hP 0 rfl rfl 0 (by decide) hw_fieldLink_RX3_12_FlowGrid_now_LFlowGrid_Row (fun _ h9 => h9) rfl dX3_cell_34 ?_
  refine va_get (D := D) (ci := 1) (v := .ref rm) (C := RX1) (T := TX1) (N := 3) hx hb hts hin_X1 hown hK hP 1 rfl rfl 1 (by decide) hw_fieldLink_RX3_91_FlowGrid_Row_momenta_D (fun _ h9 => h9) rfl dX3_cell_37 ?_
  refine lv_iconst (v := nI 2) hx hb dX3_cell_40 (by decide) ?_
  refine lv_iload_n hx hb dX3_cell_41 rfl (lv_at hl 2 rfl) ?_
  refine fz_iaddN hx hb dX3_cell_42 ?_
  refine fz_topn (b := v + 2) (by omega) ?_
  refine fz_dald (i := v + 2) hx hb hK hP 3 0 rfl rfl (by omega) (by decide) dX3_cell_43 ?_
  refine lv_dstore (lv' := [(5, .double (mm (v + 2))), (3, .double (dd (v + 2))), (0, .ref g), (1, .int (nI v)), (2, .int w)]) hx hb dX3_cell_44 hl (by decide) rfl (fun ls hl => ?_)
  refine lv_iload_n hx hb dX3_cell_46 rfl (lv_at hl 4 rfl) ?_
  refine lv_tableOut (tgt := 93) hx hb dX3_cell_47 (hw) (by decide) ?_
  exact fz_throwN (text := "a cell has no such value") (is := 116) (ik := 106) hx hb hlt hts hown (by decide +kernel) hw_classLink_RX3_106_java_util_NoSuchElementException hw_initialized_java_util_NoSuchElementException hST (by decide +kernel) hCA (by decide +kernel) hmemX_108 (by decide +kernel) (by decide +kernel) hXZ hS (hl.1.trans hml.symm) htb dX3_cell_93 dX3_cell_96 dX3_cell_97 dX3_cell_99 dX3_cell_102 (Nat.le_of_ble_eq_true rfl) (Nat.le_of_ble_eq_true rfl) (Nat.le_refl _) (Nat.le_refl _) hlocks (rfl) hP hK hD

set_option maxHeartbeats 4000000 in
set_option maxRecDepth 100000 in
theorem c_X3_sum0 (l : Launch) (D : va_G) (cD : ClassId) (g r rd rm q f n kd lim sol ord : Nat) (dd mm : Nat → UInt64) (gone : UInt64) (cst cfl crf : Int32) (hn : n ≤ 24) (hk0 : fz_kahOk dd n) : fz_C l D [(cD, .double)] yX3_sum wsX3_sum ({ frames := 2, cells := 0, slots := 0, locals := 60 }) [.ref g, .int (nI 0)] [(g, .inr (3, [.ref r, .ref q, .ref f, .int (nI kd), .int (nI lim), .int (nI sol), .int (nI ord), .double gone, .int cst, .int cfl, .int crf])), (r, .inr (1, [.ref rd, .ref rm, .int (nI n)])), (rd, fz_da cD 28 dd), (rm, fz_da cD 28 mm)] [(g, .inr (3, [.ref r, .ref q, .ref f, .int (nI kd), .int (nI lim), .int (nI sol), .int (nI ord), .double gone, .int cst, .int cfl, .int crf])), (r, .inr (1, [.ref rd, .ref rm, .int (nI n)])), (rd, fz_da cD 28 dd), (rm, fz_da cD 28 mm)] (some (.double (fz_kah dd n).1)) := by
  refine fz_start (cc := cX3_sum) (maxL := 2) (ret := (some .double)) (by decide) rfl (Nat.le_of_ble_eq_true rfl) ?_
  intro p e s m below meth c A hx hb hr hlocks hml hown hts hK hA hNW H locs hP hD hS ls hl
  have hl : lv_has ls 2 [(0, .ref g), (1, .int (nI 0))] := hl
  have hown : s.vm.findClass RX3 = some m.cls := hown
  have hw_fieldLink_RX3_12_FlowGrid_now_LFlowGrid_Row := hts (.fieldLink RX3 12 "FlowGrid" "now" "LFlowGrid$Row;") (by decide +kernel)
  have hin_X3 : ∀ w ∈ u_ws RX3 TX3 11, w ∈ wsX3_sum := by decide +kernel
  have hw_fieldLink_RX3_87_FlowGrid_Row_depths_D := hts (.fieldLink RX3 87 "FlowGrid$Row" "depths" "[D") (by decide +kernel)
  have hin_X1 : ∀ w ∈ u_ws RX1 TX1 3, w ∈ wsX3_sum := by decide +kernel
  refine lv_aload_n hx hb dX3_sum_0 rfl (lv_at hl 0 rfl) ?_
  refine va_get (D := D) (ci := 3) (v := .ref r) (C := RX3) (T := TX3) (N := 11) hx hb hts hin_X3 hown hK hP 0 rfl rfl 0 (by decide) hw_fieldLink_RX3_12_FlowGrid_now_LFlowGrid_Row (fun _ h9 => h9) rfl dX3_sum_1 ?_
  refine lv_iload_n hx hb dX3_sum_4 rfl (lv_at hl 1 rfl) ?_
  refine lv_if_eq (tgt := 18) hx hb dX3_sum_5 (by decide) (fun c5 => ?_) (fun c5 => absurd c5 (by decide))
  refine lv_aload_n hx hb dX3_sum_18 rfl (lv_at hl 0 rfl) ?_
  refine va_get (D := D) (ci := 3) (v := .ref r) (C := RX3) (T := TX3) (N := 11) hx hb hts hin_X3 hown hK hP 0 rfl rfl 0 (by decide) hw_fieldLink_RX3_12_FlowGrid_now_LFlowGrid_Row (fun _ h9 => h9) rfl dX3_sum_19 ?_
  refine va_get (D := D) (ci := 1) (v := .ref rd) (C := RX1) (T := TX1) (N := 3) hx hb hts hin_X1 hown hK hP 1 rfl rfl 0 (by decide) hw_fieldLink_RX3_87_FlowGrid_Row_depths_D (fun _ h9 => h9) rfl dX3_sum_22 ?_
  refine fz_callV (ws' := [(g, .inr (3, [.ref r, .ref q, .ref f, .int (nI kd), .int (nI lim), .int (nI sol), .int (nI ord), .double gone, .int cst, .int cfl, .int crf])), (r, .inr (1, [.ref rd, .ref rm, .int (nI n)])), (rd, fz_da cD 28 dd), (rm, fz_da cD 28 mm)]) (wr := [(g, .inr (3, [.ref r, .ref q, .ref f, .int (nI kd), .int (nI lim), .int (nI sol), .int (nI ord), .double gone, .int cst, .int cfl, .int crf]))]) (As := [.ref rd]) (rest := []) ⟨hx, hb, hml, hown, hts⟩ (c_X1_total_d l D cD r rd rm n dd mm hn hk0) (cwV 1 hts gX3_sum_X1_total rfl rfl rfl (by decide +kernel) ⟨Nat.le_of_ble_eq_true rfl, Nat.le_of_ble_eq_true rfl⟩) hK hNW hP hD hS hA [1, 2, 3] [0] [0, 1, 2, 3] rfl rfl rfl rfl (by decide) rfl rfl (q0 := 1) (ci := 1) rfl rfl rfl rfl hl.1 rfl (Nat.le_of_ble_eq_true rfl) dX3_sum_25 ⟨Nat.zero_le _, Nat.zero_le _⟩ (fun H locs hP hD hS => ?_)
  exact fz_dret hx hb hr hlocks (rfl) hP hK hD hS dX3_sum_28

set_option maxHeartbeats 4000000 in
set_option maxRecDepth 100000 in
theorem c_X3_sum1 (l : Launch) (D : va_G) (cD : ClassId) (g r rd rm q f n kd lim sol ord : Nat) (dd mm : Nat → UInt64) (gone : UInt64) (cst cfl crf : Int32) (hn : n ≤ 24) (hk0 : fz_kahOk mm n) : fz_C l D [(cD, .double)] yX3_sum wsX3_sum ({ frames := 2, cells := 0, slots := 0, locals := 60 }) [.ref g, .int (nI 1)] [(g, .inr (3, [.ref r, .ref q, .ref f, .int (nI kd), .int (nI lim), .int (nI sol), .int (nI ord), .double gone, .int cst, .int cfl, .int crf])), (r, .inr (1, [.ref rd, .ref rm, .int (nI n)])), (rd, fz_da cD 28 dd), (rm, fz_da cD 28 mm)] [(g, .inr (3, [.ref r, .ref q, .ref f, .int (nI kd), .int (nI lim), .int (nI sol), .int (nI ord), .double gone, .int cst, .int cfl, .int crf])), (r, .inr (1, [.ref rd, .ref rm, .int (nI n)])), (rd, fz_da cD 28 dd), (rm, fz_da cD 28 mm)] (some (.double (fz_kah mm n).1)) := by
  refine fz_start (cc := cX3_sum) (maxL := 2) (ret := (some .double)) (by decide) rfl (Nat.le_of_ble_eq_true rfl) ?_
  intro p e s m below meth c A hx hb hr hlocks hml hown hts hK hA hNW H locs hP hD hS ls hl
  have hl : lv_has ls 2 [(0, .ref g), (1, .int (nI 1))] := hl
  have hown : s.vm.findClass RX3 = some m.cls := hown
  have hw_fieldLink_RX3_12_FlowGrid_now_LFlowGrid_Row := hts (.fieldLink RX3 12 "FlowGrid" "now" "LFlowGrid$Row;") (by decide +kernel)
  have hin_X3 : ∀ w ∈ u_ws RX3 TX3 11, w ∈ wsX3_sum := by decide +kernel
  have hw_fieldLink_RX3_91_FlowGrid_Row_momenta_D := hts (.fieldLink RX3 91 "FlowGrid$Row" "momenta" "[D") (by decide +kernel)
  have hin_X1 : ∀ w ∈ u_ws RX1 TX1 3, w ∈ wsX3_sum := by decide +kernel
  refine lv_aload_n hx hb dX3_sum_0 rfl (lv_at hl 0 rfl) ?_
  refine va_get (D := D) (ci := 3) (v := .ref r) (C := RX3) (T := TX3) (N := 11) hx hb hts hin_X3 hown hK hP 0 rfl rfl 0 (by decide) hw_fieldLink_RX3_12_FlowGrid_now_LFlowGrid_Row (fun _ h9 => h9) rfl dX3_sum_1 ?_
  refine lv_iload_n hx hb dX3_sum_4 rfl (lv_at hl 1 rfl) ?_
  refine lv_if_eq (tgt := 18) hx hb dX3_sum_5 (by decide) (fun c5 => absurd c5 (by decide)) (fun c5 => ?_)
  refine lv_aload_n hx hb dX3_sum_8 rfl (lv_at hl 0 rfl) ?_
  refine va_get (D := D) (ci := 3) (v := .ref r) (C := RX3) (T := TX3) (N := 11) hx hb hts hin_X3 hown hK hP 0 rfl rfl 0 (by decide) hw_fieldLink_RX3_12_FlowGrid_now_LFlowGrid_Row (fun _ h9 => h9) rfl dX3_sum_9 ?_
  refine va_get (D := D) (ci := 1) (v := .ref rm) (C := RX1) (T := TX1) (N := 3) hx hb hts hin_X1 hown hK hP 1 rfl rfl 1 (by decide) hw_fieldLink_RX3_91_FlowGrid_Row_momenta_D (fun _ h9 => h9) rfl dX3_sum_12 ?_
  refine lv_goto (tgt := 25) hx hb dX3_sum_15 (by decide) ?_
  refine fz_callV (ws' := [(g, .inr (3, [.ref r, .ref q, .ref f, .int (nI kd), .int (nI lim), .int (nI sol), .int (nI ord), .double gone, .int cst, .int cfl, .int crf])), (r, .inr (1, [.ref rd, .ref rm, .int (nI n)])), (rd, fz_da cD 28 dd), (rm, fz_da cD 28 mm)]) (wr := [(g, .inr (3, [.ref r, .ref q, .ref f, .int (nI kd), .int (nI lim), .int (nI sol), .int (nI ord), .double gone, .int cst, .int cfl, .int crf]))]) (As := [.ref rm]) (rest := []) ⟨hx, hb, hml, hown, hts⟩ (c_X1_total_m l D cD r rd rm n dd mm hn hk0) (cwV 1 hts gX3_sum_X1_total rfl rfl rfl (by decide +kernel) ⟨Nat.le_of_ble_eq_true rfl, Nat.le_of_ble_eq_true rfl⟩) hK hNW hP hD hS hA [1, 2, 3] [0] [0, 1, 2, 3] rfl rfl rfl rfl (by decide) rfl rfl (q0 := 1) (ci := 1) rfl rfl rfl rfl hl.1 rfl (Nat.le_of_ble_eq_true rfl) dX3_sum_25 ⟨Nat.zero_le _, Nat.zero_le _⟩ (fun H locs hP hD hS => ?_)
  exact fz_dret hx hb hr hlocks (rfl) hP hK hD hS dX3_sum_28

set_option maxHeartbeats 4000000 in
set_option maxRecDepth 100000 in
theorem c_X3_time (l : Launch) (D : va_G) (cD : ClassId) (g r rd rm q f n kd lim sol ord : Nat) (dd mm : Nat → UInt64) (gone : UInt64) (cst cfl crf : Int32) : fz_C l D [(cD, .double)] yX3_time wsX3_time ({ frames := 0, cells := 0, slots := 0, locals := 0 }) [.ref g] [(g, .inr (3, [.ref r, .ref q, .ref f, .int (nI kd), .int (nI lim), .int (nI sol), .int (nI ord), .double gone, .int cst, .int cfl, .int crf])), (r, .inr (1, [.ref rd, .ref rm, .int (nI n)])), (rd, fz_da cD 28 dd), (rm, fz_da cD 28 mm)] [(g, .inr (3, [.ref r, .ref q, .ref f, .int (nI kd), .int (nI lim), .int (nI sol), .int (nI ord), .double gone, .int cst, .int cfl, .int crf])), (r, .inr (1, [.ref rd, .ref rm, .int (nI n)])), (rd, fz_da cD 28 dd), (rm, fz_da cD 28 mm)] (some (.double gone)) := by
  refine fz_start (cc := cX3_time) (maxL := 1) (ret := (some .double)) (by decide) rfl (Nat.le_of_ble_eq_true rfl) ?_
  intro p e s m below meth c A hx hb hr hlocks hml hown hts hK hA hNW H locs hP hD hS ls hl
  have hl : lv_has ls 1 [(0, .ref g)] := hl
  have hown : s.vm.findClass RX3 = some m.cls := hown
  have hw_fieldLink_RX3_39_FlowGrid_gone_D := hts (.fieldLink RX3 39 "FlowGrid" "gone" "D") (by decide +kernel)
  have hin_X3 : ∀ w ∈ u_ws RX3 TX3 11, w ∈ wsX3_time := by decide +kernel
  refine lv_aload_n hx hb dX3_time_0 rfl (lv_at hl 0 rfl) ?_
  refine va_get (D := D) (ci := 3) (v := .double gone) (C := RX3) (T := TX3) (N := 11) hx hb hts hin_X3 hown hK hP 0 rfl rfl 7 (by decide) hw_fieldLink_RX3_39_FlowGrid_gone_D (fun _ h9 => h9) rfl dX3_time_1 ?_
  exact fz_dret hx hb hr hlocks (rfl) hP hK hD hS dX3_time_4

set_option maxHeartbeats 4000000 in
set_option maxRecDepth 100000 in
theorem c_X3_count0 (l : Launch) (D : va_G) (cD : ClassId) (g r rd rm q f n kd lim sol ord : Nat) (dd mm : Nat → UInt64) (gone : UInt64) (cst cfl crf : Int32) : fz_C l D [(cD, .double)] yX3_count wsX3_count ({ frames := 0, cells := 0, slots := 0, locals := 0 }) [.ref g, .int (nI 0)] [(g, .inr (3, [.ref r, .ref q, .ref f, .int (nI kd), .int (nI lim), .int (nI sol), .int (nI ord), .double gone, .int cst, .int cfl, .int crf])), (r, .inr (1, [.ref rd, .ref rm, .int (nI n)])), (rd, fz_da cD 28 dd), (rm, fz_da cD 28 mm)] [(g, .inr (3, [.ref r, .ref q, .ref f, .int (nI kd), .int (nI lim), .int (nI sol), .int (nI ord), .double gone, .int cst, .int cfl, .int crf])), (r, .inr (1, [.ref rd, .ref rm, .int (nI n)])), (rd, fz_da cD 28 dd), (rm, fz_da cD 28 mm)] (some (.int (nI n))) := by
  refine fz_start (cc := cX3_count) (maxL := 2) (ret := (some .int)) (by decide) rfl (Nat.le_of_ble_eq_true rfl) ?_
  intro p e s m below meth c A hx hb hr hlocks hml hown hts hK hA hNW H locs hP hD hS ls hl
  have hl : lv_has ls 2 [(0, .ref g), (1, .int (nI 0))] := hl
  have hown : s.vm.findClass RX3 = some m.cls := hown
  have hw_fieldLink_RX3_12_FlowGrid_now_LFlowGrid_Row := hts (.fieldLink RX3 12 "FlowGrid" "now" "LFlowGrid$Row;") (by decide +kernel)
  have hin_X3 : ∀ w ∈ u_ws RX3 TX3 11, w ∈ wsX3_count := by decide +kernel
  have hw_fieldLink_RX3_118_FlowGrid_Row_size_I := hts (.fieldLink RX3 118 "FlowGrid$Row" "size" "I") (by decide +kernel)
  have hin_X1 : ∀ w ∈ u_ws RX1 TX1 3, w ∈ wsX3_count := by decide +kernel
  refine lv_iload_n hx hb dX3_count_0 rfl (lv_at hl 1 rfl) ?_
  refine lv_tableIn (off := 31) (tgt := 32) hx hb dX3_count_1 (by decide) (by decide) (by decide) (by decide) ?_
  refine lv_aload_n hx hb dX3_count_32 rfl (lv_at hl 0 rfl) ?_
  refine va_get (D := D) (ci := 3) (v := .ref r) (C := RX3) (T := TX3) (N := 11) hx hb hts hin_X3 hown hK hP 0 rfl rfl 0 (by decide) hw_fieldLink_RX3_12_FlowGrid_now_LFlowGrid_Row (fun _ h9 => h9) rfl dX3_count_33 ?_
  refine va_get (D := D) (ci := 1) (v := .int (nI n)) (C := RX1) (T := TX1) (N := 3) hx hb hts hin_X1 hown hK hP 1 rfl rfl 2 (by decide) hw_fieldLink_RX3_118_FlowGrid_Row_size_I (fun _ h9 => h9) rfl dX3_count_36 ?_
  exact fz_iret hx hb hr hlocks (rfl) hP hK hD hS dX3_count_39

set_option maxHeartbeats 4000000 in
set_option maxRecDepth 100000 in
theorem c_X3_count1 (l : Launch) (D : va_G) (cD : ClassId) (g r rd rm q f n kd lim sol ord : Nat) (dd mm : Nat → UInt64) (gone : UInt64) (cst cfl crf : Int32) : fz_C l D [(cD, .double)] yX3_count wsX3_count ({ frames := 0, cells := 0, slots := 0, locals := 0 }) [.ref g, .int (nI 1)] [(g, .inr (3, [.ref r, .ref q, .ref f, .int (nI kd), .int (nI lim), .int (nI sol), .int (nI ord), .double gone, .int cst, .int cfl, .int crf])), (r, .inr (1, [.ref rd, .ref rm, .int (nI n)])), (rd, fz_da cD 28 dd), (rm, fz_da cD 28 mm)] [(g, .inr (3, [.ref r, .ref q, .ref f, .int (nI kd), .int (nI lim), .int (nI sol), .int (nI ord), .double gone, .int cst, .int cfl, .int crf])), (r, .inr (1, [.ref rd, .ref rm, .int (nI n)])), (rd, fz_da cD 28 dd), (rm, fz_da cD 28 mm)] (some (.int (cst))) := by
  refine fz_start (cc := cX3_count) (maxL := 2) (ret := (some .int)) (by decide) rfl (Nat.le_of_ble_eq_true rfl) ?_
  intro p e s m below meth c A hx hb hr hlocks hml hown hts hK hA hNW H locs hP hD hS ls hl
  have hl : lv_has ls 2 [(0, .ref g), (1, .int (nI 1))] := hl
  have hown : s.vm.findClass RX3 = some m.cls := hown
  have hw_fieldLink_RX3_43_FlowGrid_stepsMade_I := hts (.fieldLink RX3 43 "FlowGrid" "stepsMade" "I") (by decide +kernel)
  have hin_X3 : ∀ w ∈ u_ws RX3 TX3 11, w ∈ wsX3_count := by decide +kernel
  refine lv_iload_n hx hb dX3_count_0 rfl (lv_at hl 1 rfl) ?_
  refine lv_tableIn (off := 39) (tgt := 40) hx hb dX3_count_1 (by decide) (by decide) (by decide) (by decide) ?_
  refine lv_aload_n hx hb dX3_count_40 rfl (lv_at hl 0 rfl) ?_
  refine va_get (D := D) (ci := 3) (v := .int cst) (C := RX3) (T := TX3) (N := 11) hx hb hts hin_X3 hown hK hP 0 rfl rfl 8 (by decide) hw_fieldLink_RX3_43_FlowGrid_stepsMade_I (fun _ h9 => h9) rfl dX3_count_41 ?_
  exact fz_iret hx hb hr hlocks (rfl) hP hK hD hS dX3_count_44

set_option maxHeartbeats 4000000 in
set_option maxRecDepth 100000 in
theorem c_X3_count2 (l : Launch) (D : va_G) (cD : ClassId) (g r rd rm q f n kd lim sol ord : Nat) (dd mm : Nat → UInt64) (gone : UInt64) (cst cfl crf : Int32) : fz_C l D [(cD, .double)] yX3_count wsX3_count ({ frames := 0, cells := 0, slots := 0, locals := 0 }) [.ref g, .int (nI 2)] [(g, .inr (3, [.ref r, .ref q, .ref f, .int (nI kd), .int (nI lim), .int (nI sol), .int (nI ord), .double gone, .int cst, .int cfl, .int crf])), (r, .inr (1, [.ref rd, .ref rm, .int (nI n)])), (rd, fz_da cD 28 dd), (rm, fz_da cD 28 mm)] [(g, .inr (3, [.ref r, .ref q, .ref f, .int (nI kd), .int (nI lim), .int (nI sol), .int (nI ord), .double gone, .int cst, .int cfl, .int crf])), (r, .inr (1, [.ref rd, .ref rm, .int (nI n)])), (rd, fz_da cD 28 dd), (rm, fz_da cD 28 mm)] (some (.int (cfl))) := by
  refine fz_start (cc := cX3_count) (maxL := 2) (ret := (some .int)) (by decide) rfl (Nat.le_of_ble_eq_true rfl) ?_
  intro p e s m below meth c A hx hb hr hlocks hml hown hts hK hA hNW H locs hP hD hS ls hl
  have hl : lv_has ls 2 [(0, .ref g), (1, .int (nI 2))] := hl
  have hown : s.vm.findClass RX3 = some m.cls := hown
  have hw_fieldLink_RX3_46_FlowGrid_triesFailed_I := hts (.fieldLink RX3 46 "FlowGrid" "triesFailed" "I") (by decide +kernel)
  have hin_X3 : ∀ w ∈ u_ws RX3 TX3 11, w ∈ wsX3_count := by decide +kernel
  refine lv_iload_n hx hb dX3_count_0 rfl (lv_at hl 1 rfl) ?_
  refine lv_tableIn (off := 44) (tgt := 45) hx hb dX3_count_1 (by decide) (by decide) (by decide) (by decide) ?_
  refine lv_aload_n hx hb dX3_count_45 rfl (lv_at hl 0 rfl) ?_
  refine va_get (D := D) (ci := 3) (v := .int cfl) (C := RX3) (T := TX3) (N := 11) hx hb hts hin_X3 hown hK hP 0 rfl rfl 9 (by decide) hw_fieldLink_RX3_46_FlowGrid_triesFailed_I (fun _ h9 => h9) rfl dX3_count_46 ?_
  exact fz_iret hx hb hr hlocks (rfl) hP hK hD hS dX3_count_49

set_option maxHeartbeats 4000000 in
set_option maxRecDepth 100000 in
theorem c_X3_count3 (l : Launch) (D : va_G) (cD : ClassId) (g r rd rm q f n kd lim sol ord : Nat) (dd mm : Nat → UInt64) (gone : UInt64) (cst cfl crf : Int32) : fz_C l D [(cD, .double)] yX3_count wsX3_count ({ frames := 0, cells := 0, slots := 0, locals := 0 }) [.ref g, .int (nI 3)] [(g, .inr (3, [.ref r, .ref q, .ref f, .int (nI kd), .int (nI lim), .int (nI sol), .int (nI ord), .double gone, .int cst, .int cfl, .int crf])), (r, .inr (1, [.ref rd, .ref rm, .int (nI n)])), (rd, fz_da cD 28 dd), (rm, fz_da cD 28 mm)] [(g, .inr (3, [.ref r, .ref q, .ref f, .int (nI kd), .int (nI lim), .int (nI sol), .int (nI ord), .double gone, .int cst, .int cfl, .int crf])), (r, .inr (1, [.ref rd, .ref rm, .int (nI n)])), (rd, fz_da cD 28 dd), (rm, fz_da cD 28 mm)] (some (.int (crf))) := by
  refine fz_start (cc := cX3_count) (maxL := 2) (ret := (some .int)) (by decide) rfl (Nat.le_of_ble_eq_true rfl) ?_
  intro p e s m below meth c A hx hb hr hlocks hml hown hts hK hA hNW H locs hP hD hS ls hl
  have hl : lv_has ls 2 [(0, .ref g), (1, .int (nI 3))] := hl
  have hown : s.vm.findClass RX3 = some m.cls := hown
  have hw_fieldLink_RX3_49_FlowGrid_stepsRefused_I := hts (.fieldLink RX3 49 "FlowGrid" "stepsRefused" "I") (by decide +kernel)
  have hin_X3 : ∀ w ∈ u_ws RX3 TX3 11, w ∈ wsX3_count := by decide +kernel
  refine lv_iload_n hx hb dX3_count_0 rfl (lv_at hl 1 rfl) ?_
  refine lv_tableIn (off := 49) (tgt := 50) hx hb dX3_count_1 (by decide) (by decide) (by decide) (by decide) ?_
  refine lv_aload_n hx hb dX3_count_50 rfl (lv_at hl 0 rfl) ?_
  refine va_get (D := D) (ci := 3) (v := .int crf) (C := RX3) (T := TX3) (N := 11) hx hb hts hin_X3 hown hK hP 0 rfl rfl 10 (by decide) hw_fieldLink_RX3_49_FlowGrid_stepsRefused_I (fun _ h9 => h9) rfl dX3_count_51 ?_
  exact fz_iret hx hb hr hlocks (rfl) hP hK hD hS dX3_count_54

set_option maxHeartbeats 4000000 in
set_option maxRecDepth 100000 in
theorem c_X3_countT (l : Launch) (hlt : l.stackTraces = false) (D : va_G) (cD : ClassId) (g r rd rm q f n kd lim sol ord : Nat) (dd mm : Nat → UInt64) (gone : UInt64) (cst cfl crf : Int32) (w : Int32) (hw : w.toInt < 0 ∨ 3 < w.toInt) : fz_T l D [(cD, .double)] yX3_count wsX3_count ({ frames := 6, cells := 1, slots := 6, locals := 90 }) [.ref g, .int w] [(g, .inr (3, [.ref r, .ref q, .ref f, .int (nI kd), .int (nI lim), .int (nI sol), .int (nI ord), .double gone, .int cst, .int cfl, .int crf])), (r, .inr (1, [.ref rd, .ref rm, .int (nI n)])), (rd, fz_da cD 28 dd), (rm, fz_da cD 28 mm)] fz_NSE (fun wo => wo = [(g, .inr (3, [.ref r, .ref q, .ref f, .int (nI kd), .int (nI lim), .int (nI sol), .int (nI ord), .double gone, .int cst, .int cfl, .int crf])), (r, .inr (1, [.ref rd, .ref rm, .int (nI n)])), (rd, fz_da cD 28 dd), (rm, fz_da cD 28 mm)]) := by
  refine fz_startT (cc := cX3_count) (maxL := 2) (ret := (some .int)) (by decide) rfl (Nat.le_of_ble_eq_true rfl) ?_
  intro p e s m below meth c A hx hb hr hlocks hml hown hts hK hA hNW htb hST hCA hXZ H locs hP hD hS ls hl
  have hl : lv_has ls 2 [(0, .ref g), (1, .int w)] := hl
  have hown : s.vm.findClass RX3 = some m.cls := hown
  have hw_classLink_RX3_106_java_util_NoSuchElementException := hts (.classLink RX3 106 "java/util/NoSuchElementException") (by decide +kernel)
  have hw_initialized_java_util_NoSuchElementException := hts (.initialized "java/util/NoSuchElementException") (by decide +kernel)
  have hmemX_108 : ∀ w ∈ (vn_atS "FlowGrid" 108).filter goodWord, w ∈ wsX3_count := by decide +kernel
  refine lv_iload_n hx hb dX3_count_0 rfl (lv_at hl 1 rfl) ?_
  refine lv_tableOut (tgt := 55) hx hb dX3_count_1 (hw) (by decide) ?_
  exact fz_throwN (text := "there is no such count") (is := 140) (ik := 106) hx hb hlt hts hown (by decide +kernel) hw_classLink_RX3_106_java_util_NoSuchElementException hw_initialized_java_util_NoSuchElementException hST (by decide +kernel) hCA (by decide +kernel) hmemX_108 (by decide +kernel) (by decide +kernel) hXZ hS (hl.1.trans hml.symm) htb dX3_count_55 dX3_count_58 dX3_count_59 dX3_count_61 dX3_count_64 (Nat.le_of_ble_eq_true rfl) (Nat.le_of_ble_eq_true rfl) (Nat.le_refl _) (Nat.le_refl _) hlocks (rfl) hP hK hD
