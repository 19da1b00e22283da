/-! FlowGridModel: slopes, close, face -/
theorem fz_topdq {p : Program} {l : Launch} {e : Env} {R : Room} {s : State} {m : MethodId} {args : Array Value} {below : List Frame} {meth : Method} {c : Code} {H : Heap} {locs : List Loc} {cells slots : Nat} {Q : State → Prop} {pc : Nat} {ls : Array Slot} {rest : List Value} {x y : UInt64} (h : x = y) (k : W p l e R s m args below meth c H locs cells slots Q (F0 m pc ls (.double y :: rest))) : W p l e R s m args below meth c H locs cells slots Q (F0 m pc ls (.double x :: rest)) := by rw [h]; exact k
def fz_slOkM (lim : Nat) (d m : Nat → UInt64) (j : Nat) : Prop := fz_slcOk (fz_dA d j) (fz_dB d j) ∧ fz_slcOk (fz_dA m j) (fz_dB m j) ∧ vf_n64 (FP.dmul fz_half (fz_slAt lim d j)) ∧ vf_n64 (FP.dadd (d (j + 1)) (FP.dmul fz_half (fz_slAt lim d j))) ∧ vf_n64 (FP.dsub (d (j + 1)) (FP.dmul fz_half (fz_slAt lim d j))) ∧ fz_slopeM lim (fz_dA d j) (fz_dB d j) = fz_slAt lim d j ∧ fz_slopeM lim (fz_dA m j) (fz_dB m j) = fz_slAt lim m j
theorem fz_upn {f : Nat → UInt64} {k j : Nat} {x : UInt64} (h : j ≠ k) : vf_upd f k x j = f j := by unfold vf_upd; rw [if_neg h]
def fz_put (b : Nat) (f g : Nat → UInt64) : Nat → UInt64 := fun q => if b ≤ q ∧ q < b + 28 then g (q - b) else f q
def fz_row (f : Nat → UInt64) (b : Nat) : Nat → UInt64 := fun q => f (q + b)
theorem fz_clq (b n : Nat) (hn4 : 4 ≤ n) (hn : n ≤ 24) (f g : Nat → UInt64) (x1 x2 x3 x4 : UInt64) (h1 : g 1 = x1) (h2 : g (n + 2) = x2) (h0 : g 0 = x3) (h3 : g (n + 3) = x4) (hg : ∀ q, q ≠ 1 → q ≠ 0 → q ≠ n + 2 → q ≠ n + 3 → g q = f (q + b)) : ∀ i, vf_upd (vf_upd (vf_upd (vf_upd f (1 + b) x1) (n + 2 + b) x2) b x3) (n + 3 + b) x4 i = fz_put b f g i := by
  intro i
  unfold fz_put
  by_cases hr : b ≤ i ∧ i < b + 28
  · obtain ⟨j, rfl⟩ : ∃ j, i = j + b := ⟨i - b, by omega⟩
    rw [if_pos hr, Nat.add_sub_cancel]
    unfold vf_upd
    by_cases e3 : j = n + 3
    · subst e3; rw [if_pos rfl, h3]
    rw [if_neg (by omega)]
    by_cases e0 : j = 0
    · subst e0; rw [if_pos (by omega), h0]
    rw [if_neg (by omega)]
    by_cases e2 : j = n + 2
    · subst e2; rw [if_pos rfl, h2]
    rw [if_neg (by omega)]
    by_cases e1 : j = 1
    · subst e1; rw [if_pos rfl, h1]
    rw [if_neg (by omega), hg j e1 e0 e2 e3]
  · rw [if_neg hr]
    unfold vf_upd
    rw [if_neg (by omega), if_neg (by omega), if_neg (by omega), if_neg (by omega)]
abbrev fz_u (h m : UInt64) : UInt64 := FP.ddiv m h
abbrev fz_xM (u1 c1 u2 c2 : UInt64) : UInt64 := fz_lesM (FP.dsub u1 c1) (FP.dsub u2 c2)
abbrev fz_yM (u1 c1 u2 c2 : UInt64) : UInt64 := fz_gtrM (FP.dadd u1 c1) (FP.dadd u2 c2)
def fz_chB (h1 m1 h2 m2 : UInt64) : Prop := vf_n64 (fz_reach (fz_u h1 m1) (fz_root h1)) ∧ vf_n64 (fz_reach (fz_u h2 m2) (fz_root h2)) ∧ fz_gtrM (fz_reach (fz_u h1 m1) (fz_root h1)) (fz_reach (fz_u h2 m2) (fz_root h2)) = fz_sB (fz_u h1 m1) (fz_root h1) (fz_u h2 m2) (fz_root h2) ∧ fz_brdOk (fz_sB (fz_u h1 m1) (fz_root h1) (fz_u h2 m2) (fz_root h2)) m1 m2 h1 h2 ∧ fz_brdOk (fz_sB (fz_u h1 m1) (fz_root h1) (fz_u h2 m2) (fz_root h2)) (fz_mflux h1 m1 (fz_u h1 m1)) (fz_mflux h2 m2 (fz_u h2 m2)) m1 m2
def fz_chN (h1 m1 h2 m2 : UInt64) : Prop := vf_n64 (FP.dsub (fz_u h1 m1) (fz_root h1)) ∧ vf_n64 (FP.dsub (fz_u h2 m2) (fz_root h2)) ∧ vf_n64 (FP.dadd (fz_u h1 m1) (fz_root h1)) ∧ vf_n64 (FP.dadd (fz_u h2 m2) (fz_root h2)) ∧ vf_n64 (FP.dsub h2 h1) ∧ vf_n64 (FP.dsub m2 m1) ∧ fz_bldOk (fz_xM (fz_u h1 m1) (fz_root h1) (fz_u h2 m2) (fz_root h2)) (fz_yM (fz_u h1 m1) (fz_root h1) (fz_u h2 m2) (fz_root h2)) m1 m2 (FP.dsub h2 h1) ∧ fz_bldOk (fz_xM (fz_u h1 m1) (fz_root h1) (fz_u h2 m2) (fz_root h2)) (fz_yM (fz_u h1 m1) (fz_root h1) (fz_u h2 m2) (fz_root h2)) (fz_mflux h1 m1 (fz_u h1 m1)) (fz_mflux h2 m2 (fz_u h2 m2)) (FP.dsub m2 m1)
  ∧ fz_bld (fz_xM (fz_u h1 m1) (fz_root h1) (fz_u h2 m2) (fz_root h2)) (fz_yM (fz_u h1 m1) (fz_root h1) (fz_u h2 m2) (fz_root h2)) m1 m2 (FP.dsub h2 h1) = fz_bld (fz_xN (fz_u h1 m1) (fz_root h1) (fz_u h2 m2) (fz_root h2)) (fz_yN (fz_u h1 m1) (fz_root h1) (fz_u h2 m2) (fz_root h2)) m1 m2 (FP.dsub h2 h1)
  ∧ fz_bld (fz_xM (fz_u h1 m1) (fz_root h1) (fz_u h2 m2) (fz_root h2)) (fz_yM (fz_u h1 m1) (fz_root h1) (fz_u h2 m2) (fz_root h2)) (fz_mflux h1 m1 (fz_u h1 m1)) (fz_mflux h2 m2 (fz_u h2 m2)) (FP.dsub m2 m1) = fz_bld (fz_xN (fz_u h1 m1) (fz_root h1) (fz_u h2 m2) (fz_root h2)) (fz_yN (fz_u h1 m1) (fz_root h1) (fz_u h2 m2) (fz_root h2)) (fz_mflux h1 m1 (fz_u h1 m1)) (fz_mflux h2 m2 (fz_u h2 m2)) (FP.dsub m2 m1)
abbrev fz_hL (lim : Nat) (d : Nat → UInt64) (j : Nat) : UInt64 := fz_L d (fz_SH lim d) j
abbrev fz_mL (lim : Nat) (d m : Nat → UInt64) (j : Nat) : UInt64 := fz_L m (fz_SM lim d m) j
abbrev fz_hR (lim : Nat) (d : Nat → UInt64) (j : Nat) : UInt64 := fz_R d (fz_SH lim d) j
abbrev fz_mR (lim : Nat) (d m : Nat → UInt64) (j : Nat) : UInt64 := fz_R m (fz_SM lim d m) j
def fz_fcOk (lim sol : Nat) (d m : Nat → UInt64) (j : Nat) : Prop := fz_slOkM lim d m j ∧ fz_slOkM lim d m (j + 1) ∧ fz_gsOk d m (fz_SH lim d) (fz_SM lim d m) j ∧ fz_mfOk (fz_hL lim d j) (fz_mL lim d m j) (fz_u (fz_hL lim d j) (fz_mL lim d m j)) ∧ fz_mfOk (fz_hR lim d j) (fz_mR lim d m j) (fz_u (fz_hR lim d j) (fz_mR lim d m j)) ∧ (sol = 0 → fz_chB (fz_hL lim d j) (fz_mL lim d m j) (fz_hR lim d j) (fz_mR lim d m j)) ∧ (sol = 1 → fz_chN (fz_hL lim d j) (fz_mL lim d m j) (fz_hR lim d j) (fz_mR lim d m j))

set_option maxHeartbeats 4000000 in
set_option maxRecDepth 100000 in
theorem c_X4_slopes (l : Launch) (D : va_G) (cD : ClassId) (o dp mp n kd lim sol ord : Nat) (dR mR : Nat → UInt64) (thr : Int32) (tm v0 v1 v2 v3 v4 v5 v6 v7 : UInt64) (cst cfl crf : Int32) (j : Nat) (hj : j < 82) (hlim : lim ≤ 3) (hok : fz_slOkM lim dR mR j) : fz_C l D [(cD, .double)] yX4_slopes wsX4_slopes ({ frames := 3, cells := 0, slots := 0, locals := 90 }) [.ref o, .int (nI (j + 1))] [(o, .inr (4, [.int thr, .int (nI n), .int (nI kd), .int (nI lim), .int (nI sol), .int (nI ord), .double tm, .int cst, .int cfl, .int crf, .ref dp, .ref mp, .double v0, .double v1, .double v2, .double v3, .double v4, .double v5, .double v6, .double v7])), (dp, fz_da cD 84 dR), (mp, fz_da cD 84 mR)] [(o, .inr (4, [.int thr, .int (nI n), .int (nI kd), .int (nI lim), .int (nI sol), .int (nI ord), .double tm, .int cst, .int cfl, .int crf, .ref dp, .ref mp, .double (fz_sHg lim dR j), .double (fz_sMg lim dR mR j), .double v2, .double v3, .double v4, .double v5, .double v6, .double v7])), (dp, fz_da cD 84 dR), (mp, fz_da cD 84 mR)] (none) := by
  refine fz_start (cc := cX4_slopes) (maxL := 2) (ret := none) (by decide) rfl (Nat.le_of_ble_eq_true rfl) ?_
  intro p e s m below meth c A hx hb hr hlocks hml hown hts hK hA hNW H locs hP hD hS ls hl
  have hl : lv_has ls 2 [(0, .ref o), (1, .int (nI (j + 1)))] := hl
  have hown : s.vm.findClass RX4 = some m.cls := hown
  have hw_fieldLink_RX4_7_FlowGridModel_depth_D := hts (.fieldLink RX4 7 "FlowGridModel" "depth" "[D") (by decide +kernel)
  have hin_X4 : ∀ w ∈ u_ws RX4 TX4 20, w ∈ wsX4_slopes := by decide +kernel
  have hw_fieldLink_RX4_81_FlowGridModel_slopeH_D := hts (.fieldLink RX4 81 "FlowGridModel" "slopeH" "D") (by decide +kernel)
  have hw_fieldLink_RX4_13_FlowGridModel_momentum_D := hts (.fieldLink RX4 13 "FlowGridModel" "momentum" "[D") (by decide +kernel)
  have hw_fieldLink_RX4_84_FlowGridModel_slopeM_D := hts (.fieldLink RX4 84 "FlowGridModel" "slopeM" "D") (by decide +kernel)
  have hw_constantDouble_RX4_63_4602678819172646912 := hts (.constantDouble RX4 63 (4602678819172646912)) (by decide +kernel)
  have hw_constantDouble_RX4_87_4576918229304087675 := hts (.constantDouble RX4 87 (4576918229304087675)) (by decide +kernel)
  refine lv_aload_n hx hb dX4_slopes_0 rfl (lv_at hl 0 rfl) ?_
  refine lv_aload_n hx hb dX4_slopes_1 rfl (lv_at hl 0 rfl) ?_
  refine lv_aload_n hx hb dX4_slopes_2 rfl (lv_at hl 0 rfl) ?_
  refine va_get (D := D) (ci := 4) (v := .ref dp) (C := RX4) (T := TX4) (N := 20) hx hb hts hin_X4 hown hK hP 0 rfl rfl 10 (by decide) hw_fieldLink_RX4_7_FlowGridModel_depth_D (fun _ h9 => h9) rfl dX4_slopes_3 ?_
  refine lv_iload_n hx hb dX4_slopes_6 rfl (lv_at hl 1 rfl) ?_
  refine fz_dald (i := j + 1) hx hb hK hP 1 0 rfl rfl (by omega) (by decide) dX4_slopes_7 ?_
  refine lv_aload_n hx hb dX4_slopes_8 rfl (lv_at hl 0 rfl) ?_
  refine va_get (D := D) (ci := 4) (v := .ref dp) (C := RX4) (T := TX4) (N := 20) hx hb hts hin_X4 hown hK hP 0 rfl rfl 10 (by decide) hw_fieldLink_RX4_7_FlowGridModel_depth_D (fun _ h9 => h9) rfl dX4_slopes_9 ?_
  refine lv_iload_n hx hb dX4_slopes_12 rfl (lv_at hl 1 rfl) ?_
  refine lv_iconst (v := nI 1) hx hb dX4_slopes_13 (by decide) ?_
  refine fz_isubN hx hb (by omega) dX4_slopes_14 ?_
  refine fz_topn (b := j) (by omega) ?_
  refine fz_dald (i := j) hx hb hK hP 1 0 rfl rfl (by omega) (by decide) dX4_slopes_15 ?_
  refine lv_dsub hx hb dX4_slopes_16 (hok.1.1) ?_
  refine lv_aload_n hx hb dX4_slopes_17 rfl (lv_at hl 0 rfl) ?_
  refine va_get (D := D) (ci := 4) (v := .ref dp) (C := RX4) (T := TX4) (N := 20) hx hb hts hin_X4 hown hK hP 0 rfl rfl 10 (by decide) hw_fieldLink_RX4_7_FlowGridModel_depth_D (fun _ h9 => h9) rfl dX4_slopes_18 ?_
  refine lv_iload_n hx hb dX4_slopes_21 rfl (lv_at hl 1 rfl) ?_
  refine lv_iconst (v := nI 1) hx hb dX4_slopes_22 (by decide) ?_
  refine fz_iaddN hx hb dX4_slopes_23 ?_
  refine fz_topn (b := j + 2) (by omega) ?_
  refine fz_dald (i := j + 2) hx hb hK hP 1 0 rfl rfl (by omega) (by decide) dX4_slopes_24 ?_
  refine lv_aload_n hx hb dX4_slopes_25 rfl (lv_at hl 0 rfl) ?_
  refine va_get (D := D) (ci := 4) (v := .ref dp) (C := RX4) (T := TX4) (N := 20) hx hb hts hin_X4 hown hK hP 0 rfl rfl 10 (by decide) hw_fieldLink_RX4_7_FlowGridModel_depth_D (fun _ h9 => h9) rfl dX4_slopes_26 ?_
  refine lv_iload_n hx hb dX4_slopes_29 rfl (lv_at hl 1 rfl) ?_
  refine fz_dald (i := j + 1) hx hb hK hP 1 0 rfl rfl (by omega) (by decide) dX4_slopes_30 ?_
  refine lv_dsub hx hb dX4_slopes_31 (hok.1.2.1) ?_
  refine fz_callV (ws' := [(o, .inr (4, [.int thr, .int (nI n), .int (nI kd), .int (nI lim), .int (nI sol), .int (nI ord), .double tm, .int cst, .int cfl, .int crf, .ref dp, .ref mp, .double v0, .double v1, .double v2, .double v3, .double v4, .double v5, .double v6, .double v7])), (dp, fz_da cD 84 dR), (mp, fz_da cD 84 mR)]) (wr := [(dp, fz_da cD 84 dR), (mp, fz_da cD 84 mR)]) (As := [.double (FP.dsub (dR (j + 1)) (dR j)), .double (FP.dsub (dR (j + 2)) (dR (j + 1)))]) (rest := [.ref o]) ⟨hx, hb, hml, hown, hts⟩ (c_X4_slope l D cD o dp mp n kd lim sol ord dR mR thr tm v0 v1 v2 v3 v4 v5 v6 v7 cst cfl crf (FP.dsub (dR (j + 1)) (dR j)) (FP.dsub (dR (j + 2)) (dR (j + 1))) hlim (hok.1)) (cwV 2 hts gX4_slopes_X4_slope rfl rfl rfl (by decide +kernel) ⟨Nat.le_of_ble_eq_true rfl, Nat.le_of_ble_eq_true rfl⟩) hK hNW hP hD hS hA [0] [1, 2] [2, 0, 1] rfl rfl rfl rfl (by decide) rfl rfl (q0 := 0) (ci := 4) rfl rfl rfl rfl hl.1 rfl (Nat.le_of_ble_eq_true rfl) dX4_slopes_32 ⟨Nat.zero_le _, Nat.zero_le _⟩ (fun H locs hP hD hS => ?_)
  rw [hok.2.2.2.2.2.1]
  refine va_put (D := D) (ci := 4) (v := .double (fz_slAt lim dR j)) (ty := .double) (C := RX4) (T := TX4) (N := 20) hx hb hts hin_X4 tyX4 tyX4_ok nmX4 hown hK hP hD hS 0 rfl rfl 12 (by decide) hw_fieldLink_RX4_81_FlowGridModel_slopeH_D (fun _ h9 => h9) rfl (by decide +kernel) rfl rfl (Nat.le_of_ble_eq_true rfl) dX4_slopes_35 (fun H locs hP hD hS => ?_)
  have hP : va_P D vwCl [(o, .inr (4, [.int thr, .int (nI n), .int (nI kd), .int (nI lim), .int (nI sol), .int (nI ord), .double tm, .int cst, .int cfl, .int crf, .ref dp, .ref mp, .double (fz_slAt lim dR j), .double v1, .double v2, .double v3, .double v4, .double v5, .double v6, .double v7])), (dp, fz_da cD 84 dR), (mp, fz_da cD 84 mR)] H := hP
  have hD : va_D A [(o, .inr (4, [.int thr, .int (nI n), .int (nI kd), .int (nI lim), .int (nI sol), .int (nI ord), .double tm, .int cst, .int cfl, .int crf, .ref dp, .ref mp, .double (fz_slAt lim dR j), .double v1, .double v2, .double v3, .double v4, .double v5, .double v6, .double v7])), (dp, fz_da cD 84 dR), (mp, fz_da cD 84 mR)] := hD
  refine lv_aload_n hx hb dX4_slopes_38 rfl (lv_at hl 0 rfl) ?_
  refine lv_aload_n hx hb dX4_slopes_39 rfl (lv_at hl 0 rfl) ?_
  refine lv_aload_n hx hb dX4_slopes_40 rfl (lv_at hl 0 rfl) ?_
  refine va_get (D := D) (ci := 4) (v := .ref mp) (C := RX4) (T := TX4) (N := 20) hx hb hts hin_X4 hown hK hP 0 rfl rfl 11 (by decide) hw_fieldLink_RX4_13_FlowGridModel_momentum_D (fun _ h9 => h9) rfl dX4_slopes_41 ?_
  refine lv_iload_n hx hb dX4_slopes_44 rfl (lv_at hl 1 rfl) ?_
  refine fz_dald (i := j + 1) hx hb hK hP 2 0 rfl rfl (by omega) (by decide) dX4_slopes_45 ?_
  refine lv_aload_n hx hb dX4_slopes_46 rfl (lv_at hl 0 rfl) ?_
  refine va_get (D := D) (ci := 4) (v := .ref mp) (C := RX4) (T := TX4) (N := 20) hx hb hts hin_X4 hown hK hP 0 rfl rfl 11 (by decide) hw_fieldLink_RX4_13_FlowGridModel_momentum_D (fun _ h9 => h9) rfl dX4_slopes_47 ?_
  refine lv_iload_n hx hb dX4_slopes_50 rfl (lv_at hl 1 rfl) ?_
  refine lv_iconst (v := nI 1) hx hb dX4_slopes_51 (by decide) ?_
  refine fz_isubN hx hb (by omega) dX4_slopes_52 ?_
  refine fz_topn (b := j) (by omega) ?_
  refine fz_dald (i := j) hx hb hK hP 2 0 rfl rfl (by omega) (by decide) dX4_slopes_53 ?_
  refine lv_dsub hx hb dX4_slopes_54 (hok.2.1.1) ?_
  refine lv_aload_n hx hb dX4_slopes_55 rfl (lv_at hl 0 rfl) ?_
  refine va_get (D := D) (ci := 4) (v := .ref mp) (C := RX4) (T := TX4) (N := 20) hx hb hts hin_X4 hown hK hP 0 rfl rfl 11 (by decide) hw_fieldLink_RX4_13_FlowGridModel_momentum_D (fun _ h9 => h9) rfl dX4_slopes_56 ?_
  refine lv_iload_n hx hb dX4_slopes_59 rfl (lv_at hl 1 rfl) ?_
  refine lv_iconst (v := nI 1) hx hb dX4_slopes_60 (by decide) ?_
  refine fz_iaddN hx hb dX4_slopes_61 ?_
  refine fz_topn (b := j + 2) (by omega) ?_
  refine fz_dald (i := j + 2) hx hb hK hP 2 0 rfl rfl (by omega) (by decide) dX4_slopes_62 ?_
  refine lv_aload_n hx hb dX4_slopes_63 rfl (lv_at hl 0 rfl) ?_
  refine va_get (D := D) (ci := 4) (v := .ref mp) (C := RX4) (T := TX4) (N := 20) hx hb hts hin_X4 hown hK hP 0 rfl rfl 11 (by decide) hw_fieldLink_RX4_13_FlowGridModel_momentum_D (fun _ h9 => h9) rfl dX4_slopes_64 ?_
  refine lv_iload_n hx hb dX4_slopes_67 rfl (lv_at hl 1 rfl) ?_
  refine fz_dald (i := j + 1) hx hb hK hP 2 0 rfl rfl (by omega) (by decide) dX4_slopes_68 ?_
  refine lv_dsub hx hb dX4_slopes_69 (hok.2.1.2.1) ?_
  refine fz_callV (ws' := [(o, .inr (4, [.int thr, .int (nI n), .int (nI kd), .int (nI lim), .int (nI sol), .int (nI ord), .double tm, .int cst, .int cfl, .int crf, .ref dp, .ref mp, .double (fz_slAt lim dR j), .double v1, .double v2, .double v3, .double v4, .double v5, .double v6, .double v7])), (dp, fz_da cD 84 dR), (mp, fz_da cD 84 mR)]) (wr := [(dp, fz_da cD 84 dR), (mp, fz_da cD 84 mR)]) (As := [.double (FP.dsub (mR (j + 1)) (mR j)), .double (FP.dsub (mR (j + 2)) (mR (j + 1)))]) (rest := [.ref o]) ⟨hx, hb, hml, hown, hts⟩ (c_X4_slope l D cD o dp mp n kd lim sol ord dR mR thr tm (fz_slAt lim dR j) v1 v2 v3 v4 v5 v6 v7 cst cfl crf (FP.dsub (mR (j + 1)) (mR j)) (FP.dsub (mR (j + 2)) (mR (j + 1))) hlim (hok.2.1)) (cwV 2 hts gX4_slopes_X4_slope rfl rfl rfl (by decide +kernel) ⟨Nat.le_of_ble_eq_true rfl, Nat.le_of_ble_eq_true rfl⟩) hK hNW hP hD hS hA [0] [1, 2] [2, 0, 1] rfl rfl rfl rfl (by decide) rfl rfl (q0 := 0) (ci := 4) rfl rfl rfl rfl hl.1 rfl (Nat.le_of_ble_eq_true rfl) dX4_slopes_70 ⟨Nat.zero_le _, Nat.zero_le _⟩ (fun H locs hP hD hS => ?_)
  rw [hok.2.2.2.2.2.2]
  refine va_put (D := D) (ci := 4) (v := .double (fz_slAt lim mR j)) (ty := .double) (C := RX4) (T := TX4) (N := 20) hx hb hts hin_X4 tyX4 tyX4_ok nmX4 hown hK hP hD hS 0 rfl rfl 13 (by decide) hw_fieldLink_RX4_84_FlowGridModel_slopeM_D (fun _ h9 => h9) rfl (by decide +kernel) rfl rfl (Nat.le_of_ble_eq_true rfl) dX4_slopes_73 (fun H locs hP hD hS => ?_)
  have hP : va_P D vwCl [(o, .inr (4, [.int thr, .int (nI n), .int (nI kd), .int (nI lim), .int (nI sol), .int (nI ord), .double tm, .int cst, .int cfl, .int crf, .ref dp, .ref mp, .double (fz_slAt lim dR j), .double (fz_slAt lim mR j), .double v2, .double v3, .double v4, .double v5, .double v6, .double v7])), (dp, fz_da cD 84 dR), (mp, fz_da cD 84 mR)] H := hP
  have hD : va_D A [(o, .inr (4, [.int thr, .int (nI n), .int (nI kd), .int (nI lim), .int (nI sol), .int (nI ord), .double tm, .int cst, .int cfl, .int crf, .ref dp, .ref mp, .double (fz_slAt lim dR j), .double (fz_slAt lim mR j), .double v2, .double v3, .double v4, .double v5, .double v6, .double v7])), (dp, fz_da cD 84 dR), (mp, fz_da cD 84 mR)] := hD
  refine lv_aload_n hx hb dX4_slopes_76 rfl (lv_at hl 0 rfl) ?_
  refine va_get (D := D) (ci := 4) (v := .ref dp) (C := RX4) (T := TX4) (N := 20) hx hb hts hin_X4 hown hK hP 0 rfl rfl 10 (by decide) hw_fieldLink_RX4_7_FlowGridModel_depth_D (fun _ h9 => h9) rfl dX4_slopes_77 ?_
  refine lv_iload_n hx hb dX4_slopes_80 rfl (lv_at hl 1 rfl) ?_
  refine fz_dald (i := j + 1) hx hb hK hP 1 0 rfl rfl (by omega) (by decide) dX4_slopes_81 ?_
  refine lv_ldc2d hx hb hown hw_constantDouble_RX4_63_4602678819172646912 dX4_slopes_82 ?_
  refine lv_aload_n hx hb dX4_slopes_85 rfl (lv_at hl 0 rfl) ?_
  refine va_get (D := D) (ci := 4) (v := .double (fz_slAt lim dR j)) (C := RX4) (T := TX4) (N := 20) hx hb hts hin_X4 hown hK hP 0 rfl rfl 12 (by decide) hw_fieldLink_RX4_81_FlowGridModel_slopeH_D (fun _ h9 => h9) rfl dX4_slopes_86 ?_
  refine lv_dmul hx hb dX4_slopes_89 (hok.2.2.1) ?_
  refine lv_dadd hx hb dX4_slopes_90 (hok.2.2.2.1) ?_
  refine lv_ldc2d hx hb hown hw_constantDouble_RX4_87_4576918229304087675 dX4_slopes_91 ?_
  refine fz_dg_lt (tgt := 120) hx hb dX4_slopes_94 dX4_slopes_95 (by decide) (fun c94 => ?_) (fun c94 => ?_)
  · refine lv_aload_n hx hb dX4_slopes_120 rfl (lv_at hl 0 rfl) ?_
    refine lv_dconst0 hx hb dX4_slopes_121 ?_
    refine va_put (D := D) (ci := 4) (v := .double FP.dconst0) (ty := .double) (C := RX4) (T := TX4) (N := 20) hx hb hts hin_X4 tyX4 tyX4_ok nmX4 hown hK hP hD hS 0 rfl rfl 12 (by decide) hw_fieldLink_RX4_81_FlowGridModel_slopeH_D (fun _ h9 => h9) rfl (by decide +kernel) rfl rfl (Nat.le_of_ble_eq_true rfl) dX4_slopes_122 (fun H locs hP hD hS => ?_)
    have hP : va_P D vwCl [(o, .inr (4, [.int thr, .int (nI n), .int (nI kd), .int (nI lim), .int (nI sol), .int (nI ord), .double tm, .int cst, .int cfl, .int crf, .ref dp, .ref mp, .double FP.dconst0, .double (fz_slAt lim mR j), .double v2, .double v3, .double v4, .double v5, .double v6, .double v7])), (dp, fz_da cD 84 dR), (mp, fz_da cD 84 mR)] H := hP
    have hD : va_D A [(o, .inr (4, [.int thr, .int (nI n), .int (nI kd), .int (nI lim), .int (nI sol), .int (nI ord), .double tm, .int cst, .int cfl, .int crf, .ref dp, .ref mp, .double FP.dconst0, .double (fz_slAt lim mR j), .double v2, .double v3, .double v4, .double v5, .double v6, .double v7])), (dp, fz_da cD 84 dR), (mp, fz_da cD 84 mR)] := hD
    refine lv_aload_n hx hb dX4_slopes_125 rfl (lv_at hl 0 rfl) ?_
    refine lv_dconst0 hx hb dX4_slopes_126 ?_
    refine va_put (D := D) (ci := 4) (v := .double FP.dconst0) (ty := .double) (C := RX4) (T := TX4) (N := 20) hx hb hts hin_X4 tyX4 tyX4_ok nmX4 hown hK hP hD hS 0 rfl rfl 13 (by decide) hw_fieldLink_RX4_84_FlowGridModel_slopeM_D (fun _ h9 => h9) rfl (by decide +kernel) rfl rfl (Nat.le_of_ble_eq_true rfl) dX4_slopes_127 (fun H locs hP hD hS => ?_)
    have hP : va_P D vwCl [(o, .inr (4, [.int thr, .int (nI n), .int (nI kd), .int (nI lim), .int (nI sol), .int (nI ord), .double tm, .int cst, .int cfl, .int crf, .ref dp, .ref mp, .double FP.dconst0, .double FP.dconst0, .double v2, .double v3, .double v4, .double v5, .double v6, .double v7])), (dp, fz_da cD 84 dR), (mp, fz_da cD 84 mR)] H := hP
    have hD : va_D A [(o, .inr (4, [.int thr, .int (nI n), .int (nI kd), .int (nI lim), .int (nI sol), .int (nI ord), .double tm, .int cst, .int cfl, .int crf, .ref dp, .ref mp, .double FP.dconst0, .double FP.dconst0, .double v2, .double v3, .double v4, .double v5, .double v6, .double v7])), (dp, fz_da cD 84 dR), (mp, fz_da cD 84 mR)] := hD
    have e1 : fz_sHg lim dR j = FP.dconst0 := by simp [fz_sHg, fz_dry, c94]
    have e2 : fz_sMg lim dR mR j = FP.dconst0 := by simp [fz_sMg, fz_dry, c94]
    exact fz_vret hx hb hr hlocks rfl (by rw [e1, e2]; exact hP) hK (by rw [e1, e2]; exact hD) hS dX4_slopes_130
  · refine lv_aload_n hx hb dX4_slopes_98 rfl (lv_at hl 0 rfl) ?_
    refine va_get (D := D) (ci := 4) (v := .ref dp) (C := RX4) (T := TX4) (N := 20) hx hb hts hin_X4 hown hK hP 0 rfl rfl 10 (by decide) hw_fieldLink_RX4_7_FlowGridModel_depth_D (fun _ h9 => h9) rfl dX4_slopes_99 ?_
    refine lv_iload_n hx hb dX4_slopes_102 rfl (lv_at hl 1 rfl) ?_
    refine fz_dald (i := j + 1) hx hb hK hP 1 0 rfl rfl (by omega) (by decide) dX4_slopes_103 ?_
    refine lv_ldc2d hx hb hown hw_constantDouble_RX4_63_4602678819172646912 dX4_slopes_104 ?_
    refine lv_aload_n hx hb dX4_slopes_107 rfl (lv_at hl 0 rfl) ?_
    refine va_get (D := D) (ci := 4) (v := .double (fz_slAt lim dR j)) (C := RX4) (T := TX4) (N := 20) hx hb hts hin_X4 hown hK hP 0 rfl rfl 12 (by decide) hw_fieldLink_RX4_81_FlowGridModel_slopeH_D (fun _ h9 => h9) rfl dX4_slopes_108 ?_
    refine lv_dmul hx hb dX4_slopes_111 (hok.2.2.1) ?_
    refine lv_dsub hx hb dX4_slopes_112 (hok.2.2.2.2.1) ?_
    refine lv_ldc2d hx hb hown hw_constantDouble_RX4_87_4576918229304087675 dX4_slopes_113 ?_
    refine fz_dg_ge (tgt := 130) hx hb dX4_slopes_116 dX4_slopes_117 (by decide) (fun c116 => ?_) (fun c116 => ?_)
    · have e1 : fz_sHg lim dR j = fz_slAt lim dR j := by simp [fz_sHg, fz_dry, c94, c116]
      have e2 : fz_sMg lim dR mR j = fz_slAt lim mR j := by simp [fz_sMg, fz_dry, c94, c116]
      exact fz_vret hx hb hr hlocks rfl (by rw [e1, e2]; exact hP) hK (by rw [e1, e2]; exact hD) hS dX4_slopes_130
    · refine lv_aload_n hx hb dX4_slopes_120 rfl (lv_at hl 0 rfl) ?_
      refine lv_dconst0 hx hb dX4_slopes_121 ?_
      refine va_put (D := D) (ci := 4) (v := .double FP.dconst0) (ty := .double) (C := RX4) (T := TX4) (N := 20) hx hb hts hin_X4 tyX4 tyX4_ok nmX4 hown hK hP hD hS 0 rfl rfl 12 (by decide) hw_fieldLink_RX4_81_FlowGridModel_slopeH_D (fun _ h9 => h9) rfl (by decide +kernel) rfl rfl (Nat.le_of_ble_eq_true rfl) dX4_slopes_122 (fun H locs hP hD hS => ?_)
      have hP : va_P D vwCl [(o, .inr (4, [.int thr, .int (nI n), .int (nI kd), .int (nI lim), .int (nI sol), .int (nI ord), .double tm, .int cst, .int cfl, .int crf, .ref dp, .ref mp, .double FP.dconst0, .double (fz_slAt lim mR j), .double v2, .double v3, .double v4, .double v5, .double v6, .double v7])), (dp, fz_da cD 84 dR), (mp, fz_da cD 84 mR)] H := hP
      have hD : va_D A [(o, .inr (4, [.int thr, .int (nI n), .int (nI kd), .int (nI lim), .int (nI sol), .int (nI ord), .double tm, .int cst, .int cfl, .int crf, .ref dp, .ref mp, .double FP.dconst0, .double (fz_slAt lim mR j), .double v2, .double v3, .double v4, .double v5, .double v6, .double v7])), (dp, fz_da cD 84 dR), (mp, fz_da cD 84 mR)] := hD
      refine lv_aload_n hx hb dX4_slopes_125 rfl (lv_at hl 0 rfl) ?_
      refine lv_dconst0 hx hb dX4_slopes_126 ?_
      refine va_put (D := D) (ci := 4) (v := .double FP.dconst0) (ty := .double) (C := RX4) (T := TX4) (N := 20) hx hb hts hin_X4 tyX4 tyX4_ok nmX4 hown hK hP hD hS 0 rfl rfl 13 (by decide) hw_fieldLink_RX4_84_FlowGridModel_slopeM_D (fun _ h9 => h9) rfl (by decide +kernel) rfl rfl (Nat.le_of_ble_eq_true rfl) dX4_slopes_127 (fun H locs hP hD hS => ?_)
      have hP : va_P D vwCl [(o, .inr (4, [.int thr, .int (nI n), .int (nI kd), .int (nI lim), .int (nI sol), .int (nI ord), .double tm, .int cst, .int cfl, .int crf, .ref dp, .ref mp, .double FP.dconst0, .double FP.dconst0, .double v2, .double v3, .double v4, .double v5, .double v6, .double v7])), (dp, fz_da cD 84 dR), (mp, fz_da cD 84 mR)] H := hP
      have hD : va_D A [(o, .inr (4, [.int thr, .int (nI n), .int (nI kd), .int (nI lim), .int (nI sol), .int (nI ord), .double tm, .int cst, .int cfl, .int crf, .ref dp, .ref mp, .double FP.dconst0, .double FP.dconst0, .double v2, .double v3, .double v4, .double v5, .double v6, .double v7])), (dp, fz_da cD 84 dR), (mp, fz_da cD 84 mR)] := hD
      have e1 : fz_sHg lim dR j = FP.dconst0 := by simp [fz_sHg, fz_dry, c94, c116]
      have e2 : fz_sMg lim dR mR j = FP.dconst0 := by simp [fz_sMg, fz_dry, c94, c116]
      exact fz_vret hx hb hr hlocks rfl (by rw [e1, e2]; exact hP) hK (by rw [e1, e2]; exact hD) hS dX4_slopes_130

set_option maxHeartbeats 4000000 in
set_option maxRecDepth 100000 in
theorem c_X4_close00 (l : Launch) (D : va_G) (cD : ClassId) (o dp mp n lim sol ord : Nat) (dR mR : Nat → UInt64) (thr : Int32) (tm v0 v1 v2 v3 v4 v5 v6 v7 : UInt64) (cst cfl crf : Int32) (hn4 : 4 ≤ n) (hn : n ≤ 24) : fz_C l D [(cD, .double)] yX4_close wsX4_close ({ frames := 0, cells := 0, slots := 0, locals := 0 }) [.ref o, .int (nI 0)] [(o, .inr (4, [.int thr, .int (nI n), .int (nI 0), .int (nI lim), .int (nI sol), .int (nI ord), .double tm, .int cst, .int cfl, .int crf, .ref dp, .ref mp, .double v0, .double v1, .double v2, .double v3, .double v4, .double v5, .double v6, .double v7])), (dp, fz_da cD 84 dR), (mp, fz_da cD 84 mR)] [(o, .inr (4, [.int thr, .int (nI n), .int (nI 0), .int (nI lim), .int (nI sol), .int (nI ord), .double tm, .int cst, .int cfl, .int crf, .ref dp, .ref mp, .double v0, .double v1, .double v2, .double v3, .double v4, .double v5, .double v6, .double v7])), (dp, fz_da cD 84 (fz_put 0 dR (fz_ends 0 false n (fz_row dR 0)))), (mp, fz_da cD 84 (fz_put 0 mR (fz_ends 0 true n (fz_row mR 0))))] (none) := by
  refine fz_start (cc := cX4_close) (maxL := 7) (ret := none) (by decide) rfl (Nat.le_of_ble_eq_true rfl) ?_
  intro p e s m below meth c A hx hb hr hlocks hml hown hts hK hA hNW H locs hP hD hS ls hl
  have hl : lv_has ls 7 [(0, .ref o), (1, .int (nI 0))] := hl
  have hown : s.vm.findClass RX4 = some m.cls := hown
  have hw_fieldLink_RX4_30_FlowGridModel_n_I := hts (.fieldLink RX4 30 "FlowGridModel" "n" "I") (by decide +kernel)
  have hin_X4 : ∀ w ∈ u_ws RX4 TX4 20, w ∈ wsX4_close := by decide +kernel
  have hw_fieldLink_RX4_45_FlowGridModel_ends_I := hts (.fieldLink RX4 45 "FlowGridModel" "ends" "I") (by decide +kernel)
  have hw_fieldLink_RX4_7_FlowGridModel_depth_D := hts (.fieldLink RX4 7 "FlowGridModel" "depth" "[D") (by decide +kernel)
  have hw_fieldLink_RX4_13_FlowGridModel_momentum_D := hts (.fieldLink RX4 13 "FlowGridModel" "momentum" "[D") (by decide +kernel)
  refine lv_bipush (v := nI 28) hx hb dX4_close_0 (by decide) ?_
  refine lv_iload_n hx hb dX4_close_2 rfl (lv_at hl 1 rfl) ?_
  refine fz_imulN hx hb dX4_close_3 ?_
  refine fz_topn (b := 0) (by omega) ?_
  refine lv_iconst (v := nI 2) hx hb dX4_close_4 (by decide) ?_
  refine fz_iaddN hx hb dX4_close_5 ?_
  refine fz_topn (b := 2) (by omega) ?_
  refine lv_istore_n (lv' := [(2, .int (nI 2)), (0, .ref o), (1, .int (nI 0))]) hx hb dX4_close_6 rfl hl (by decide) rfl (fun ls hl => ?_)
  refine lv_iload_n hx hb dX4_close_7 rfl (lv_at hl 0 rfl) ?_
  refine lv_aload_n hx hb dX4_close_8 rfl (lv_at hl 1 rfl) ?_
  refine va_get (D := D) (ci := 4) (v := .int (nI n)) (C := RX4) (T := TX4) (N := 20) hx hb hts hin_X4 hown hK hP 0 rfl rfl 1 (by decide) hw_fieldLink_RX4_30_FlowGridModel_n_I (fun _ h9 => h9) rfl dX4_close_9 ?_
  refine fz_iaddN hx hb dX4_close_12 ?_
  refine fz_topn (b := n + 2) (by omega) ?_
  refine lv_iconst (v := nI 1) hx hb dX4_close_13 (by decide) ?_
  refine fz_isubN hx hb (by omega) dX4_close_14 ?_
  refine fz_topn (b := n + 1) (by omega) ?_
  refine lv_istore_n (lv' := [(3, .int (nI (n + 1))), (2, .int (nI 2)), (0, .ref o), (1, .int (nI 0))]) hx hb dX4_close_15 rfl hl (by decide) rfl (fun ls hl => ?_)
  refine lv_iconst (v := nI 0) hx hb dX4_close_16 (by decide) ?_
  refine lv_istore (lv' := [(4, .int (nI 0)), (3, .int (nI (n + 1))), (2, .int (nI 2)), (0, .ref o), (1, .int (nI 0))]) hx hb dX4_close_17 hl (by decide) rfl (fun ls hl => ?_)
  refine lv_iload hx hb dX4_close_19 (lv_at hl 0 rfl) ?_
  refine lv_iconst (v := nI 2) hx hb dX4_close_21 (by decide) ?_
  refine fz_icmp_geN (tgt := 205) hx hb (by omega) (by omega) dX4_close_22 (by decide) (fun c22 => absurd c22 (by decide)) (fun c22 => ?_)
  refine lv_aload_n hx hb dX4_close_25 rfl (lv_at hl 3 rfl) ?_
  refine va_get (D := D) (ci := 4) (v := .int (nI 0)) (C := RX4) (T := TX4) (N := 20) hx hb hts hin_X4 hown hK hP 0 rfl rfl 2 (by decide) hw_fieldLink_RX4_45_FlowGridModel_ends_I (fun _ h9 => h9) rfl dX4_close_26 ?_
  refine lv_if_ne (tgt := 39) hx hb dX4_close_29 (by decide) (fun c29 => absurd c29 (by decide)) (fun c29 => ?_)
  refine lv_iload_n hx hb dX4_close_32 rfl (lv_at hl 1 rfl) ?_
  refine lv_iload hx hb dX4_close_33 (lv_at hl 0 rfl) ?_
  refine fz_isubN hx hb (by omega) dX4_close_35 ?_
  refine fz_topn (b := n + 1) (by omega) ?_
  refine lv_goto (tgt := 55) hx hb dX4_close_36 (by decide) ?_
  refine lv_istore (lv' := [(5, .int (nI (n + 1))), (4, .int (nI 0)), (3, .int (nI (n + 1))), (2, .int (nI 2)), (0, .ref o), (1, .int (nI 0))]) hx hb dX4_close_55 hl (by decide) rfl (fun ls hl => ?_)
  refine lv_aload_n hx hb dX4_close_57 rfl (lv_at hl 4 rfl) ?_
  refine va_get (D := D) (ci := 4) (v := .int (nI 0)) (C := RX4) (T := TX4) (N := 20) hx hb hts hin_X4 hown hK hP 0 rfl rfl 2 (by decide) hw_fieldLink_RX4_45_FlowGridModel_ends_I (fun _ h9 => h9) rfl dX4_close_58 ?_
  refine lv_if_ne (tgt := 71) hx hb dX4_close_61 (by decide) (fun c61 => absurd c61 (by decide)) (fun c61 => ?_)
  refine lv_iload_n hx hb dX4_close_64 rfl (lv_at hl 3 rfl) ?_
  refine lv_iload hx hb dX4_close_65 (lv_at hl 1 rfl) ?_
  refine fz_iaddN hx hb dX4_close_67 ?_
  refine fz_topn (b := 2) (by omega) ?_
  refine lv_goto (tgt := 87) hx hb dX4_close_68 (by decide) ?_
  refine lv_istore (lv' := [(6, .int (nI 2)), (5, .int (nI (n + 1))), (4, .int (nI 0)), (3, .int (nI (n + 1))), (2, .int (nI 2)), (0, .ref o), (1, .int (nI 0))]) hx hb dX4_close_87 hl (by decide) rfl (fun ls hl => ?_)
  refine lv_aload_n hx hb dX4_close_89 rfl (lv_at hl 5 rfl) ?_
  refine va_get (D := D) (ci := 4) (v := .ref dp) (C := RX4) (T := TX4) (N := 20) hx hb hts hin_X4 hown hK hP 0 rfl rfl 10 (by decide) hw_fieldLink_RX4_7_FlowGridModel_depth_D (fun _ h9 => h9) rfl dX4_close_90 ?_
  refine lv_iload_n hx hb dX4_close_93 rfl (lv_at hl 4 rfl) ?_
  refine lv_iconst (v := nI 1) hx hb dX4_close_94 (by decide) ?_
  refine fz_isubN hx hb (by omega) dX4_close_95 ?_
  refine fz_topn (b := 1) (by omega) ?_
  refine lv_iload hx hb dX4_close_96 (lv_at hl 2 rfl) ?_
  refine fz_isubN hx hb (by omega) dX4_close_98 ?_
  refine fz_topn (b := 1) (by omega) ?_
  refine lv_aload_n hx hb dX4_close_99 rfl (lv_at hl 5 rfl) ?_
  refine va_get (D := D) (ci := 4) (v := .ref dp) (C := RX4) (T := TX4) (N := 20) hx hb hts hin_X4 hown hK hP 0 rfl rfl 10 (by decide) hw_fieldLink_RX4_7_FlowGridModel_depth_D (fun _ h9 => h9) rfl dX4_close_100 ?_
  refine lv_iload hx hb dX4_close_103 (lv_at hl 1 rfl) ?_
  refine fz_dald (i := n + 1) hx hb hK hP 1 0 rfl rfl (by omega) (by decide) dX4_close_105 ?_
  refine fz_dast (i := 1) hx hb hK hP hD hS 1 0 rfl rfl (by omega) (by decide) dX4_close_106 (fun H locs hP hD hS => ?_)
  have hP : va_P D vwCl [(o, .inr (4, [.int thr, .int (nI n), .int (nI 0), .int (nI lim), .int (nI sol), .int (nI ord), .double tm, .int cst, .int cfl, .int crf, .ref dp, .ref mp, .double v0, .double v1, .double v2, .double v3, .double v4, .double v5, .double v6, .double v7])), (dp, fz_da cD 84 (vf_upd dR 1 (dR (n + 1)))), (mp, fz_da cD 84 mR)] H := hP
  have hD : va_D A [(o, .inr (4, [.int thr, .int (nI n), .int (nI 0), .int (nI lim), .int (nI sol), .int (nI ord), .double tm, .int cst, .int cfl, .int crf, .ref dp, .ref mp, .double v0, .double v1, .double v2, .double v3, .double v4, .double v5, .double v6, .double v7])), (dp, fz_da cD 84 (vf_upd dR 1 (dR (n + 1)))), (mp, fz_da cD 84 mR)] := hD
  refine lv_aload_n hx hb dX4_close_107 rfl (lv_at hl 5 rfl) ?_
  refine va_get (D := D) (ci := 4) (v := .ref dp) (C := RX4) (T := TX4) (N := 20) hx hb hts hin_X4 hown hK hP 0 rfl rfl 10 (by decide) hw_fieldLink_RX4_7_FlowGridModel_depth_D (fun _ h9 => h9) rfl dX4_close_108 ?_
  refine lv_iload_n hx hb dX4_close_111 rfl (lv_at hl 3 rfl) ?_
  refine lv_iconst (v := nI 1) hx hb dX4_close_112 (by decide) ?_
  refine fz_iaddN hx hb dX4_close_113 ?_
  refine fz_topn (b := n + 2) (by omega) ?_
  refine lv_iload hx hb dX4_close_114 (lv_at hl 2 rfl) ?_
  refine fz_iaddN hx hb dX4_close_116 ?_
  refine fz_topn (b := n + 2) (by omega) ?_
  refine lv_aload_n hx hb dX4_close_117 rfl (lv_at hl 5 rfl) ?_
  refine va_get (D := D) (ci := 4) (v := .ref dp) (C := RX4) (T := TX4) (N := 20) hx hb hts hin_X4 hown hK hP 0 rfl rfl 10 (by decide) hw_fieldLink_RX4_7_FlowGridModel_depth_D (fun _ h9 => h9) rfl dX4_close_118 ?_
  refine lv_iload hx hb dX4_close_121 (lv_at hl 0 rfl) ?_
  refine fz_dald (i := 2) hx hb hK hP 1 0 rfl rfl (by omega) (by decide) dX4_close_123 ?_
  rw [fz_upn (by omega)]
  refine fz_dast (i := n + 2) hx hb hK hP hD hS 1 0 rfl rfl (by omega) (by decide) dX4_close_124 (fun H locs hP hD hS => ?_)
  have hP : va_P D vwCl [(o, .inr (4, [.int thr, .int (nI n), .int (nI 0), .int (nI lim), .int (nI sol), .int (nI ord), .double tm, .int cst, .int cfl, .int crf, .ref dp, .ref mp, .double v0, .double v1, .double v2, .double v3, .double v4, .double v5, .double v6, .double v7])), (dp, fz_da cD 84 (vf_upd (vf_upd dR 1 (dR (n + 1))) (n + 2) (dR 2))), (mp, fz_da cD 84 mR)] H := hP
  have hD : va_D A [(o, .inr (4, [.int thr, .int (nI n), .int (nI 0), .int (nI lim), .int (nI sol), .int (nI ord), .double tm, .int cst, .int cfl, .int crf, .ref dp, .ref mp, .double v0, .double v1, .double v2, .double v3, .double v4, .double v5, .double v6, .double v7])), (dp, fz_da cD 84 (vf_upd (vf_upd dR 1 (dR (n + 1))) (n + 2) (dR 2))), (mp, fz_da cD 84 mR)] := hD
  refine lv_aload_n hx hb dX4_close_125 rfl (lv_at hl 5 rfl) ?_
  refine va_get (D := D) (ci := 4) (v := .ref mp) (C := RX4) (T := TX4) (N := 20) hx hb hts hin_X4 hown hK hP 0 rfl rfl 11 (by decide) hw_fieldLink_RX4_13_FlowGridModel_momentum_D (fun _ h9 => h9) rfl dX4_close_126 ?_
  refine lv_iload_n hx hb dX4_close_129 rfl (lv_at hl 4 rfl) ?_
  refine lv_iconst (v := nI 1) hx hb dX4_close_130 (by decide) ?_
  refine fz_isubN hx hb (by omega) dX4_close_131 ?_
  refine fz_topn (b := 1) (by omega) ?_
  refine lv_iload hx hb dX4_close_132 (lv_at hl 2 rfl) ?_
  refine fz_isubN hx hb (by omega) dX4_close_134 ?_
  refine fz_topn (b := 1) (by omega) ?_
  refine lv_aload_n hx hb dX4_close_135 rfl (lv_at hl 5 rfl) ?_
  refine va_get (D := D) (ci := 4) (v := .int (nI 0)) (C := RX4) (T := TX4) (N := 20) hx hb hts hin_X4 hown hK hP 0 rfl rfl 2 (by decide) hw_fieldLink_RX4_45_FlowGridModel_ends_I (fun _ h9 => h9) rfl dX4_close_136 ?_
  refine lv_iconst (v := nI 1) hx hb dX4_close_139 (by decide) ?_
  refine fz_icmp_neN (tgt := 154) hx hb (by omega) (by omega) dX4_close_140 (by decide) (fun c140 => ?_) (fun c140 => absurd c140 (by decide))
  refine lv_aload_n hx hb dX4_close_154 rfl (lv_at hl 5 rfl) ?_
  refine va_get (D := D) (ci := 4) (v := .ref mp) (C := RX4) (T := TX4) (N := 20) hx hb hts hin_X4 hown hK hP 0 rfl rfl 11 (by decide) hw_fieldLink_RX4_13_FlowGridModel_momentum_D (fun _ h9 => h9) rfl dX4_close_155 ?_
  refine lv_iload hx hb dX4_close_158 (lv_at hl 1 rfl) ?_
  refine fz_dald (i := n + 1) hx hb hK hP 2 0 rfl rfl (by omega) (by decide) dX4_close_160 ?_
  refine fz_dast (i := 1) hx hb hK hP hD hS 2 0 rfl rfl (by omega) (by decide) dX4_close_161 (fun H locs hP hD hS => ?_)
  have hP : va_P D vwCl [(o, .inr (4, [.int thr, .int (nI n), .int (nI 0), .int (nI lim), .int (nI sol), .int (nI ord), .double tm, .int cst, .int cfl, .int crf, .ref dp, .ref mp, .double v0, .double v1, .double v2, .double v3, .double v4, .double v5, .double v6, .double v7])), (dp, fz_da cD 84 (vf_upd (vf_upd dR 1 (dR (n + 1))) (n + 2) (dR 2))), (mp, fz_da cD 84 (vf_upd mR 1 (mR (n + 1))))] H := hP
  have hD : va_D A [(o, .inr (4, [.int thr, .int (nI n), .int (nI 0), .int (nI lim), .int (nI sol), .int (nI ord), .double tm, .int cst, .int cfl, .int crf, .ref dp, .ref mp, .double v0, .double v1, .double v2, .double v3, .double v4, .double v5, .double v6, .double v7])), (dp, fz_da cD 84 (vf_upd (vf_upd dR 1 (dR (n + 1))) (n + 2) (dR 2))), (mp, fz_da cD 84 (vf_upd mR 1 (mR (n + 1))))] := hD
  refine lv_aload_n hx hb dX4_close_162 rfl (lv_at hl 5 rfl) ?_
  refine va_get (D := D) (ci := 4) (v := .ref mp) (C := RX4) (T := TX4) (N := 20) hx hb hts hin_X4 hown hK hP 0 rfl rfl 11 (by decide) hw_fieldLink_RX4_13_FlowGridModel_momentum_D (fun _ h9 => h9) rfl dX4_close_163 ?_
  refine lv_iload_n hx hb dX4_close_166 rfl (lv_at hl 3 rfl) ?_
  refine lv_iconst (v := nI 1) hx hb dX4_close_167 (by decide) ?_
  refine fz_iaddN hx hb dX4_close_168 ?_
  refine fz_topn (b := n + 2) (by omega) ?_
  refine lv_iload hx hb dX4_close_169 (lv_at hl 2 rfl) ?_
  refine fz_iaddN hx hb dX4_close_171 ?_
  refine fz_topn (b := n + 2) (by omega) ?_
  refine lv_aload_n hx hb dX4_close_172 rfl (lv_at hl 5 rfl) ?_
  refine va_get (D := D) (ci := 4) (v := .int (nI 0)) (C := RX4) (T := TX4) (N := 20) hx hb hts hin_X4 hown hK hP 0 rfl rfl 2 (by decide) hw_fieldLink_RX4_45_FlowGridModel_ends_I (fun _ h9 => h9) rfl dX4_close_173 ?_
  refine lv_iconst (v := nI 1) hx hb dX4_close_176 (by decide) ?_
  refine fz_icmp_neN (tgt := 191) hx hb (by omega) (by omega) dX4_close_177 (by decide) (fun c177 => ?_) (fun c177 => absurd c177 (by decide))
  refine lv_aload_n hx hb dX4_close_191 rfl (lv_at hl 5 rfl) ?_
  refine va_get (D := D) (ci := 4) (v := .ref mp) (C := RX4) (T := TX4) (N := 20) hx hb hts hin_X4 hown hK hP 0 rfl rfl 11 (by decide) hw_fieldLink_RX4_13_FlowGridModel_momentum_D (fun _ h9 => h9) rfl dX4_close_192 ?_
  refine lv_iload hx hb dX4_close_195 (lv_at hl 0 rfl) ?_
  refine fz_dald (i := 2) hx hb hK hP 2 0 rfl rfl (by omega) (by decide) dX4_close_197 ?_
  rw [fz_upn (by omega)]
  refine fz_dast (i := n + 2) hx hb hK hP hD hS 2 0 rfl rfl (by omega) (by decide) dX4_close_198 (fun H locs hP hD hS => ?_)
  have hP : va_P D vwCl [(o, .inr (4, [.int thr, .int (nI n), .int (nI 0), .int (nI lim), .int (nI sol), .int (nI ord), .double tm, .int cst, .int cfl, .int crf, .ref dp, .ref mp, .double v0, .double v1, .double v2, .double v3, .double v4, .double v5, .double v6, .double v7])), (dp, fz_da cD 84 (vf_upd (vf_upd dR 1 (dR (n + 1))) (n + 2) (dR 2))), (mp, fz_da cD 84 (vf_upd (vf_upd mR 1 (mR (n + 1))) (n + 2) (mR 2)))] H := hP
  have hD : va_D A [(o, .inr (4, [.int thr, .int (nI n), .int (nI 0), .int (nI lim), .int (nI sol), .int (nI ord), .double tm, .int cst, .int cfl, .int crf, .ref dp, .ref mp, .double v0, .double v1, .double v2, .double v3, .double v4, .double v5, .double v6, .double v7])), (dp, fz_da cD 84 (vf_upd (vf_upd dR 1 (dR (n + 1))) (n + 2) (dR 2))), (mp, fz_da cD 84 (vf_upd (vf_upd mR 1 (mR (n + 1))) (n + 2) (mR 2)))] := hD
  refine lv_iinc (v := nI (1)) (lv' := [(4, .int (nI 1)), (6, .int (nI 2)), (5, .int (nI (n + 1))), (3, .int (nI (n + 1))), (2, .int (nI 2)), (0, .ref o), (1, .int (nI 0))]) hx hb dX4_close_199 hl (k := 2) rfl (nI_1 _) (by decide) rfl (fun ls hl => ?_)
  refine lv_goto (tgt := 19) hx hb dX4_close_202 (by decide) ?_
  refine lv_iload hx hb dX4_close_19 (lv_at hl 0 rfl) ?_
  refine lv_iconst (v := nI 2) hx hb dX4_close_21 (by decide) ?_
  refine fz_icmp_geN (tgt := 205) hx hb (by omega) (by omega) dX4_close_22 (by decide) (fun c22 => absurd c22 (by decide)) (fun c22 => ?_)
  refine lv_aload_n hx hb dX4_close_25 rfl (lv_at hl 5 rfl) ?_
  refine va_get (D := D) (ci := 4) (v := .int (nI 0)) (C := RX4) (T := TX4) (N := 20) hx hb hts hin_X4 hown hK hP 0 rfl rfl 2 (by decide) hw_fieldLink_RX4_45_FlowGridModel_ends_I (fun _ h9 => h9) rfl dX4_close_26 ?_
  refine lv_if_ne (tgt := 39) hx hb dX4_close_29 (by decide) (fun c29 => absurd c29 (by decide)) (fun c29 => ?_)
  refine lv_iload_n hx hb dX4_close_32 rfl (lv_at hl 3 rfl) ?_
  refine lv_iload hx hb dX4_close_33 (lv_at hl 0 rfl) ?_
  refine fz_isubN hx hb (by omega) dX4_close_35 ?_
  refine fz_topn (b := n) (by omega) ?_
  refine lv_goto (tgt := 55) hx hb dX4_close_36 (by decide) ?_
  refine lv_istore (lv' := [(5, .int (nI n)), (4, .int (nI 1)), (6, .int (nI 2)), (3, .int (nI (n + 1))), (2, .int (nI 2)), (0, .ref o), (1, .int (nI 0))]) hx hb dX4_close_55 hl (by decide) rfl (fun ls hl => ?_)
  refine lv_aload_n hx hb dX4_close_57 rfl (lv_at hl 5 rfl) ?_
  refine va_get (D := D) (ci := 4) (v := .int (nI 0)) (C := RX4) (T := TX4) (N := 20) hx hb hts hin_X4 hown hK hP 0 rfl rfl 2 (by decide) hw_fieldLink_RX4_45_FlowGridModel_ends_I (fun _ h9 => h9) rfl dX4_close_58 ?_
  refine lv_if_ne (tgt := 71) hx hb dX4_close_61 (by decide) (fun c61 => absurd c61 (by decide)) (fun c61 => ?_)
  refine lv_iload_n hx hb dX4_close_64 rfl (lv_at hl 4 rfl) ?_
  refine lv_iload hx hb dX4_close_65 (lv_at hl 1 rfl) ?_
  refine fz_iaddN hx hb dX4_close_67 ?_
  refine fz_topn (b := 3) (by omega) ?_
  refine lv_goto (tgt := 87) hx hb dX4_close_68 (by decide) ?_
  refine lv_istore (lv' := [(6, .int (nI 3)), (5, .int (nI n)), (4, .int (nI 1)), (3, .int (nI (n + 1))), (2, .int (nI 2)), (0, .ref o), (1, .int (nI 0))]) hx hb dX4_close_87 hl (by decide) rfl (fun ls hl => ?_)
  refine lv_aload_n hx hb dX4_close_89 rfl (lv_at hl 5 rfl) ?_
  refine va_get (D := D) (ci := 4) (v := .ref dp) (C := RX4) (T := TX4) (N := 20) hx hb hts hin_X4 hown hK hP 0 rfl rfl 10 (by decide) hw_fieldLink_RX4_7_FlowGridModel_depth_D (fun _ h9 => h9) rfl dX4_close_90 ?_
  refine lv_iload_n hx hb dX4_close_93 rfl (lv_at hl 4 rfl) ?_
  refine lv_iconst (v := nI 1) hx hb dX4_close_94 (by decide) ?_
  refine fz_isubN hx hb (by omega) dX4_close_95 ?_
  refine fz_topn (b := 1) (by omega) ?_
  refine lv_iload hx hb dX4_close_96 (lv_at hl 2 rfl) ?_
  refine fz_isubN hx hb (by omega) dX4_close_98 ?_
  refine fz_topn (b := 0) (by omega) ?_
  refine lv_aload_n hx hb dX4_close_99 rfl (lv_at hl 5 rfl) ?_
  refine va_get (D := D) (ci := 4) (v := .ref dp) (C := RX4) (T := TX4) (N := 20) hx hb hts hin_X4 hown hK hP 0 rfl rfl 10 (by decide) hw_fieldLink_RX4_7_FlowGridModel_depth_D (fun _ h9 => h9) rfl dX4_close_100 ?_
  refine lv_iload hx hb dX4_close_103 (lv_at hl 1 rfl) ?_
  refine fz_dald (i := n) hx hb hK hP 1 0 rfl rfl (by omega) (by decide) dX4_close_105 ?_
  rw [fz_upn (by omega), fz_upn (by omega)]
  refine fz_dast (i := 0) hx hb hK hP hD hS 1 0 rfl rfl (by omega) (by decide) dX4_close_106 (fun H locs hP hD hS => ?_)
  have hP : va_P D vwCl [(o, .inr (4, [.int thr, .int (nI n), .int (nI 0), .int (nI lim), .int (nI sol), .int (nI ord), .double tm, .int cst, .int cfl, .int crf, .ref dp, .ref mp, .double v0, .double v1, .double v2, .double v3, .double v4, .double v5, .double v6, .double v7])), (dp, fz_da cD 84 (vf_upd (vf_upd (vf_upd dR 1 (dR (n + 1))) (n + 2) (dR 2)) 0 (dR n))), (mp, fz_da cD 84 (vf_upd (vf_upd mR 1 (mR (n + 1))) (n + 2) (mR 2)))] H := hP
  have hD : va_D A [(o, .inr (4, [.int thr, .int (nI n), .int (nI 0), .int (nI lim), .int (nI sol), .int (nI ord), .double tm, .int cst, .int cfl, .int crf, .ref dp, .ref mp, .double v0, .double v1, .double v2, .double v3, .double v4, .double v5, .double v6, .double v7])), (dp, fz_da cD 84 (vf_upd (vf_upd (vf_upd dR 1 (dR (n + 1))) (n + 2) (dR 2)) 0 (dR n))), (mp, fz_da cD 84 (vf_upd (vf_upd mR 1 (mR (n + 1))) (n + 2) (mR 2)))] := hD
  refine lv_aload_n hx hb dX4_close_107 rfl (lv_at hl 5 rfl) ?_
  refine va_get (D := D) (ci := 4) (v := .ref dp) (C := RX4) (T := TX4) (N := 20) hx hb hts hin_X4 hown hK hP 0 rfl rfl 10 (by decide) hw_fieldLink_RX4_7_FlowGridModel_depth_D (fun _ h9 => h9) rfl dX4_close_108 ?_
  refine lv_iload_n hx hb dX4_close_111 rfl (lv_at hl 3 rfl) ?_
  refine lv_iconst (v := nI 1) hx hb dX4_close_112 (by decide) ?_
  refine fz_iaddN hx hb dX4_close_113 ?_
  refine fz_topn (b := n + 2) (by omega) ?_
  refine lv_iload hx hb dX4_close_114 (lv_at hl 2 rfl) ?_
  refine fz_iaddN hx hb dX4_close_116 ?_
  refine fz_topn (b := n + 3) (by omega) ?_
  refine lv_aload_n hx hb dX4_close_117 rfl (lv_at hl 5 rfl) ?_
  refine va_get (D := D) (ci := 4) (v := .ref dp) (C := RX4) (T := TX4) (N := 20) hx hb hts hin_X4 hown hK hP 0 rfl rfl 10 (by decide) hw_fieldLink_RX4_7_FlowGridModel_depth_D (fun _ h9 => h9) rfl dX4_close_118 ?_
  refine lv_iload hx hb dX4_close_121 (lv_at hl 0 rfl) ?_
  refine fz_dald (i := 3) hx hb hK hP 1 0 rfl rfl (by omega) (by decide) dX4_close_123 ?_
  rw [fz_upn (by omega), fz_upn (by omega), fz_upn (by omega)]
  refine fz_dast (i := n + 3) hx hb hK hP hD hS 1 0 rfl rfl (by omega) (by decide) dX4_close_124 (fun H locs hP hD hS => ?_)
  have hP : va_P D vwCl [(o, .inr (4, [.int thr, .int (nI n), .int (nI 0), .int (nI lim), .int (nI sol), .int (nI ord), .double tm, .int cst, .int cfl, .int crf, .ref dp, .ref mp, .double v0, .double v1, .double v2, .double v3, .double v4, .double v5, .double v6, .double v7])), (dp, fz_da cD 84 (vf_upd (vf_upd (vf_upd (vf_upd dR 1 (dR (n + 1))) (n + 2) (dR 2)) 0 (dR n)) (n + 3) (dR 3))), (mp, fz_da cD 84 (vf_upd (vf_upd mR 1 (mR (n + 1))) (n + 2) (mR 2)))] H := hP
  have hD : va_D A [(o, .inr (4, [.int thr, .int (nI n), .int (nI 0), .int (nI lim), .int (nI sol), .int (nI ord), .double tm, .int cst, .int cfl, .int crf, .ref dp, .ref mp, .double v0, .double v1, .double v2, .double v3, .double v4, .double v5, .double v6, .double v7])), (dp, fz_da cD 84 (vf_upd (vf_upd (vf_upd (vf_upd dR 1 (dR (n + 1))) (n + 2) (dR 2)) 0 (dR n)) (n + 3) (dR 3))), (mp, fz_da cD 84 (vf_upd (vf_upd mR 1 (mR (n + 1))) (n + 2) (mR 2)))] := hD
  refine lv_aload_n hx hb dX4_close_125 rfl (lv_at hl 5 rfl) ?_
  refine va_get (D := D) (ci := 4) (v := .ref mp) (C := RX4) (T := TX4) (N := 20) hx hb hts hin_X4 hown hK hP 0 rfl rfl 11 (by decide) hw_fieldLink_RX4_13_FlowGridModel_momentum_D (fun _ h9 => h9) rfl dX4_close_126 ?_
  refine lv_iload_n hx hb dX4_close_129 rfl (lv_at hl 4 rfl) ?_
  refine lv_iconst (v := nI 1) hx hb dX4_close_130 (by decide) ?_
  refine fz_isubN hx hb (by omega) dX4_close_131 ?_
  refine fz_topn (b := 1) (by omega) ?_
  refine lv_iload hx hb dX4_close_132 (lv_at hl 2 rfl) ?_
  refine fz_isubN hx hb (by omega) dX4_close_134 ?_
  refine fz_topn (b := 0) (by omega) ?_
  refine lv_aload_n hx hb dX4_close_135 rfl (lv_at hl 5 rfl) ?_
  refine va_get (D := D) (ci := 4) (v := .int (nI 0)) (C := RX4) (T := TX4) (N := 20) hx hb hts hin_X4 hown hK hP 0 rfl rfl 2 (by decide) hw_fieldLink_RX4_45_FlowGridModel_ends_I (fun _ h9 => h9) rfl dX4_close_136 ?_
  refine lv_iconst (v := nI 1) hx hb dX4_close_139 (by decide) ?_
  refine fz_icmp_neN (tgt := 154) hx hb (by omega) (by omega) dX4_close_140 (by decide) (fun c140 => ?_) (fun c140 => absurd c140 (by decide))
  refine lv_aload_n hx hb dX4_close_154 rfl (lv_at hl 5 rfl) ?_
  refine va_get (D := D) (ci := 4) (v := .ref mp) (C := RX4) (T := TX4) (N := 20) hx hb hts hin_X4 hown hK hP 0 rfl rfl 11 (by decide) hw_fieldLink_RX4_13_FlowGridModel_momentum_D (fun _ h9 => h9) rfl dX4_close_155 ?_
  refine lv_iload hx hb dX4_close_158 (lv_at hl 1 rfl) ?_
  refine fz_dald (i := n) hx hb hK hP 2 0 rfl rfl (by omega) (by decide) dX4_close_160 ?_
  rw [fz_upn (by omega), fz_upn (by omega)]
  refine fz_dast (i := 0) hx hb hK hP hD hS 2 0 rfl rfl (by omega) (by decide) dX4_close_161 (fun H locs hP hD hS => ?_)
  have hP : va_P D vwCl [(o, .inr (4, [.int thr, .int (nI n), .int (nI 0), .int (nI lim), .int (nI sol), .int (nI ord), .double tm, .int cst, .int cfl, .int crf, .ref dp, .ref mp, .double v0, .double v1, .double v2, .double v3, .double v4, .double v5, .double v6, .double v7])), (dp, fz_da cD 84 (vf_upd (vf_upd (vf_upd (vf_upd dR 1 (dR (n + 1))) (n + 2) (dR 2)) 0 (dR n)) (n + 3) (dR 3))), (mp, fz_da cD 84 (vf_upd (vf_upd (vf_upd mR 1 (mR (n + 1))) (n + 2) (mR 2)) 0 (mR n)))] H := hP
  have hD : va_D A [(o, .inr (4, [.int thr, .int (nI n), .int (nI 0), .int (nI lim), .int (nI sol), .int (nI ord), .double tm, .int cst, .int cfl, .int crf, .ref dp, .ref mp, .double v0, .double v1, .double v2, .double v3, .double v4, .double v5, .double v6, .double v7])), (dp, fz_da cD 84 (vf_upd (vf_upd (vf_upd (vf_upd dR 1 (dR (n + 1))) (n + 2) (dR 2)) 0 (dR n)) (n + 3) (dR 3))), (mp, fz_da cD 84 (vf_upd (vf_upd (vf_upd mR 1 (mR (n + 1))) (n + 2) (mR 2)) 0 (mR n)))] := hD
  refine lv_aload_n hx hb dX4_close_162 rfl (lv_at hl 5 rfl) ?_
  refine va_get (D := D) (ci := 4) (v := .ref mp) (C := RX4) (T := TX4) (N := 20) hx hb hts hin_X4 hown hK hP 0 rfl rfl 11 (by decide) hw_fieldLink_RX4_13_FlowGridModel_momentum_D (fun _ h9 => h9) rfl dX4_close_163 ?_
  refine lv_iload_n hx hb dX4_close_166 rfl (lv_at hl 3 rfl) ?_
  refine lv_iconst (v := nI 1) hx hb dX4_close_167 (by decide) ?_
  refine fz_iaddN hx hb dX4_close_168 ?_
  refine fz_topn (b := n + 2) (by omega) ?_
  refine lv_iload hx hb dX4_close_169 (lv_at hl 2 rfl) ?_
  refine fz_iaddN hx hb dX4_close_171 ?_
  refine fz_topn (b := n + 3) (by omega) ?_
  refine lv_aload_n hx hb dX4_close_172 rfl (lv_at hl 5 rfl) ?_
  refine va_get (D := D) (ci := 4) (v := .int (nI 0)) (C := RX4) (T := TX4) (N := 20) hx hb hts hin_X4 hown hK hP 0 rfl rfl 2 (by decide) hw_fieldLink_RX4_45_FlowGridModel_ends_I (fun _ h9 => h9) rfl dX4_close_173 ?_
  refine lv_iconst (v := nI 1) hx hb dX4_close_176 (by decide) ?_
  refine fz_icmp_neN (tgt := 191) hx hb (by omega) (by omega) dX4_close_177 (by decide) (fun c177 => ?_) (fun c177 => absurd c177 (by decide))
  refine lv_aload_n hx hb dX4_close_191 rfl (lv_at hl 5 rfl) ?_
  refine va_get (D := D) (ci := 4) (v := .ref mp) (C := RX4) (T := TX4) (N := 20) hx hb hts hin_X4 hown hK hP 0 rfl rfl 11 (by decide) hw_fieldLink_RX4_13_FlowGridModel_momentum_D (fun _ h9 => h9) rfl dX4_close_192 ?_
  refine lv_iload hx hb dX4_close_195 (lv_at hl 0 rfl) ?_
  refine fz_dald (i := 3) hx hb hK hP 2 0 rfl rfl (by omega) (by decide) dX4_close_197 ?_
  rw [fz_upn (by omega), fz_upn (by omega), fz_upn (by omega)]
  refine fz_dast (i := n + 3) hx hb hK hP hD hS 2 0 rfl rfl (by omega) (by decide) dX4_close_198 (fun H locs hP hD hS => ?_)
  have hP : va_P D vwCl [(o, .inr (4, [.int thr, .int (nI n), .int (nI 0), .int (nI lim), .int (nI sol), .int (nI ord), .double tm, .int cst, .int cfl, .int crf, .ref dp, .ref mp, .double v0, .double v1, .double v2, .double v3, .double v4, .double v5, .double v6, .double v7])), (dp, fz_da cD 84 (vf_upd (vf_upd (vf_upd (vf_upd dR 1 (dR (n + 1))) (n + 2) (dR 2)) 0 (dR n)) (n + 3) (dR 3))), (mp, fz_da cD 84 (vf_upd (vf_upd (vf_upd (vf_upd mR 1 (mR (n + 1))) (n + 2) (mR 2)) 0 (mR n)) (n + 3) (mR 3)))] H := hP
  have hD : va_D A [(o, .inr (4, [.int thr, .int (nI n), .int (nI 0), .int (nI lim), .int (nI sol), .int (nI ord), .double tm, .int cst, .int cfl, .int crf, .ref dp, .ref mp, .double v0, .double v1, .double v2, .double v3, .double v4, .double v5, .double v6, .double v7])), (dp, fz_da cD 84 (vf_upd (vf_upd (vf_upd (vf_upd dR 1 (dR (n + 1))) (n + 2) (dR 2)) 0 (dR n)) (n + 3) (dR 3))), (mp, fz_da cD 84 (vf_upd (vf_upd (vf_upd (vf_upd mR 1 (mR (n + 1))) (n + 2) (mR 2)) 0 (mR n)) (n + 3) (mR 3)))] := hD
  refine lv_iinc (v := nI (2)) (lv' := [(4, .int (nI 2)), (6, .int (nI 3)), (5, .int (nI n)), (3, .int (nI (n + 1))), (2, .int (nI 2)), (0, .ref o), (1, .int (nI 0))]) hx hb dX4_close_199 hl (k := 2) rfl (nI_1 _) (by decide) rfl (fun ls hl => ?_)
  refine lv_goto (tgt := 19) hx hb dX4_close_202 (by decide) ?_
  refine lv_iload hx hb dX4_close_19 (lv_at hl 0 rfl) ?_
  refine lv_iconst (v := nI 2) hx hb dX4_close_21 (by decide) ?_
  refine fz_icmp_geN (tgt := 205) hx hb (by omega) (by omega) dX4_close_22 (by decide) (fun c22 => ?_) (fun c22 => absurd c22 (by decide))
  obtain ⟨hP, hD⟩ := fz_swapf (a := dp) (cD := cD) (n := 84) (g := fz_put 0 dR (fz_ends 0 false n (fz_row dR 0))) 1 rfl (fun i _ => fz_clq 0 n hn4 hn dR (fz_ends 0 false n (fz_row dR 0)) _ _ _ _ (by simp [fz_ends, fz_row]) (by simp [fz_ends, fz_row]) (by simp [fz_ends, fz_row]) (by simp [fz_ends, fz_row]) (fun q h1 h0 h2 h3 => by simp [fz_ends, fz_row, h1, h0, h2, h3]) i) hP hD
  have hP : va_P D vwCl [(o, .inr (4, [.int thr, .int (nI n), .int (nI 0), .int (nI lim), .int (nI sol), .int (nI ord), .double tm, .int cst, .int cfl, .int crf, .ref dp, .ref mp, .double v0, .double v1, .double v2, .double v3, .double v4, .double v5, .double v6, .double v7])), (dp, fz_da cD 84 (fz_put 0 dR (fz_ends 0 false n (fz_row dR 0)))), (mp, fz_da cD 84 (vf_upd (vf_upd (vf_upd (vf_upd mR 1 (mR (n + 1))) (n + 2) (mR 2)) 0 (mR n)) (n + 3) (mR 3)))] H := hP
  have hD : va_D A [(o, .inr (4, [.int thr, .int (nI n), .int (nI 0), .int (nI lim), .int (nI sol), .int (nI ord), .double tm, .int cst, .int cfl, .int crf, .ref dp, .ref mp, .double v0, .double v1, .double v2, .double v3, .double v4, .double v5, .double v6, .double v7])), (dp, fz_da cD 84 (fz_put 0 dR (fz_ends 0 false n (fz_row dR 0)))), (mp, fz_da cD 84 (vf_upd (vf_upd (vf_upd (vf_upd mR 1 (mR (n + 1))) (n + 2) (mR 2)) 0 (mR n)) (n + 3) (mR 3)))] := hD
  obtain ⟨hP, hD⟩ := fz_swapf (a := mp) (cD := cD) (n := 84) (g := fz_put 0 mR (fz_ends 0 true n (fz_row mR 0))) 2 rfl (fun i _ => fz_clq 0 n hn4 hn mR (fz_ends 0 true n (fz_row mR 0)) _ _ _ _ (by simp [fz_ends, fz_row]) (by simp [fz_ends, fz_row]) (by simp [fz_ends, fz_row]) (by simp [fz_ends, fz_row]) (fun q h1 h0 h2 h3 => by simp [fz_ends, fz_row, h1, h0, h2, h3]) i) hP hD
  have hP : va_P D vwCl [(o, .inr (4, [.int thr, .int (nI n), .int (nI 0), .int (nI lim), .int (nI sol), .int (nI ord), .double tm, .int cst, .int cfl, .int crf, .ref dp, .ref mp, .double v0, .double v1, .double v2, .double v3, .double v4, .double v5, .double v6, .double v7])), (dp, fz_da cD 84 (fz_put 0 dR (fz_ends 0 false n (fz_row dR 0)))), (mp, fz_da cD 84 (fz_put 0 mR (fz_ends 0 true n (fz_row mR 0))))] H := hP
  have hD : va_D A [(o, .inr (4, [.int thr, .int (nI n), .int (nI 0), .int (nI lim), .int (nI sol), .int (nI ord), .double tm, .int cst, .int cfl, .int crf, .ref dp, .ref mp, .double v0, .double v1, .double v2, .double v3, .double v4, .double v5, .double v6, .double v7])), (dp, fz_da cD 84 (fz_put 0 dR (fz_ends 0 false n (fz_row dR 0)))), (mp, fz_da cD 84 (fz_put 0 mR (fz_ends 0 true n (fz_row mR 0))))] := hD
  exact fz_vret hx hb hr hlocks (rfl) hP hK hD hS dX4_close_205

set_option maxHeartbeats 4000000 in
set_option maxRecDepth 100000 in
theorem c_X4_close01 (l : Launch) (D : va_G) (cD : ClassId) (o dp mp n lim sol ord : Nat) (dR mR : Nat → UInt64) (thr : Int32) (tm v0 v1 v2 v3 v4 v5 v6 v7 : UInt64) (cst cfl crf : Int32) (hn4 : 4 ≤ n) (hn : n ≤ 24) : fz_C l D [(cD, .double)] yX4_close wsX4_close ({ frames := 0, cells := 0, slots := 0, locals := 0 }) [.ref o, .int (nI 0)] [(o, .inr (4, [.int thr, .int (nI n), .int (nI 1), .int (nI lim), .int (nI sol), .int (nI ord), .double tm, .int cst, .int cfl, .int crf, .ref dp, .ref mp, .double v0, .double v1, .double v2, .double v3, .double v4, .double v5, .double v6, .double v7])), (dp, fz_da cD 84 dR), (mp, fz_da cD 84 mR)] [(o, .inr (4, [.int thr, .int (nI n), .int (nI 1), .int (nI lim), .int (nI sol), .int (nI ord), .double tm, .int cst, .int cfl, .int crf, .ref dp, .ref mp, .double v0, .double v1, .double v2, .double v3, .double v4, .double v5, .double v6, .double v7])), (dp, fz_da cD 84 (fz_put 0 dR (fz_ends 1 false n (fz_row dR 0)))), (mp, fz_da cD 84 (fz_put 0 mR (fz_ends 1 true n (fz_row mR 0))))] (none) := by
  refine fz_start (cc := cX4_close) (maxL := 7) (ret := none) (by decide) rfl (Nat.le_of_ble_eq_true rfl) ?_
  intro p e s m below meth c A hx hb hr hlocks hml hown hts hK hA hNW H locs hP hD hS ls hl
  have hl : lv_has ls 7 [(0, .ref o), (1, .int (nI 0))] := hl
  have hown : s.vm.findClass RX4 = some m.cls := hown
  have hw_fieldLink_RX4_30_FlowGridModel_n_I := hts (.fieldLink RX4 30 "FlowGridModel" "n" "I") (by decide +kernel)
  have hin_X4 : ∀ w ∈ u_ws RX4 TX4 20, w ∈ wsX4_close := by decide +kernel
  have hw_fieldLink_RX4_45_FlowGridModel_ends_I := hts (.fieldLink RX4 45 "FlowGridModel" "ends" "I") (by decide +kernel)
  have hw_fieldLink_RX4_7_FlowGridModel_depth_D := hts (.fieldLink RX4 7 "FlowGridModel" "depth" "[D") (by decide +kernel)
  have hw_fieldLink_RX4_13_FlowGridModel_momentum_D := hts (.fieldLink RX4 13 "FlowGridModel" "momentum" "[D") (by decide +kernel)
  refine lv_bipush (v := nI 28) hx hb dX4_close_0 (by decide) ?_
  refine lv_iload_n hx hb dX4_close_2 rfl (lv_at hl 1 rfl) ?_
  refine fz_imulN hx hb dX4_close_3 ?_
  refine fz_topn (b := 0) (by omega) ?_
  refine lv_iconst (v := nI 2) hx hb dX4_close_4 (by decide) ?_
  refine fz_iaddN hx hb dX4_close_5 ?_
  refine fz_topn (b := 2) (by omega) ?_
  refine lv_istore_n (lv' := [(2, .int (nI 2)), (0, .ref o), (1, .int (nI 0))]) hx hb dX4_close_6 rfl hl (by decide) rfl (fun ls hl => ?_)
  refine lv_iload_n hx hb dX4_close_7 rfl (lv_at hl 0 rfl) ?_
  refine lv_aload_n hx hb dX4_close_8 rfl (lv_at hl 1 rfl) ?_
  refine va_get (D := D) (ci := 4) (v := .int (nI n)) (C := RX4) (T := TX4) (N := 20) hx hb hts hin_X4 hown hK hP 0 rfl rfl 1 (by decide) hw_fieldLink_RX4_30_FlowGridModel_n_I (fun _ h9 => h9) rfl dX4_close_9 ?_
  refine fz_iaddN hx hb dX4_close_12 ?_
  refine fz_topn (b := n + 2) (by omega) ?_
  refine lv_iconst (v := nI 1) hx hb dX4_close_13 (by decide) ?_
  refine fz_isubN hx hb (by omega) dX4_close_14 ?_
  refine fz_topn (b := n + 1) (by omega) ?_
  refine lv_istore_n (lv' := [(3, .int (nI (n + 1))), (2, .int (nI 2)), (0, .ref o), (1, .int (nI 0))]) hx hb dX4_close_15 rfl hl (by decide) rfl (fun ls hl => ?_)
  refine lv_iconst (v := nI 0) hx hb dX4_close_16 (by decide) ?_
  refine lv_istore (lv' := [(4, .int (nI 0)), (3, .int (nI (n + 1))), (2, .int (nI 2)), (0, .ref o), (1, .int (nI 0))]) hx hb dX4_close_17 hl (by decide) rfl (fun ls hl => ?_)
  refine lv_iload hx hb dX4_close_19 (lv_at hl 0 rfl) ?_
  refine lv_iconst (v := nI 2) hx hb dX4_close_21 (by decide) ?_
  refine fz_icmp_geN (tgt := 205) hx hb (by omega) (by omega) dX4_close_22 (by decide) (fun c22 => absurd c22 (by decide)) (fun c22 => ?_)
  refine lv_aload_n hx hb dX4_close_25 rfl (lv_at hl 3 rfl) ?_
  refine va_get (D := D) (ci := 4) (v := .int (nI 1)) (C := RX4) (T := TX4) (N := 20) hx hb hts hin_X4 hown hK hP 0 rfl rfl 2 (by decide) hw_fieldLink_RX4_45_FlowGridModel_ends_I (fun _ h9 => h9) rfl dX4_close_26 ?_
  refine lv_if_ne (tgt := 39) hx hb dX4_close_29 (by decide) (fun c29 => ?_) (fun c29 => absurd c29 (by decide))
  refine lv_aload_n hx hb dX4_close_39 rfl (lv_at hl 3 rfl) ?_
  refine va_get (D := D) (ci := 4) (v := .int (nI 1)) (C := RX4) (T := TX4) (N := 20) hx hb hts hin_X4 hown hK hP 0 rfl rfl 2 (by decide) hw_fieldLink_RX4_45_FlowGridModel_ends_I (fun _ h9 => h9) rfl dX4_close_40 ?_
  refine lv_iconst (v := nI 1) hx hb dX4_close_43 (by decide) ?_
  refine fz_icmp_neN (tgt := 54) hx hb (by omega) (by omega) dX4_close_44 (by decide) (fun c44 => absurd c44 (by decide)) (fun c44 => ?_)
  refine lv_iload_n hx hb dX4_close_47 rfl (lv_at hl 2 rfl) ?_
  refine lv_iload hx hb dX4_close_48 (lv_at hl 0 rfl) ?_
  refine fz_iaddN hx hb dX4_close_50 ?_
  refine fz_topn (b := 2) (by omega) ?_
  refine lv_goto (tgt := 55) hx hb dX4_close_51 (by decide) ?_
  refine lv_istore (lv' := [(5, .int (nI 2)), (4, .int (nI 0)), (3, .int (nI (n + 1))), (2, .int (nI 2)), (0, .ref o), (1, .int (nI 0))]) hx hb dX4_close_55 hl (by decide) rfl (fun ls hl => ?_)
  refine lv_aload_n hx hb dX4_close_57 rfl (lv_at hl 4 rfl) ?_
  refine va_get (D := D) (ci := 4) (v := .int (nI 1)) (C := RX4) (T := TX4) (N := 20) hx hb hts hin_X4 hown hK hP 0 rfl rfl 2 (by decide) hw_fieldLink_RX4_45_FlowGridModel_ends_I (fun _ h9 => h9) rfl dX4_close_58 ?_
  refine lv_if_ne (tgt := 71) hx hb dX4_close_61 (by decide) (fun c61 => ?_) (fun c61 => absurd c61 (by decide))
  refine lv_aload_n hx hb dX4_close_71 rfl (lv_at hl 4 rfl) ?_
  refine va_get (D := D) (ci := 4) (v := .int (nI 1)) (C := RX4) (T := TX4) (N := 20) hx hb hts hin_X4 hown hK hP 0 rfl rfl 2 (by decide) hw_fieldLink_RX4_45_FlowGridModel_ends_I (fun _ h9 => h9) rfl dX4_close_72 ?_
  refine lv_iconst (v := nI 1) hx hb dX4_close_75 (by decide) ?_
  refine fz_icmp_neN (tgt := 86) hx hb (by omega) (by omega) dX4_close_76 (by decide) (fun c76 => absurd c76 (by decide)) (fun c76 => ?_)
  refine lv_iload_n hx hb dX4_close_79 rfl (lv_at hl 2 rfl) ?_
  refine lv_iload hx hb dX4_close_80 (lv_at hl 1 rfl) ?_
  refine fz_isubN hx hb (by omega) dX4_close_82 ?_
  refine fz_topn (b := n + 1) (by omega) ?_
  refine lv_goto (tgt := 87) hx hb dX4_close_83 (by decide) ?_
  refine lv_istore (lv' := [(6, .int (nI (n + 1))), (5, .int (nI 2)), (4, .int (nI 0)), (3, .int (nI (n + 1))), (2, .int (nI 2)), (0, .ref o), (1, .int (nI 0))]) hx hb dX4_close_87 hl (by decide) rfl (fun ls hl => ?_)
  refine lv_aload_n hx hb dX4_close_89 rfl (lv_at hl 5 rfl) ?_
  refine va_get (D := D) (ci := 4) (v := .ref dp) (C := RX4) (T := TX4) (N := 20) hx hb hts hin_X4 hown hK hP 0 rfl rfl 10 (by decide) hw_fieldLink_RX4_7_FlowGridModel_depth_D (fun _ h9 => h9) rfl dX4_close_90 ?_
  refine lv_iload_n hx hb dX4_close_93 rfl (lv_at hl 4 rfl) ?_
  refine lv_iconst (v := nI 1) hx hb dX4_close_94 (by decide) ?_
  refine fz_isubN hx hb (by omega) dX4_close_95 ?_
  refine fz_topn (b := 1) (by omega) ?_
  refine lv_iload hx hb dX4_close_96 (lv_at hl 2 rfl) ?_
  refine fz_isubN hx hb (by omega) dX4_close_98 ?_
  refine fz_topn (b := 1) (by omega) ?_
  refine lv_aload_n hx hb dX4_close_99 rfl (lv_at hl 5 rfl) ?_
  refine va_get (D := D) (ci := 4) (v := .ref dp) (C := RX4) (T := TX4) (N := 20) hx hb hts hin_X4 hown hK hP 0 rfl rfl 10 (by decide) hw_fieldLink_RX4_7_FlowGridModel_depth_D (fun _ h9 => h9) rfl dX4_close_100 ?_
  refine lv_iload hx hb dX4_close_103 (lv_at hl 1 rfl) ?_
  refine fz_dald (i := 2) hx hb hK hP 1 0 rfl rfl (by omega) (by decide) dX4_close_105 ?_
  refine fz_dast (i := 1) hx hb hK hP hD hS 1 0 rfl rfl (by omega) (by decide) dX4_close_106 (fun H locs hP hD hS => ?_)
  have hP : va_P D vwCl [(o, .inr (4, [.int thr, .int (nI n), .int (nI 1), .int (nI lim), .int (nI sol), .int (nI ord), .double tm, .int cst, .int cfl, .int crf, .ref dp, .ref mp, .double v0, .double v1, .double v2, .double v3, .double v4, .double v5, .double v6, .double v7])), (dp, fz_da cD 84 (vf_upd dR 1 (dR 2))), (mp, fz_da cD 84 mR)] H := hP
  have hD : va_D A [(o, .inr (4, [.int thr, .int (nI n), .int (nI 1), .int (nI lim), .int (nI sol), .int (nI ord), .double tm, .int cst, .int cfl, .int crf, .ref dp, .ref mp, .double v0, .double v1, .double v2, .double v3, .double v4, .double v5, .double v6, .double v7])), (dp, fz_da cD 84 (vf_upd dR 1 (dR 2))), (mp, fz_da cD 84 mR)] := hD
  refine lv_aload_n hx hb dX4_close_107 rfl (lv_at hl 5 rfl) ?_
  refine va_get (D := D) (ci := 4) (v := .ref dp) (C := RX4) (T := TX4) (N := 20) hx hb hts hin_X4 hown hK hP 0 rfl rfl 10 (by decide) hw_fieldLink_RX4_7_FlowGridModel_depth_D (fun _ h9 => h9) rfl dX4_close_108 ?_
  refine lv_iload_n hx hb dX4_close_111 rfl (lv_at hl 3 rfl) ?_
  refine lv_iconst (v := nI 1) hx hb dX4_close_112 (by decide) ?_
  refine fz_iaddN hx hb dX4_close_113 ?_
  refine fz_topn (b := n + 2) (by omega) ?_
  refine lv_iload hx hb dX4_close_114 (lv_at hl 2 rfl) ?_
  refine fz_iaddN hx hb dX4_close_116 ?_
  refine fz_topn (b := n + 2) (by omega) ?_
  refine lv_aload_n hx hb dX4_close_117 rfl (lv_at hl 5 rfl) ?_
  refine va_get (D := D) (ci := 4) (v := .ref dp) (C := RX4) (T := TX4) (N := 20) hx hb hts hin_X4 hown hK hP 0 rfl rfl 10 (by decide) hw_fieldLink_RX4_7_FlowGridModel_depth_D (fun _ h9 => h9) rfl dX4_close_118 ?_
  refine lv_iload hx hb dX4_close_121 (lv_at hl 0 rfl) ?_
  refine fz_dald (i := n + 1) hx hb hK hP 1 0 rfl rfl (by omega) (by decide) dX4_close_123 ?_
  rw [fz_upn (by omega)]
  refine fz_dast (i := n + 2) hx hb hK hP hD hS 1 0 rfl rfl (by omega) (by decide) dX4_close_124 (fun H locs hP hD hS => ?_)
  have hP : va_P D vwCl [(o, .inr (4, [.int thr, .int (nI n), .int (nI 1), .int (nI lim), .int (nI sol), .int (nI ord), .double tm, .int cst, .int cfl, .int crf, .ref dp, .ref mp, .double v0, .double v1, .double v2, .double v3, .double v4, .double v5, .double v6, .double v7])), (dp, fz_da cD 84 (vf_upd (vf_upd dR 1 (dR 2)) (n + 2) (dR (n + 1)))), (mp, fz_da cD 84 mR)] H := hP
  have hD : va_D A [(o, .inr (4, [.int thr, .int (nI n), .int (nI 1), .int (nI lim), .int (nI sol), .int (nI ord), .double tm, .int cst, .int cfl, .int crf, .ref dp, .ref mp, .double v0, .double v1, .double v2, .double v3, .double v4, .double v5, .double v6, .double v7])), (dp, fz_da cD 84 (vf_upd (vf_upd dR 1 (dR 2)) (n + 2) (dR (n + 1)))), (mp, fz_da cD 84 mR)] := hD
  refine lv_aload_n hx hb dX4_close_125 rfl (lv_at hl 5 rfl) ?_
  refine va_get (D := D) (ci := 4) (v := .ref mp) (C := RX4) (T := TX4) (N := 20) hx hb hts hin_X4 hown hK hP 0 rfl rfl 11 (by decide) hw_fieldLink_RX4_13_FlowGridModel_momentum_D (fun _ h9 => h9) rfl dX4_close_126 ?_
  refine lv_iload_n hx hb dX4_close_129 rfl (lv_at hl 4 rfl) ?_
  refine lv_iconst (v := nI 1) hx hb dX4_close_130 (by decide) ?_
  refine fz_isubN hx hb (by omega) dX4_close_131 ?_
  refine fz_topn (b := 1) (by omega) ?_
  refine lv_iload hx hb dX4_close_132 (lv_at hl 2 rfl) ?_
  refine fz_isubN hx hb (by omega) dX4_close_134 ?_
  refine fz_topn (b := 1) (by omega) ?_
  refine lv_aload_n hx hb dX4_close_135 rfl (lv_at hl 5 rfl) ?_
  refine va_get (D := D) (ci := 4) (v := .int (nI 1)) (C := RX4) (T := TX4) (N := 20) hx hb hts hin_X4 hown hK hP 0 rfl rfl 2 (by decide) hw_fieldLink_RX4_45_FlowGridModel_ends_I (fun _ h9 => h9) rfl dX4_close_136 ?_
  refine lv_iconst (v := nI 1) hx hb dX4_close_139 (by decide) ?_
  refine fz_icmp_neN (tgt := 154) hx hb (by omega) (by omega) dX4_close_140 (by decide) (fun c140 => absurd c140 (by decide)) (fun c140 => ?_)
  refine lv_aload_n hx hb dX4_close_143 rfl (lv_at hl 5 rfl) ?_
  refine va_get (D := D) (ci := 4) (v := .ref mp) (C := RX4) (T := TX4) (N := 20) hx hb hts hin_X4 hown hK hP 0 rfl rfl 11 (by decide) hw_fieldLink_RX4_13_FlowGridModel_momentum_D (fun _ h9 => h9) rfl dX4_close_144 ?_
  refine lv_iload hx hb dX4_close_147 (lv_at hl 1 rfl) ?_
  refine fz_dald (i := 2) hx hb hK hP 2 0 rfl rfl (by omega) (by decide) dX4_close_149 ?_
  refine lv_dneg hx hb dX4_close_150 ?_
  refine lv_goto (tgt := 161) hx hb dX4_close_151 (by decide) ?_
  refine fz_dast (i := 1) hx hb hK hP hD hS 2 0 rfl rfl (by omega) (by decide) dX4_close_161 (fun H locs hP hD hS => ?_)
  have hP : va_P D vwCl [(o, .inr (4, [.int thr, .int (nI n), .int (nI 1), .int (nI lim), .int (nI sol), .int (nI ord), .double tm, .int cst, .int cfl, .int crf, .ref dp, .ref mp, .double v0, .double v1, .double v2, .double v3, .double v4, .double v5, .double v6, .double v7])), (dp, fz_da cD 84 (vf_upd (vf_upd dR 1 (dR 2)) (n + 2) (dR (n + 1)))), (mp, fz_da cD 84 (vf_upd mR 1 (FP.dneg (mR 2))))] H := hP
  have hD : va_D A [(o, .inr (4, [.int thr, .int (nI n), .int (nI 1), .int (nI lim), .int (nI sol), .int (nI ord), .double tm, .int cst, .int cfl, .int crf, .ref dp, .ref mp, .double v0, .double v1, .double v2, .double v3, .double v4, .double v5, .double v6, .double v7])), (dp, fz_da cD 84 (vf_upd (vf_upd dR 1 (dR 2)) (n + 2) (dR (n + 1)))), (mp, fz_da cD 84 (vf_upd mR 1 (FP.dneg (mR 2))))] := hD
  refine lv_aload_n hx hb dX4_close_162 rfl (lv_at hl 5 rfl) ?_
  refine va_get (D := D) (ci := 4) (v := .ref mp) (C := RX4) (T := TX4) (N := 20) hx hb hts hin_X4 hown hK hP 0 rfl rfl 11 (by decide) hw_fieldLink_RX4_13_FlowGridModel_momentum_D (fun _ h9 => h9) rfl dX4_close_163 ?_
  refine lv_iload_n hx hb dX4_close_166 rfl (lv_at hl 3 rfl) ?_
  refine lv_iconst (v := nI 1) hx hb dX4_close_167 (by decide) ?_
  refine fz_iaddN hx hb dX4_close_168 ?_
  refine fz_topn (b := n + 2) (by omega) ?_
  refine lv_iload hx hb dX4_close_169 (lv_at hl 2 rfl) ?_
  refine fz_iaddN hx hb dX4_close_171 ?_
  refine fz_topn (b := n + 2) (by omega) ?_
  refine lv_aload_n hx hb dX4_close_172 rfl (lv_at hl 5 rfl) ?_
  refine va_get (D := D) (ci := 4) (v := .int (nI 1)) (C := RX4) (T := TX4) (N := 20) hx hb hts hin_X4 hown hK hP 0 rfl rfl 2 (by decide) hw_fieldLink_RX4_45_FlowGridModel_ends_I (fun _ h9 => h9) rfl dX4_close_173 ?_
  refine lv_iconst (v := nI 1) hx hb dX4_close_176 (by decide) ?_
  refine fz_icmp_neN (tgt := 191) hx hb (by omega) (by omega) dX4_close_177 (by decide) (fun c177 => absurd c177 (by decide)) (fun c177 => ?_)
  refine lv_aload_n hx hb dX4_close_180 rfl (lv_at hl 5 rfl) ?_
  refine va_get (D := D) (ci := 4) (v := .ref mp) (C := RX4) (T := TX4) (N := 20) hx hb hts hin_X4 hown hK hP 0 rfl rfl 11 (by decide) hw_fieldLink_RX4_13_FlowGridModel_momentum_D (fun _ h9 => h9) rfl dX4_close_181 ?_
  refine lv_iload hx hb dX4_close_184 (lv_at hl 0 rfl) ?_
  refine fz_dald (i := n + 1) hx hb hK hP 2 0 rfl rfl (by omega) (by decide) dX4_close_186 ?_
  rw [fz_upn (by omega)]
  refine lv_dneg hx hb dX4_close_187 ?_
  refine lv_goto (tgt := 198) hx hb dX4_close_188 (by decide) ?_
  refine fz_dast (i := n + 2) hx hb hK hP hD hS 2 0 rfl rfl (by omega) (by decide) dX4_close_198 (fun H locs hP hD hS => ?_)
  have hP : va_P D vwCl [(o, .inr (4, [.int thr, .int (nI n), .int (nI 1), .int (nI lim), .int (nI sol), .int (nI ord), .double tm, .int cst, .int cfl, .int crf, .ref dp, .ref mp, .double v0, .double v1, .double v2, .double v3, .double v4, .double v5, .double v6, .double v7])), (dp, fz_da cD 84 (vf_upd (vf_upd dR 1 (dR 2)) (n + 2) (dR (n + 1)))), (mp, fz_da cD 84 (vf_upd (vf_upd mR 1 (FP.dneg (mR 2))) (n + 2) (FP.dneg (mR (n + 1)))))] H := hP
  have hD : va_D A [(o, .inr (4, [.int thr, .int (nI n), .int (nI 1), .int (nI lim), .int (nI sol), .int (nI ord), .double tm, .int cst, .int cfl, .int crf, .ref dp, .ref mp, .double v0, .double v1, .double v2, .double v3, .double v4, .double v5, .double v6, .double v7])), (dp, fz_da cD 84 (vf_upd (vf_upd dR 1 (dR 2)) (n + 2) (dR (n + 1)))), (mp, fz_da cD 84 (vf_upd (vf_upd mR 1 (FP.dneg (mR 2))) (n + 2) (FP.dneg (mR (n + 1)))))] := hD
  refine lv_iinc (v := nI (1)) (lv' := [(4, .int (nI 1)), (6, .int (nI (n + 1))), (5, .int (nI 2)), (3, .int (nI (n + 1))), (2, .int (nI 2)), (0, .ref o), (1, .int (nI 0))]) hx hb dX4_close_199 hl (k := 2) rfl (nI_1 _) (by decide) rfl (fun ls hl => ?_)
  refine lv_goto (tgt := 19) hx hb dX4_close_202 (by decide) ?_
  refine lv_iload hx hb dX4_close_19 (lv_at hl 0 rfl) ?_
  refine lv_iconst (v := nI 2) hx hb dX4_close_21 (by decide) ?_
  refine fz_icmp_geN (tgt := 205) hx hb (by omega) (by omega) dX4_close_22 (by decide) (fun c22 => absurd c22 (by decide)) (fun c22 => ?_)
  refine lv_aload_n hx hb dX4_close_25 rfl (lv_at hl 5 rfl) ?_
  refine va_get (D := D) (ci := 4) (v := .int (nI 1)) (C := RX4) (T := TX4) (N := 20) hx hb hts hin_X4 hown hK hP 0 rfl rfl 2 (by decide) hw_fieldLink_RX4_45_FlowGridModel_ends_I (fun _ h9 => h9) rfl dX4_close_26 ?_
  refine lv_if_ne (tgt := 39) hx hb dX4_close_29 (by decide) (fun c29 => ?_) (fun c29 => absurd c29 (by decide))
  refine lv_aload_n hx hb dX4_close_39 rfl (lv_at hl 5 rfl) ?_
  refine va_get (D := D) (ci := 4) (v := .int (nI 1)) (C := RX4) (T := TX4) (N := 20) hx hb hts hin_X4 hown hK hP 0 rfl rfl 2 (by decide) hw_fieldLink_RX4_45_FlowGridModel_ends_I (fun _ h9 => h9) rfl dX4_close_40 ?_
  refine lv_iconst (v := nI 1) hx hb dX4_close_43 (by decide) ?_
  refine fz_icmp_neN (tgt := 54) hx hb (by omega) (by omega) dX4_close_44 (by decide) (fun c44 => absurd c44 (by decide)) (fun c44 => ?_)
  refine lv_iload_n hx hb dX4_close_47 rfl (lv_at hl 4 rfl) ?_
  refine lv_iload hx hb dX4_close_48 (lv_at hl 0 rfl) ?_
  refine fz_iaddN hx hb dX4_close_50 ?_
  refine fz_topn (b := 3) (by omega) ?_
  refine lv_goto (tgt := 55) hx hb dX4_close_51 (by decide) ?_
  refine lv_istore (lv' := [(5, .int (nI 3)), (4, .int (nI 1)), (6, .int (nI (n + 1))), (3, .int (nI (n + 1))), (2, .int (nI 2)), (0, .ref o), (1, .int (nI 0))]) hx hb dX4_close_55 hl (by decide) rfl (fun ls hl => ?_)
  refine lv_aload_n hx hb dX4_close_57 rfl (lv_at hl 5 rfl) ?_
  refine va_get (D := D) (ci := 4) (v := .int (nI 1)) (C := RX4) (T := TX4) (N := 20) hx hb hts hin_X4 hown hK hP 0 rfl rfl 2 (by decide) hw_fieldLink_RX4_45_FlowGridModel_ends_I (fun _ h9 => h9) rfl dX4_close_58 ?_
  refine lv_if_ne (tgt := 71) hx hb dX4_close_61 (by decide) (fun c61 => ?_) (fun c61 => absurd c61 (by decide))
  refine lv_aload_n hx hb dX4_close_71 rfl (lv_at hl 5 rfl) ?_
  refine va_get (D := D) (ci := 4) (v := .int (nI 1)) (C := RX4) (T := TX4) (N := 20) hx hb hts hin_X4 hown hK hP 0 rfl rfl 2 (by decide) hw_fieldLink_RX4_45_FlowGridModel_ends_I (fun _ h9 => h9) rfl dX4_close_72 ?_
  refine lv_iconst (v := nI 1) hx hb dX4_close_75 (by decide) ?_
  refine fz_icmp_neN (tgt := 86) hx hb (by omega) (by omega) dX4_close_76 (by decide) (fun c76 => absurd c76 (by decide)) (fun c76 => ?_)
  refine lv_iload_n hx hb dX4_close_79 rfl (lv_at hl 3 rfl) ?_
  refine lv_iload hx hb dX4_close_80 (lv_at hl 1 rfl) ?_
  refine fz_isubN hx hb (by omega) dX4_close_82 ?_
  refine fz_topn (b := n) (by omega) ?_
  refine lv_goto (tgt := 87) hx hb dX4_close_83 (by decide) ?_
  refine lv_istore (lv' := [(6, .int (nI n)), (5, .int (nI 3)), (4, .int (nI 1)), (3, .int (nI (n + 1))), (2, .int (nI 2)), (0, .ref o), (1, .int (nI 0))]) hx hb dX4_close_87 hl (by decide) rfl (fun ls hl => ?_)
  refine lv_aload_n hx hb dX4_close_89 rfl (lv_at hl 5 rfl) ?_
  refine va_get (D := D) (ci := 4) (v := .ref dp) (C := RX4) (T := TX4) (N := 20) hx hb hts hin_X4 hown hK hP 0 rfl rfl 10 (by decide) hw_fieldLink_RX4_7_FlowGridModel_depth_D (fun _ h9 => h9) rfl dX4_close_90 ?_
  refine lv_iload_n hx hb dX4_close_93 rfl (lv_at hl 4 rfl) ?_
  refine lv_iconst (v := nI 1) hx hb dX4_close_94 (by decide) ?_
  refine fz_isubN hx hb (by omega) dX4_close_95 ?_
  refine fz_topn (b := 1) (by omega) ?_
  refine lv_iload hx hb dX4_close_96 (lv_at hl 2 rfl) ?_
  refine fz_isubN hx hb (by omega) dX4_close_98 ?_
  refine fz_topn (b := 0) (by omega) ?_
  refine lv_aload_n hx hb dX4_close_99 rfl (lv_at hl 5 rfl) ?_
  refine va_get (D := D) (ci := 4) (v := .ref dp) (C := RX4) (T := TX4) (N := 20) hx hb hts hin_X4 hown hK hP 0 rfl rfl 10 (by decide) hw_fieldLink_RX4_7_FlowGridModel_depth_D (fun _ h9 => h9) rfl dX4_close_100 ?_
  refine lv_iload hx hb dX4_close_103 (lv_at hl 1 rfl) ?_
  refine fz_dald (i := 3) hx hb hK hP 1 0 rfl rfl (by omega) (by decide) dX4_close_105 ?_
  rw [fz_upn (by omega), fz_upn (by omega)]
  refine fz_dast (i := 0) hx hb hK hP hD hS 1 0 rfl rfl (by omega) (by decide) dX4_close_106 (fun H locs hP hD hS => ?_)
  have hP : va_P D vwCl [(o, .inr (4, [.int thr, .int (nI n), .int (nI 1), .int (nI lim), .int (nI sol), .int (nI ord), .double tm, .int cst, .int cfl, .int crf, .ref dp, .ref mp, .double v0, .double v1, .double v2, .double v3, .double v4, .double v5, .double v6, .double v7])), (dp, fz_da cD 84 (vf_upd (vf_upd (vf_upd dR 1 (dR 2)) (n + 2) (dR (n + 1))) 0 (dR 3))), (mp, fz_da cD 84 (vf_upd (vf_upd mR 1 (FP.dneg (mR 2))) (n + 2) (FP.dneg (mR (n + 1)))))] H := hP
  have hD : va_D A [(o, .inr (4, [.int thr, .int (nI n), .int (nI 1), .int (nI lim), .int (nI sol), .int (nI ord), .double tm, .int cst, .int cfl, .int crf, .ref dp, .ref mp, .double v0, .double v1, .double v2, .double v3, .double v4, .double v5, .double v6, .double v7])), (dp, fz_da cD 84 (vf_upd (vf_upd (vf_upd dR 1 (dR 2)) (n + 2) (dR (n + 1))) 0 (dR 3))), (mp, fz_da cD 84 (vf_upd (vf_upd mR 1 (FP.dneg (mR 2))) (n + 2) (FP.dneg (mR (n + 1)))))] := hD
  refine lv_aload_n hx hb dX4_close_107 rfl (lv_at hl 5 rfl) ?_
  refine va_get (D := D) (ci := 4) (v := .ref dp) (C := RX4) (T := TX4) (N := 20) hx hb hts hin_X4 hown hK hP 0 rfl rfl 10 (by decide) hw_fieldLink_RX4_7_FlowGridModel_depth_D (fun _ h9 => h9) rfl dX4_close_108 ?_
  refine lv_iload_n hx hb dX4_close_111 rfl (lv_at hl 3 rfl) ?_
  refine lv_iconst (v := nI 1) hx hb dX4_close_112 (by decide) ?_
  refine fz_iaddN hx hb dX4_close_113 ?_
  refine fz_topn (b := n + 2) (by omega) ?_
  refine lv_iload hx hb dX4_close_114 (lv_at hl 2 rfl) ?_
  refine fz_iaddN hx hb dX4_close_116 ?_
  refine fz_topn (b := n + 3) (by omega) ?_
  refine lv_aload_n hx hb dX4_close_117 rfl (lv_at hl 5 rfl) ?_
  refine va_get (D := D) (ci := 4) (v := .ref dp) (C := RX4) (T := TX4) (N := 20) hx hb hts hin_X4 hown hK hP 0 rfl rfl 10 (by decide) hw_fieldLink_RX4_7_FlowGridModel_depth_D (fun _ h9 => h9) rfl dX4_close_118 ?_
  refine lv_iload hx hb dX4_close_121 (lv_at hl 0 rfl) ?_
  refine fz_dald (i := n) hx hb hK hP 1 0 rfl rfl (by omega) (by decide) dX4_close_123 ?_
  rw [fz_upn (by omega), fz_upn (by omega), fz_upn (by omega)]
  refine fz_dast (i := n + 3) hx hb hK hP hD hS 1 0 rfl rfl (by omega) (by decide) dX4_close_124 (fun H locs hP hD hS => ?_)
  have hP : va_P D vwCl [(o, .inr (4, [.int thr, .int (nI n), .int (nI 1), .int (nI lim), .int (nI sol), .int (nI ord), .double tm, .int cst, .int cfl, .int crf, .ref dp, .ref mp, .double v0, .double v1, .double v2, .double v3, .double v4, .double v5, .double v6, .double v7])), (dp, fz_da cD 84 (vf_upd (vf_upd (vf_upd (vf_upd dR 1 (dR 2)) (n + 2) (dR (n + 1))) 0 (dR 3)) (n + 3) (dR n))), (mp, fz_da cD 84 (vf_upd (vf_upd mR 1 (FP.dneg (mR 2))) (n + 2) (FP.dneg (mR (n + 1)))))] H := hP
  have hD : va_D A [(o, .inr (4, [.int thr, .int (nI n), .int (nI 1), .int (nI lim), .int (nI sol), .int (nI ord), .double tm, .int cst, .int cfl, .int crf, .ref dp, .ref mp, .double v0, .double v1, .double v2, .double v3, .double v4, .double v5, .double v6, .double v7])), (dp, fz_da cD 84 (vf_upd (vf_upd (vf_upd (vf_upd dR 1 (dR 2)) (n + 2) (dR (n + 1))) 0 (dR 3)) (n + 3) (dR n))), (mp, fz_da cD 84 (vf_upd (vf_upd mR 1 (FP.dneg (mR 2))) (n + 2) (FP.dneg (mR (n + 1)))))] := hD
  refine lv_aload_n hx hb dX4_close_125 rfl (lv_at hl 5 rfl) ?_
  refine va_get (D := D) (ci := 4) (v := .ref mp) (C := RX4) (T := TX4) (N := 20) hx hb hts hin_X4 hown hK hP 0 rfl rfl 11 (by decide) hw_fieldLink_RX4_13_FlowGridModel_momentum_D (fun _ h9 => h9) rfl dX4_close_126 ?_
  refine lv_iload_n hx hb dX4_close_129 rfl (lv_at hl 4 rfl) ?_
  refine lv_iconst (v := nI 1) hx hb dX4_close_130 (by decide) ?_
  refine fz_isubN hx hb (by omega) dX4_close_131 ?_
  refine fz_topn (b := 1) (by omega) ?_
  refine lv_iload hx hb dX4_close_132 (lv_at hl 2 rfl) ?_
  refine fz_isubN hx hb (by omega) dX4_close_134 ?_
  refine fz_topn (b := 0) (by omega) ?_
  refine lv_aload_n hx hb dX4_close_135 rfl (lv_at hl 5 rfl) ?_
  refine va_get (D := D) (ci := 4) (v := .int (nI 1)) (C := RX4) (T := TX4) (N := 20) hx hb hts hin_X4 hown hK hP 0 rfl rfl 2 (by decide) hw_fieldLink_RX4_45_FlowGridModel_ends_I (fun _ h9 => h9) rfl dX4_close_136 ?_
  refine lv_iconst (v := nI 1) hx hb dX4_close_139 (by decide) ?_
  refine fz_icmp_neN (tgt := 154) hx hb (by omega) (by omega) dX4_close_140 (by decide) (fun c140 => absurd c140 (by decide)) (fun c140 => ?_)
  refine lv_aload_n hx hb dX4_close_143 rfl (lv_at hl 5 rfl) ?_
  refine va_get (D := D) (ci := 4) (v := .ref mp) (C := RX4) (T := TX4) (N := 20) hx hb hts hin_X4 hown hK hP 0 rfl rfl 11 (by decide) hw_fieldLink_RX4_13_FlowGridModel_momentum_D (fun _ h9 => h9) rfl dX4_close_144 ?_
  refine lv_iload hx hb dX4_close_147 (lv_at hl 1 rfl) ?_
  refine fz_dald (i := 3) hx hb hK hP 2 0 rfl rfl (by omega) (by decide) dX4_close_149 ?_
  rw [fz_upn (by omega), fz_upn (by omega)]
  refine lv_dneg hx hb dX4_close_150 ?_
  refine lv_goto (tgt := 161) hx hb dX4_close_151 (by decide) ?_
  refine fz_dast (i := 0) hx hb hK hP hD hS 2 0 rfl rfl (by omega) (by decide) dX4_close_161 (fun H locs hP hD hS => ?_)
  have hP : va_P D vwCl [(o, .inr (4, [.int thr, .int (nI n), .int (nI 1), .int (nI lim), .int (nI sol), .int (nI ord), .double tm, .int cst, .int cfl, .int crf, .ref dp, .ref mp, .double v0, .double v1, .double v2, .double v3, .double v4, .double v5, .double v6, .double v7])), (dp, fz_da cD 84 (vf_upd (vf_upd (vf_upd (vf_upd dR 1 (dR 2)) (n + 2) (dR (n + 1))) 0 (dR 3)) (n + 3) (dR n))), (mp, fz_da cD 84 (vf_upd (vf_upd (vf_upd mR 1 (FP.dneg (mR 2))) (n + 2) (FP.dneg (mR (n + 1)))) 0 (FP.dneg (mR 3))))] H := hP
  have hD : va_D A [(o, .inr (4, [.int thr, .int (nI n), .int (nI 1), .int (nI lim), .int (nI sol), .int (nI ord), .double tm, .int cst, .int cfl, .int crf, .ref dp, .ref mp, .double v0, .double v1, .double v2, .double v3, .double v4, .double v5, .double v6, .double v7])), (dp, fz_da cD 84 (vf_upd (vf_upd (vf_upd (vf_upd dR 1 (dR 2)) (n + 2) (dR (n + 1))) 0 (dR 3)) (n + 3) (dR n))), (mp, fz_da cD 84 (vf_upd (vf_upd (vf_upd mR 1 (FP.dneg (mR 2))) (n + 2) (FP.dneg (mR (n + 1)))) 0 (FP.dneg (mR 3))))] := hD
  refine lv_aload_n hx hb dX4_close_162 rfl (lv_at hl 5 rfl) ?_
  refine va_get (D := D) (ci := 4) (v := .ref mp) (C := RX4) (T := TX4) (N := 20) hx hb hts hin_X4 hown hK hP 0 rfl rfl 11 (by decide) hw_fieldLink_RX4_13_FlowGridModel_momentum_D (fun _ h9 => h9) rfl dX4_close_163 ?_
  refine lv_iload_n hx hb dX4_close_166 rfl (lv_at hl 3 rfl) ?_
  refine lv_iconst (v := nI 1) hx hb dX4_close_167 (by decide) ?_
  refine fz_iaddN hx hb dX4_close_168 ?_
  refine fz_topn (b := n + 2) (by omega) ?_
  refine lv_iload hx hb dX4_close_169 (lv_at hl 2 rfl) ?_
  refine fz_iaddN hx hb dX4_close_171 ?_
  refine fz_topn (b := n + 3) (by omega) ?_
  refine lv_aload_n hx hb dX4_close_172 rfl (lv_at hl 5 rfl) ?_
  refine va_get (D := D) (ci := 4) (v := .int (nI 1)) (C := RX4) (T := TX4) (N := 20) hx hb hts hin_X4 hown hK hP 0 rfl rfl 2 (by decide) hw_fieldLink_RX4_45_FlowGridModel_ends_I (fun _ h9 => h9) rfl dX4_close_173 ?_
  refine lv_iconst (v := nI 1) hx hb dX4_close_176 (by decide) ?_
  refine fz_icmp_neN (tgt := 191) hx hb (by omega) (by omega) dX4_close_177 (by decide) (fun c177 => absurd c177 (by decide)) (fun c177 => ?_)
  refine lv_aload_n hx hb dX4_close_180 rfl (lv_at hl 5 rfl) ?_
  refine va_get (D := D) (ci := 4) (v := .ref mp) (C := RX4) (T := TX4) (N := 20) hx hb hts hin_X4 hown hK hP 0 rfl rfl 11 (by decide) hw_fieldLink_RX4_13_FlowGridModel_momentum_D (fun _ h9 => h9) rfl dX4_close_181 ?_
  refine lv_iload hx hb dX4_close_184 (lv_at hl 0 rfl) ?_
  refine fz_dald (i := n) hx hb hK hP 2 0 rfl rfl (by omega) (by decide) dX4_close_186 ?_
  rw [fz_upn (by omega), fz_upn (by omega), fz_upn (by omega)]
  refine lv_dneg hx hb dX4_close_187 ?_
  refine lv_goto (tgt := 198) hx hb dX4_close_188 (by decide) ?_
  refine fz_dast (i := n + 3) hx hb hK hP hD hS 2 0 rfl rfl (by omega) (by decide) dX4_close_198 (fun H locs hP hD hS => ?_)
  have hP : va_P D vwCl [(o, .inr (4, [.int thr, .int (nI n), .int (nI 1), .int (nI lim), .int (nI sol), .int (nI ord), .double tm, .int cst, .int cfl, .int crf, .ref dp, .ref mp, .double v0, .double v1, .double v2, .double v3, .double v4, .double v5, .double v6, .double v7])), (dp, fz_da cD 84 (vf_upd (vf_upd (vf_upd (vf_upd dR 1 (dR 2)) (n + 2) (dR (n + 1))) 0 (dR 3)) (n + 3) (dR n))), (mp, fz_da cD 84 (vf_upd (vf_upd (vf_upd (vf_upd mR 1 (FP.dneg (mR 2))) (n + 2) (FP.dneg (mR (n + 1)))) 0 (FP.dneg (mR 3))) (n + 3) (FP.dneg (mR n))))] H := hP
  have hD : va_D A [(o, .inr (4, [.int thr, .int (nI n), .int (nI 1), .int (nI lim), .int (nI sol), .int (nI ord), .double tm, .int cst, .int cfl, .int crf, .ref dp, .ref mp, .double v0, .double v1, .double v2, .double v3, .double v4, .double v5, .double v6, .double v7])), (dp, fz_da cD 84 (vf_upd (vf_upd (vf_upd (vf_upd dR 1 (dR 2)) (n + 2) (dR (n + 1))) 0 (dR 3)) (n + 3) (dR n))), (mp, fz_da cD 84 (vf_upd (vf_upd (vf_upd (vf_upd mR 1 (FP.dneg (mR 2))) (n + 2) (FP.dneg (mR (n + 1)))) 0 (FP.dneg (mR 3))) (n + 3) (FP.dneg (mR n))))] := hD
  refine lv_iinc (v := nI (2)) (lv' := [(4, .int (nI 2)), (6, .int (nI n)), (5, .int (nI 3)), (3, .int (nI (n + 1))), (2, .int (nI 2)), (0, .ref o), (1, .int (nI 0))]) hx hb dX4_close_199 hl (k := 2) rfl (nI_1 _) (by decide) rfl (fun ls hl => ?_)
  refine lv_goto (tgt := 19) hx hb dX4_close_202 (by decide) ?_
  refine lv_iload hx hb dX4_close_19 (lv_at hl 0 rfl) ?_
  refine lv_iconst (v := nI 2) hx hb dX4_close_21 (by decide) ?_
  refine fz_icmp_geN (tgt := 205) hx hb (by omega) (by omega) dX4_close_22 (by decide) (fun c22 => ?_) (fun c22 => absurd c22 (by decide))
  obtain ⟨hP, hD⟩ := fz_swapf (a := dp) (cD := cD) (n := 84) (g := fz_put 0 dR (fz_ends 1 false n (fz_row dR 0))) 1 rfl (fun i _ => fz_clq 0 n hn4 hn dR (fz_ends 1 false n (fz_row dR 0)) _ _ _ _ (by simp [fz_ends, fz_row]) (by simp [fz_ends, fz_row]) (by simp [fz_ends, fz_row]) (by simp [fz_ends, fz_row]) (fun q h1 h0 h2 h3 => by simp [fz_ends, fz_row, h1, h0, h2, h3]) i) hP hD
  have hP : va_P D vwCl [(o, .inr (4, [.int thr, .int (nI n), .int (nI 1), .int (nI lim), .int (nI sol), .int (nI ord), .double tm, .int cst, .int cfl, .int crf, .ref dp, .ref mp, .double v0, .double v1, .double v2, .double v3, .double v4, .double v5, .double v6, .double v7])), (dp, fz_da cD 84 (fz_put 0 dR (fz_ends 1 false n (fz_row dR 0)))), (mp, fz_da cD 84 (vf_upd (vf_upd (vf_upd (vf_upd mR 1 (FP.dneg (mR 2))) (n + 2) (FP.dneg (mR (n + 1)))) 0 (FP.dneg (mR 3))) (n + 3) (FP.dneg (mR n))))] H := hP
  have hD : va_D A [(o, .inr (4, [.int thr, .int (nI n), .int (nI 1), .int (nI lim), .int (nI sol), .int (nI ord), .double tm, .int cst, .int cfl, .int crf, .ref dp, .ref mp, .double v0, .double v1, .double v2, .double v3, .double v4, .double v5, .double v6, .double v7])), (dp, fz_da cD 84 (fz_put 0 dR (fz_ends 1 false n (fz_row dR 0)))), (mp, fz_da cD 84 (vf_upd (vf_upd (vf_upd (vf_upd mR 1 (FP.dneg (mR 2))) (n + 2) (FP.dneg (mR (n + 1)))) 0 (FP.dneg (mR 3))) (n + 3) (FP.dneg (mR n))))] := hD
  obtain ⟨hP, hD⟩ := fz_swapf (a := mp) (cD := cD) (n := 84) (g := fz_put 0 mR (fz_ends 1 true n (fz_row mR 0))) 2 rfl (fun i _ => fz_clq 0 n hn4 hn mR (fz_ends 1 true n (fz_row mR 0)) _ _ _ _ (by simp [fz_ends, fz_row]) (by simp [fz_ends, fz_row]) (by simp [fz_ends, fz_row]) (by simp [fz_ends, fz_row]) (fun q h1 h0 h2 h3 => by simp [fz_ends, fz_row, h1, h0, h2, h3]) i) hP hD
  have hP : va_P D vwCl [(o, .inr (4, [.int thr, .int (nI n), .int (nI 1), .int (nI lim), .int (nI sol), .int (nI ord), .double tm, .int cst, .int cfl, .int crf, .ref dp, .ref mp, .double v0, .double v1, .double v2, .double v3, .double v4, .double v5, .double v6, .double v7])), (dp, fz_da cD 84 (fz_put 0 dR (fz_ends 1 false n (fz_row dR 0)))), (mp, fz_da cD 84 (fz_put 0 mR (fz_ends 1 true n (fz_row mR 0))))] H := hP
  have hD : va_D A [(o, .inr (4, [.int thr, .int (nI n), .int (nI 1), .int (nI lim), .int (nI sol), .int (nI ord), .double tm, .int cst, .int cfl, .int crf, .ref dp, .ref mp, .double v0, .double v1, .double v2, .double v3, .double v4, .double v5, .double v6, .double v7])), (dp, fz_da cD 84 (fz_put 0 dR (fz_ends 1 false n (fz_row dR 0)))), (mp, fz_da cD 84 (fz_put 0 mR (fz_ends 1 true n (fz_row mR 0))))] := hD
  exact fz_vret hx hb hr hlocks (rfl) hP hK hD hS dX4_close_205

set_option maxHeartbeats 4000000 in
set_option maxRecDepth 100000 in
theorem c_X4_close02 (l : Launch) (D : va_G) (cD : ClassId) (o dp mp n lim sol ord : Nat) (dR mR : Nat → UInt64) (thr : Int32) (tm v0 v1 v2 v3 v4 v5 v6 v7 : UInt64) (cst cfl crf : Int32) (hn4 : 4 ≤ n) (hn : n ≤ 24) : fz_C l D [(cD, .double)] yX4_close wsX4_close ({ frames := 0, cells := 0, slots := 0, locals := 0 }) [.ref o, .int (nI 0)] [(o, .inr (4, [.int thr, .int (nI n), .int (nI 2), .int (nI lim), .int (nI sol), .int (nI ord), .double tm, .int cst, .int cfl, .int crf, .ref dp, .ref mp, .double v0, .double v1, .double v2, .double v3, .double v4, .double v5, .double v6, .double v7])), (dp, fz_da cD 84 dR), (mp, fz_da cD 84 mR)] [(o, .inr (4, [.int thr, .int (nI n), .int (nI 2), .int (nI lim), .int (nI sol), .int (nI ord), .double tm, .int cst, .int cfl, .int crf, .ref dp, .ref mp, .double v0, .double v1, .double v2, .double v3, .double v4, .double v5, .double v6, .double v7])), (dp, fz_da cD 84 (fz_put 0 dR (fz_ends 2 false n (fz_row dR 0)))), (mp, fz_da cD 84 (fz_put 0 mR (fz_ends 2 true n (fz_row mR 0))))] (none) := by
  refine fz_start (cc := cX4_close) (maxL := 7) (ret := none) (by decide) rfl (Nat.le_of_ble_eq_true rfl) ?_
  intro p e s m below meth c A hx hb hr hlocks hml hown hts hK hA hNW H locs hP hD hS ls hl
  have hl : lv_has ls 7 [(0, .ref o), (1, .int (nI 0))] := hl
  have hown : s.vm.findClass RX4 = some m.cls := hown
  have hw_fieldLink_RX4_30_FlowGridModel_n_I := hts (.fieldLink RX4 30 "FlowGridModel" "n" "I") (by decide +kernel)
  have hin_X4 : ∀ w ∈ u_ws RX4 TX4 20, w ∈ wsX4_close := by decide +kernel
  have hw_fieldLink_RX4_45_FlowGridModel_ends_I := hts (.fieldLink RX4 45 "FlowGridModel" "ends" "I") (by decide +kernel)
  have hw_fieldLink_RX4_7_FlowGridModel_depth_D := hts (.fieldLink RX4 7 "FlowGridModel" "depth" "[D") (by decide +kernel)
  have hw_fieldLink_RX4_13_FlowGridModel_momentum_D := hts (.fieldLink RX4 13 "FlowGridModel" "momentum" "[D") (by decide +kernel)
  refine lv_bipush (v := nI 28) hx hb dX4_close_0 (by decide) ?_
  refine lv_iload_n hx hb dX4_close_2 rfl (lv_at hl 1 rfl) ?_
  refine fz_imulN hx hb dX4_close_3 ?_
  refine fz_topn (b := 0) (by omega) ?_
  refine lv_iconst (v := nI 2) hx hb dX4_close_4 (by decide) ?_
  refine fz_iaddN hx hb dX4_close_5 ?_
  refine fz_topn (b := 2) (by omega) ?_
  refine lv_istore_n (lv' := [(2, .int (nI 2)), (0, .ref o), (1, .int (nI 0))]) hx hb dX4_close_6 rfl hl (by decide) rfl (fun ls hl => ?_)
  refine lv_iload_n hx hb dX4_close_7 rfl (lv_at hl 0 rfl) ?_
  refine lv_aload_n hx hb dX4_close_8 rfl (lv_at hl 1 rfl) ?_
  refine va_get (D := D) (ci := 4) (v := .int (nI n)) (C := RX4) (T := TX4) (N := 20) hx hb hts hin_X4 hown hK hP 0 rfl rfl 1 (by decide) hw_fieldLink_RX4_30_FlowGridModel_n_I (fun _ h9 => h9) rfl dX4_close_9 ?_
  refine fz_iaddN hx hb dX4_close_12 ?_
  refine fz_topn (b := n + 2) (by omega) ?_
  refine lv_iconst (v := nI 1) hx hb dX4_close_13 (by decide) ?_
  refine fz_isubN hx hb (by omega) dX4_close_14 ?_
  refine fz_topn (b := n + 1) (by omega) ?_
  refine lv_istore_n (lv' := [(3, .int (nI (n + 1))), (2, .int (nI 2)), (0, .ref o), (1, .int (nI 0))]) hx hb dX4_close_15 rfl hl (by decide) rfl (fun ls hl => ?_)
  refine lv_iconst (v := nI 0) hx hb dX4_close_16 (by decide) ?_
  refine lv_istore (lv' := [(4, .int (nI 0)), (3, .int (nI (n + 1))), (2, .int (nI 2)), (0, .ref o), (1, .int (nI 0))]) hx hb dX4_close_17 hl (by decide) rfl (fun ls hl => ?_)
  refine lv_iload hx hb dX4_close_19 (lv_at hl 0 rfl) ?_
  refine lv_iconst (v := nI 2) hx hb dX4_close_21 (by decide) ?_
  refine fz_icmp_geN (tgt := 205) hx hb (by omega) (by omega) dX4_close_22 (by decide) (fun c22 => absurd c22 (by decide)) (fun c22 => ?_)
  refine lv_aload_n hx hb dX4_close_25 rfl (lv_at hl 3 rfl) ?_
  refine va_get (D := D) (ci := 4) (v := .int (nI 2)) (C := RX4) (T := TX4) (N := 20) hx hb hts hin_X4 hown hK hP 0 rfl rfl 2 (by decide) hw_fieldLink_RX4_45_FlowGridModel_ends_I (fun _ h9 => h9) rfl dX4_close_26 ?_
  refine lv_if_ne (tgt := 39) hx hb dX4_close_29 (by decide) (fun c29 => ?_) (fun c29 => absurd c29 (by decide))
  refine lv_aload_n hx hb dX4_close_39 rfl (lv_at hl 3 rfl) ?_
  refine va_get (D := D) (ci := 4) (v := .int (nI 2)) (C := RX4) (T := TX4) (N := 20) hx hb hts hin_X4 hown hK hP 0 rfl rfl 2 (by decide) hw_fieldLink_RX4_45_FlowGridModel_ends_I (fun _ h9 => h9) rfl dX4_close_40 ?_
  refine lv_iconst (v := nI 1) hx hb dX4_close_43 (by decide) ?_
  refine fz_icmp_neN (tgt := 54) hx hb (by omega) (by omega) dX4_close_44 (by decide) (fun c44 => ?_) (fun c44 => absurd c44 (by decide))
  refine lv_iload_n hx hb dX4_close_54 rfl (lv_at hl 2 rfl) ?_
  refine lv_istore (lv' := [(5, .int (nI 2)), (4, .int (nI 0)), (3, .int (nI (n + 1))), (2, .int (nI 2)), (0, .ref o), (1, .int (nI 0))]) hx hb dX4_close_55 hl (by decide) rfl (fun ls hl => ?_)
  refine lv_aload_n hx hb dX4_close_57 rfl (lv_at hl 4 rfl) ?_
  refine va_get (D := D) (ci := 4) (v := .int (nI 2)) (C := RX4) (T := TX4) (N := 20) hx hb hts hin_X4 hown hK hP 0 rfl rfl 2 (by decide) hw_fieldLink_RX4_45_FlowGridModel_ends_I (fun _ h9 => h9) rfl dX4_close_58 ?_
  refine lv_if_ne (tgt := 71) hx hb dX4_close_61 (by decide) (fun c61 => ?_) (fun c61 => absurd c61 (by decide))
  refine lv_aload_n hx hb dX4_close_71 rfl (lv_at hl 4 rfl) ?_
  refine va_get (D := D) (ci := 4) (v := .int (nI 2)) (C := RX4) (T := TX4) (N := 20) hx hb hts hin_X4 hown hK hP 0 rfl rfl 2 (by decide) hw_fieldLink_RX4_45_FlowGridModel_ends_I (fun _ h9 => h9) rfl dX4_close_72 ?_
  refine lv_iconst (v := nI 1) hx hb dX4_close_75 (by decide) ?_
  refine fz_icmp_neN (tgt := 86) hx hb (by omega) (by omega) dX4_close_76 (by decide) (fun c76 => ?_) (fun c76 => absurd c76 (by decide))
  refine lv_iload_n hx hb dX4_close_86 rfl (lv_at hl 2 rfl) ?_
  refine lv_istore (lv' := [(6, .int (nI (n + 1))), (5, .int (nI 2)), (4, .int (nI 0)), (3, .int (nI (n + 1))), (2, .int (nI 2)), (0, .ref o), (1, .int (nI 0))]) hx hb dX4_close_87 hl (by decide) rfl (fun ls hl => ?_)
  refine lv_aload_n hx hb dX4_close_89 rfl (lv_at hl 5 rfl) ?_
  refine va_get (D := D) (ci := 4) (v := .ref dp) (C := RX4) (T := TX4) (N := 20) hx hb hts hin_X4 hown hK hP 0 rfl rfl 10 (by decide) hw_fieldLink_RX4_7_FlowGridModel_depth_D (fun _ h9 => h9) rfl dX4_close_90 ?_
  refine lv_iload_n hx hb dX4_close_93 rfl (lv_at hl 4 rfl) ?_
  refine lv_iconst (v := nI 1) hx hb dX4_close_94 (by decide) ?_
  refine fz_isubN hx hb (by omega) dX4_close_95 ?_
  refine fz_topn (b := 1) (by omega) ?_
  refine lv_iload hx hb dX4_close_96 (lv_at hl 2 rfl) ?_
  refine fz_isubN hx hb (by omega) dX4_close_98 ?_
  refine fz_topn (b := 1) (by omega) ?_
  refine lv_aload_n hx hb dX4_close_99 rfl (lv_at hl 5 rfl) ?_
  refine va_get (D := D) (ci := 4) (v := .ref dp) (C := RX4) (T := TX4) (N := 20) hx hb hts hin_X4 hown hK hP 0 rfl rfl 10 (by decide) hw_fieldLink_RX4_7_FlowGridModel_depth_D (fun _ h9 => h9) rfl dX4_close_100 ?_
  refine lv_iload hx hb dX4_close_103 (lv_at hl 1 rfl) ?_
  refine fz_dald (i := 2) hx hb hK hP 1 0 rfl rfl (by omega) (by decide) dX4_close_105 ?_
  refine fz_dast (i := 1) hx hb hK hP hD hS 1 0 rfl rfl (by omega) (by decide) dX4_close_106 (fun H locs hP hD hS => ?_)
  have hP : va_P D vwCl [(o, .inr (4, [.int thr, .int (nI n), .int (nI 2), .int (nI lim), .int (nI sol), .int (nI ord), .double tm, .int cst, .int cfl, .int crf, .ref dp, .ref mp, .double v0, .double v1, .double v2, .double v3, .double v4, .double v5, .double v6, .double v7])), (dp, fz_da cD 84 (vf_upd dR 1 (dR 2))), (mp, fz_da cD 84 mR)] H := hP
  have hD : va_D A [(o, .inr (4, [.int thr, .int (nI n), .int (nI 2), .int (nI lim), .int (nI sol), .int (nI ord), .double tm, .int cst, .int cfl, .int crf, .ref dp, .ref mp, .double v0, .double v1, .double v2, .double v3, .double v4, .double v5, .double v6, .double v7])), (dp, fz_da cD 84 (vf_upd dR 1 (dR 2))), (mp, fz_da cD 84 mR)] := hD
  refine lv_aload_n hx hb dX4_close_107 rfl (lv_at hl 5 rfl) ?_
  refine va_get (D := D) (ci := 4) (v := .ref dp) (C := RX4) (T := TX4) (N := 20) hx hb hts hin_X4 hown hK hP 0 rfl rfl 10 (by decide) hw_fieldLink_RX4_7_FlowGridModel_depth_D (fun _ h9 => h9) rfl dX4_close_108 ?_
  refine lv_iload_n hx hb dX4_close_111 rfl (lv_at hl 3 rfl) ?_
  refine lv_iconst (v := nI 1) hx hb dX4_close_112 (by decide) ?_
  refine fz_iaddN hx hb dX4_close_113 ?_
  refine fz_topn (b := n + 2) (by omega) ?_
  refine lv_iload hx hb dX4_close_114 (lv_at hl 2 rfl) ?_
  refine fz_iaddN hx hb dX4_close_116 ?_
  refine fz_topn (b := n + 2) (by omega) ?_
  refine lv_aload_n hx hb dX4_close_117 rfl (lv_at hl 5 rfl) ?_
  refine va_get (D := D) (ci := 4) (v := .ref dp) (C := RX4) (T := TX4) (N := 20) hx hb hts hin_X4 hown hK hP 0 rfl rfl 10 (by decide) hw_fieldLink_RX4_7_FlowGridModel_depth_D (fun _ h9 => h9) rfl dX4_close_118 ?_
  refine lv_iload hx hb dX4_close_121 (lv_at hl 0 rfl) ?_
  refine fz_dald (i := n + 1) hx hb hK hP 1 0 rfl rfl (by omega) (by decide) dX4_close_123 ?_
  rw [fz_upn (by omega)]
  refine fz_dast (i := n + 2) hx hb hK hP hD hS 1 0 rfl rfl (by omega) (by decide) dX4_close_124 (fun H locs hP hD hS => ?_)
  have hP : va_P D vwCl [(o, .inr (4, [.int thr, .int (nI n), .int (nI 2), .int (nI lim), .int (nI sol), .int (nI ord), .double tm, .int cst, .int cfl, .int crf, .ref dp, .ref mp, .double v0, .double v1, .double v2, .double v3, .double v4, .double v5, .double v6, .double v7])), (dp, fz_da cD 84 (vf_upd (vf_upd dR 1 (dR 2)) (n + 2) (dR (n + 1)))), (mp, fz_da cD 84 mR)] H := hP
  have hD : va_D A [(o, .inr (4, [.int thr, .int (nI n), .int (nI 2), .int (nI lim), .int (nI sol), .int (nI ord), .double tm, .int cst, .int cfl, .int crf, .ref dp, .ref mp, .double v0, .double v1, .double v2, .double v3, .double v4, .double v5, .double v6, .double v7])), (dp, fz_da cD 84 (vf_upd (vf_upd dR 1 (dR 2)) (n + 2) (dR (n + 1)))), (mp, fz_da cD 84 mR)] := hD
  refine lv_aload_n hx hb dX4_close_125 rfl (lv_at hl 5 rfl) ?_
  refine va_get (D := D) (ci := 4) (v := .ref mp) (C := RX4) (T := TX4) (N := 20) hx hb hts hin_X4 hown hK hP 0 rfl rfl 11 (by decide) hw_fieldLink_RX4_13_FlowGridModel_momentum_D (fun _ h9 => h9) rfl dX4_close_126 ?_
  refine lv_iload_n hx hb dX4_close_129 rfl (lv_at hl 4 rfl) ?_
  refine lv_iconst (v := nI 1) hx hb dX4_close_130 (by decide) ?_
  refine fz_isubN hx hb (by omega) dX4_close_131 ?_
  refine fz_topn (b := 1) (by omega) ?_
  refine lv_iload hx hb dX4_close_132 (lv_at hl 2 rfl) ?_
  refine fz_isubN hx hb (by omega) dX4_close_134 ?_
  refine fz_topn (b := 1) (by omega) ?_
  refine lv_aload_n hx hb dX4_close_135 rfl (lv_at hl 5 rfl) ?_
  refine va_get (D := D) (ci := 4) (v := .int (nI 2)) (C := RX4) (T := TX4) (N := 20) hx hb hts hin_X4 hown hK hP 0 rfl rfl 2 (by decide) hw_fieldLink_RX4_45_FlowGridModel_ends_I (fun _ h9 => h9) rfl dX4_close_136 ?_
  refine lv_iconst (v := nI 1) hx hb dX4_close_139 (by decide) ?_
  refine fz_icmp_neN (tgt := 154) hx hb (by omega) (by omega) dX4_close_140 (by decide) (fun c140 => ?_) (fun c140 => absurd c140 (by decide))
  refine lv_aload_n hx hb dX4_close_154 rfl (lv_at hl 5 rfl) ?_
  refine va_get (D := D) (ci := 4) (v := .ref mp) (C := RX4) (T := TX4) (N := 20) hx hb hts hin_X4 hown hK hP 0 rfl rfl 11 (by decide) hw_fieldLink_RX4_13_FlowGridModel_momentum_D (fun _ h9 => h9) rfl dX4_close_155 ?_
  refine lv_iload hx hb dX4_close_158 (lv_at hl 1 rfl) ?_
  refine fz_dald (i := 2) hx hb hK hP 2 0 rfl rfl (by omega) (by decide) dX4_close_160 ?_
  refine fz_dast (i := 1) hx hb hK hP hD hS 2 0 rfl rfl (by omega) (by decide) dX4_close_161 (fun H locs hP hD hS => ?_)
  have hP : va_P D vwCl [(o, .inr (4, [.int thr, .int (nI n), .int (nI 2), .int (nI lim), .int (nI sol), .int (nI ord), .double tm, .int cst, .int cfl, .int crf, .ref dp, .ref mp, .double v0, .double v1, .double v2, .double v3, .double v4, .double v5, .double v6, .double v7])), (dp, fz_da cD 84 (vf_upd (vf_upd dR 1 (dR 2)) (n + 2) (dR (n + 1)))), (mp, fz_da cD 84 (vf_upd mR 1 (mR 2)))] H := hP
  have hD : va_D A [(o, .inr (4, [.int thr, .int (nI n), .int (nI 2), .int (nI lim), .int (nI sol), .int (nI ord), .double tm, .int cst, .int cfl, .int crf, .ref dp, .ref mp, .double v0, .double v1, .double v2, .double v3, .double v4, .double v5, .double v6, .double v7])), (dp, fz_da cD 84 (vf_upd (vf_upd dR 1 (dR 2)) (n + 2) (dR (n + 1)))), (mp, fz_da cD 84 (vf_upd mR 1 (mR 2)))] := hD
  refine lv_aload_n hx hb dX4_close_162 rfl (lv_at hl 5 rfl) ?_
  refine va_get (D := D) (ci := 4) (v := .ref mp) (C := RX4) (T := TX4) (N := 20) hx hb hts hin_X4 hown hK hP 0 rfl rfl 11 (by decide) hw_fieldLink_RX4_13_FlowGridModel_momentum_D (fun _ h9 => h9) rfl dX4_close_163 ?_
  refine lv_iload_n hx hb dX4_close_166 rfl (lv_at hl 3 rfl) ?_
  refine lv_iconst (v := nI 1) hx hb dX4_close_167 (by decide) ?_
  refine fz_iaddN hx hb dX4_close_168 ?_
  refine fz_topn (b := n + 2) (by omega) ?_
  refine lv_iload hx hb dX4_close_169 (lv_at hl 2 rfl) ?_
  refine fz_iaddN hx hb dX4_close_171 ?_
  refine fz_topn (b := n + 2) (by omega) ?_
  refine lv_aload_n hx hb dX4_close_172 rfl (lv_at hl 5 rfl) ?_
  refine va_get (D := D) (ci := 4) (v := .int (nI 2)) (C := RX4) (T := TX4) (N := 20) hx hb hts hin_X4 hown hK hP 0 rfl rfl 2 (by decide) hw_fieldLink_RX4_45_FlowGridModel_ends_I (fun _ h9 => h9) rfl dX4_close_173 ?_
  refine lv_iconst (v := nI 1) hx hb dX4_close_176 (by decide) ?_
  refine fz_icmp_neN (tgt := 191) hx hb (by omega) (by omega) dX4_close_177 (by decide) (fun c177 => ?_) (fun c177 => absurd c177 (by decide))
  refine lv_aload_n hx hb dX4_close_191 rfl (lv_at hl 5 rfl) ?_
  refine va_get (D := D) (ci := 4) (v := .ref mp) (C := RX4) (T := TX4) (N := 20) hx hb hts hin_X4 hown hK hP 0 rfl rfl 11 (by decide) hw_fieldLink_RX4_13_FlowGridModel_momentum_D (fun _ h9 => h9) rfl dX4_close_192 ?_
  refine lv_iload hx hb dX4_close_195 (lv_at hl 0 rfl) ?_
  refine fz_dald (i := n + 1) hx hb hK hP 2 0 rfl rfl (by omega) (by decide) dX4_close_197 ?_
  rw [fz_upn (by omega)]
  refine fz_dast (i := n + 2) hx hb hK hP hD hS 2 0 rfl rfl (by omega) (by decide) dX4_close_198 (fun H locs hP hD hS => ?_)
  have hP : va_P D vwCl [(o, .inr (4, [.int thr, .int (nI n), .int (nI 2), .int (nI lim), .int (nI sol), .int (nI ord), .double tm, .int cst, .int cfl, .int crf, .ref dp, .ref mp, .double v0, .double v1, .double v2, .double v3, .double v4, .double v5, .double v6, .double v7])), (dp, fz_da cD 84 (vf_upd (vf_upd dR 1 (dR 2)) (n + 2) (dR (n + 1)))), (mp, fz_da cD 84 (vf_upd (vf_upd mR 1 (mR 2)) (n + 2) (mR (n + 1))))] H := hP
  have hD : va_D A [(o, .inr (4, [.int thr, .int (nI n), .int (nI 2), .int (nI lim), .int (nI sol), .int (nI ord), .double tm, .int cst, .int cfl, .int crf, .ref dp, .ref mp, .double v0, .double v1, .double v2, .double v3, .double v4, .double v5, .double v6, .double v7])), (dp, fz_da cD 84 (vf_upd (vf_upd dR 1 (dR 2)) (n + 2) (dR (n + 1)))), (mp, fz_da cD 84 (vf_upd (vf_upd mR 1 (mR 2)) (n + 2) (mR (n + 1))))] := hD
  refine lv_iinc (v := nI (1)) (lv' := [(4, .int (nI 1)), (6, .int (nI (n + 1))), (5, .int (nI 2)), (3, .int (nI (n + 1))), (2, .int (nI 2)), (0, .ref o), (1, .int (nI 0))]) hx hb dX4_close_199 hl (k := 2) rfl (nI_1 _) (by decide) rfl (fun ls hl => ?_)
  refine lv_goto (tgt := 19) hx hb dX4_close_202 (by decide) ?_
  refine lv_iload hx hb dX4_close_19 (lv_at hl 0 rfl) ?_
  refine lv_iconst (v := nI 2) hx hb dX4_close_21 (by decide) ?_
  refine fz_icmp_geN (tgt := 205) hx hb (by omega) (by omega) dX4_close_22 (by decide) (fun c22 => absurd c22 (by decide)) (fun c22 => ?_)
  refine lv_aload_n hx hb dX4_close_25 rfl (lv_at hl 5 rfl) ?_
  refine va_get (D := D) (ci := 4) (v := .int (nI 2)) (C := RX4) (T := TX4) (N := 20) hx hb hts hin_X4 hown hK hP 0 rfl rfl 2 (by decide) hw_fieldLink_RX4_45_FlowGridModel_ends_I (fun _ h9 => h9) rfl dX4_close_26 ?_
  refine lv_if_ne (tgt := 39) hx hb dX4_close_29 (by decide) (fun c29 => ?_) (fun c29 => absurd c29 (by decide))
  refine lv_aload_n hx hb dX4_close_39 rfl (lv_at hl 5 rfl) ?_
  refine va_get (D := D) (ci := 4) (v := .int (nI 2)) (C := RX4) (T := TX4) (N := 20) hx hb hts hin_X4 hown hK hP 0 rfl rfl 2 (by decide) hw_fieldLink_RX4_45_FlowGridModel_ends_I (fun _ h9 => h9) rfl dX4_close_40 ?_
  refine lv_iconst (v := nI 1) hx hb dX4_close_43 (by decide) ?_
  refine fz_icmp_neN (tgt := 54) hx hb (by omega) (by omega) dX4_close_44 (by decide) (fun c44 => ?_) (fun c44 => absurd c44 (by decide))
  refine lv_iload_n hx hb dX4_close_54 rfl (lv_at hl 4 rfl) ?_
  refine lv_istore (lv' := [(5, .int (nI 2)), (4, .int (nI 1)), (6, .int (nI (n + 1))), (3, .int (nI (n + 1))), (2, .int (nI 2)), (0, .ref o), (1, .int (nI 0))]) hx hb dX4_close_55 hl (by decide) rfl (fun ls hl => ?_)
  refine lv_aload_n hx hb dX4_close_57 rfl (lv_at hl 5 rfl) ?_
  refine va_get (D := D) (ci := 4) (v := .int (nI 2)) (C := RX4) (T := TX4) (N := 20) hx hb hts hin_X4 hown hK hP 0 rfl rfl 2 (by decide) hw_fieldLink_RX4_45_FlowGridModel_ends_I (fun _ h9 => h9) rfl dX4_close_58 ?_
  refine lv_if_ne (tgt := 71) hx hb dX4_close_61 (by decide) (fun c61 => ?_) (fun c61 => absurd c61 (by decide))
  refine lv_aload_n hx hb dX4_close_71 rfl (lv_at hl 5 rfl) ?_
  refine va_get (D := D) (ci := 4) (v := .int (nI 2)) (C := RX4) (T := TX4) (N := 20) hx hb hts hin_X4 hown hK hP 0 rfl rfl 2 (by decide) hw_fieldLink_RX4_45_FlowGridModel_ends_I (fun _ h9 => h9) rfl dX4_close_72 ?_
  refine lv_iconst (v := nI 1) hx hb dX4_close_75 (by decide) ?_
  refine fz_icmp_neN (tgt := 86) hx hb (by omega) (by omega) dX4_close_76 (by decide) (fun c76 => ?_) (fun c76 => absurd c76 (by decide))
  refine lv_iload_n hx hb dX4_close_86 rfl (lv_at hl 3 rfl) ?_
  refine lv_istore (lv' := [(6, .int (nI (n + 1))), (5, .int (nI 2)), (4, .int (nI 1)), (3, .int (nI (n + 1))), (2, .int (nI 2)), (0, .ref o), (1, .int (nI 0))]) hx hb dX4_close_87 hl (by decide) rfl (fun ls hl => ?_)
  refine lv_aload_n hx hb dX4_close_89 rfl (lv_at hl 5 rfl) ?_
  refine va_get (D := D) (ci := 4) (v := .ref dp) (C := RX4) (T := TX4) (N := 20) hx hb hts hin_X4 hown hK hP 0 rfl rfl 10 (by decide) hw_fieldLink_RX4_7_FlowGridModel_depth_D (fun _ h9 => h9) rfl dX4_close_90 ?_
  refine lv_iload_n hx hb dX4_close_93 rfl (lv_at hl 4 rfl) ?_
  refine lv_iconst (v := nI 1) hx hb dX4_close_94 (by decide) ?_
  refine fz_isubN hx hb (by omega) dX4_close_95 ?_
  refine fz_topn (b := 1) (by omega) ?_
  refine lv_iload hx hb dX4_close_96 (lv_at hl 2 rfl) ?_
  refine fz_isubN hx hb (by omega) dX4_close_98 ?_
  refine fz_topn (b := 0) (by omega) ?_
  refine lv_aload_n hx hb dX4_close_99 rfl (lv_at hl 5 rfl) ?_
  refine va_get (D := D) (ci := 4) (v := .ref dp) (C := RX4) (T := TX4) (N := 20) hx hb hts hin_X4 hown hK hP 0 rfl rfl 10 (by decide) hw_fieldLink_RX4_7_FlowGridModel_depth_D (fun _ h9 => h9) rfl dX4_close_100 ?_
  refine lv_iload hx hb dX4_close_103 (lv_at hl 1 rfl) ?_
  refine fz_dald (i := 2) hx hb hK hP 1 0 rfl rfl (by omega) (by decide) dX4_close_105 ?_
  rw [fz_upn (by omega), fz_upn (by omega)]
  refine fz_dast (i := 0) hx hb hK hP hD hS 1 0 rfl rfl (by omega) (by decide) dX4_close_106 (fun H locs hP hD hS => ?_)
  have hP : va_P D vwCl [(o, .inr (4, [.int thr, .int (nI n), .int (nI 2), .int (nI lim), .int (nI sol), .int (nI ord), .double tm, .int cst, .int cfl, .int crf, .ref dp, .ref mp, .double v0, .double v1, .double v2, .double v3, .double v4, .double v5, .double v6, .double v7])), (dp, fz_da cD 84 (vf_upd (vf_upd (vf_upd dR 1 (dR 2)) (n + 2) (dR (n + 1))) 0 (dR 2))), (mp, fz_da cD 84 (vf_upd (vf_upd mR 1 (mR 2)) (n + 2) (mR (n + 1))))] H := hP
  have hD : va_D A [(o, .inr (4, [.int thr, .int (nI n), .int (nI 2), .int (nI lim), .int (nI sol), .int (nI ord), .double tm, .int cst, .int cfl, .int crf, .ref dp, .ref mp, .double v0, .double v1, .double v2, .double v3, .double v4, .double v5, .double v6, .double v7])), (dp, fz_da cD 84 (vf_upd (vf_upd (vf_upd dR 1 (dR 2)) (n + 2) (dR (n + 1))) 0 (dR 2))), (mp, fz_da cD 84 (vf_upd (vf_upd mR 1 (mR 2)) (n + 2) (mR (n + 1))))] := hD
  refine lv_aload_n hx hb dX4_close_107 rfl (lv_at hl 5 rfl) ?_
  refine va_get (D := D) (ci := 4) (v := .ref dp) (C := RX4) (T := TX4) (N := 20) hx hb hts hin_X4 hown hK hP 0 rfl rfl 10 (by decide) hw_fieldLink_RX4_7_FlowGridModel_depth_D (fun _ h9 => h9) rfl dX4_close_108 ?_
  refine lv_iload_n hx hb dX4_close_111 rfl (lv_at hl 3 rfl) ?_
  refine lv_iconst (v := nI 1) hx hb dX4_close_112 (by decide) ?_
  refine fz_iaddN hx hb dX4_close_113 ?_
  refine fz_topn (b := n + 2) (by omega) ?_
  refine lv_iload hx hb dX4_close_114 (lv_at hl 2 rfl) ?_
  refine fz_iaddN hx hb dX4_close_116 ?_
  refine fz_topn (b := n + 3) (by omega) ?_
  refine lv_aload_n hx hb dX4_close_117 rfl (lv_at hl 5 rfl) ?_
  refine va_get (D := D) (ci := 4) (v := .ref dp) (C := RX4) (T := TX4) (N := 20) hx hb hts hin_X4 hown hK hP 0 rfl rfl 10 (by decide) hw_fieldLink_RX4_7_FlowGridModel_depth_D (fun _ h9 => h9) rfl dX4_close_118 ?_
  refine lv_iload hx hb dX4_close_121 (lv_at hl 0 rfl) ?_
  refine fz_dald (i := n + 1) hx hb hK hP 1 0 rfl rfl (by omega) (by decide) dX4_close_123 ?_
  rw [fz_upn (by omega), fz_upn (by omega), fz_upn (by omega)]
  refine fz_dast (i := n + 3) hx hb hK hP hD hS 1 0 rfl rfl (by omega) (by decide) dX4_close_124 (fun H locs hP hD hS => ?_)
  have hP : va_P D vwCl [(o, .inr (4, [.int thr, .int (nI n), .int (nI 2), .int (nI lim), .int (nI sol), .int (nI ord), .double tm, .int cst, .int cfl, .int crf, .ref dp, .ref mp, .double v0, .double v1, .double v2, .double v3, .double v4, .double v5, .double v6, .double v7])), (dp, fz_da cD 84 (vf_upd (vf_upd (vf_upd (vf_upd dR 1 (dR 2)) (n + 2) (dR (n + 1))) 0 (dR 2)) (n + 3) (dR (n + 1)))), (mp, fz_da cD 84 (vf_upd (vf_upd mR 1 (mR 2)) (n + 2) (mR (n + 1))))] H := hP
  have hD : va_D A [(o, .inr (4, [.int thr, .int (nI n), .int (nI 2), .int (nI lim), .int (nI sol), .int (nI ord), .double tm, .int cst, .int cfl, .int crf, .ref dp, .ref mp, .double v0, .double v1, .double v2, .double v3, .double v4, .double v5, .double v6, .double v7])), (dp, fz_da cD 84 (vf_upd (vf_upd (vf_upd (vf_upd dR 1 (dR 2)) (n + 2) (dR (n + 1))) 0 (dR 2)) (n + 3) (dR (n + 1)))), (mp, fz_da cD 84 (vf_upd (vf_upd mR 1 (mR 2)) (n + 2) (mR (n + 1))))] := hD
  refine lv_aload_n hx hb dX4_close_125 rfl (lv_at hl 5 rfl) ?_
  refine va_get (D := D) (ci := 4) (v := .ref mp) (C := RX4) (T := TX4) (N := 20) hx hb hts hin_X4 hown hK hP 0 rfl rfl 11 (by decide) hw_fieldLink_RX4_13_FlowGridModel_momentum_D (fun _ h9 => h9) rfl dX4_close_126 ?_
  refine lv_iload_n hx hb dX4_close_129 rfl (lv_at hl 4 rfl) ?_
  refine lv_iconst (v := nI 1) hx hb dX4_close_130 (by decide) ?_
  refine fz_isubN hx hb (by omega) dX4_close_131 ?_
  refine fz_topn (b := 1) (by omega) ?_
  refine lv_iload hx hb dX4_close_132 (lv_at hl 2 rfl) ?_
  refine fz_isubN hx hb (by omega) dX4_close_134 ?_
  refine fz_topn (b := 0) (by omega) ?_
  refine lv_aload_n hx hb dX4_close_135 rfl (lv_at hl 5 rfl) ?_
  refine va_get (D := D) (ci := 4) (v := .int (nI 2)) (C := RX4) (T := TX4) (N := 20) hx hb hts hin_X4 hown hK hP 0 rfl rfl 2 (by decide) hw_fieldLink_RX4_45_FlowGridModel_ends_I (fun _ h9 => h9) rfl dX4_close_136 ?_
  refine lv_iconst (v := nI 1) hx hb dX4_close_139 (by decide) ?_
  refine fz_icmp_neN (tgt := 154) hx hb (by omega) (by omega) dX4_close_140 (by decide) (fun c140 => ?_) (fun c140 => absurd c140 (by decide))
  refine lv_aload_n hx hb dX4_close_154 rfl (lv_at hl 5 rfl) ?_
  refine va_get (D := D) (ci := 4) (v := .ref mp) (C := RX4) (T := TX4) (N := 20) hx hb hts hin_X4 hown hK hP 0 rfl rfl 11 (by decide) hw_fieldLink_RX4_13_FlowGridModel_momentum_D (fun _ h9 => h9) rfl dX4_close_155 ?_
  refine lv_iload hx hb dX4_close_158 (lv_at hl 1 rfl) ?_
  refine fz_dald (i := 2) hx hb hK hP 2 0 rfl rfl (by omega) (by decide) dX4_close_160 ?_
  rw [fz_upn (by omega), fz_upn (by omega)]
  refine fz_dast (i := 0) hx hb hK hP hD hS 2 0 rfl rfl (by omega) (by decide) dX4_close_161 (fun H locs hP hD hS => ?_)
  have hP : va_P D vwCl [(o, .inr (4, [.int thr, .int (nI n), .int (nI 2), .int (nI lim), .int (nI sol), .int (nI ord), .double tm, .int cst, .int cfl, .int crf, .ref dp, .ref mp, .double v0, .double v1, .double v2, .double v3, .double v4, .double v5, .double v6, .double v7])), (dp, fz_da cD 84 (vf_upd (vf_upd (vf_upd (vf_upd dR 1 (dR 2)) (n + 2) (dR (n + 1))) 0 (dR 2)) (n + 3) (dR (n + 1)))), (mp, fz_da cD 84 (vf_upd (vf_upd (vf_upd mR 1 (mR 2)) (n + 2) (mR (n + 1))) 0 (mR 2)))] H := hP
  have hD : va_D A [(o, .inr (4, [.int thr, .int (nI n), .int (nI 2), .int (nI lim), .int (nI sol), .int (nI ord), .double tm, .int cst, .int cfl, .int crf, .ref dp, .ref mp, .double v0, .double v1, .double v2, .double v3, .double v4, .double v5, .double v6, .double v7])), (dp, fz_da cD 84 (vf_upd (vf_upd (vf_upd (vf_upd dR 1 (dR 2)) (n + 2) (dR (n + 1))) 0 (dR 2)) (n + 3) (dR (n + 1)))), (mp, fz_da cD 84 (vf_upd (vf_upd (vf_upd mR 1 (mR 2)) (n + 2) (mR (n + 1))) 0 (mR 2)))] := hD
  refine lv_aload_n hx hb dX4_close_162 rfl (lv_at hl 5 rfl) ?_
  refine va_get (D := D) (ci := 4) (v := .ref mp) (C := RX4) (T := TX4) (N := 20) hx hb hts hin_X4 hown hK hP 0 rfl rfl 11 (by decide) hw_fieldLink_RX4_13_FlowGridModel_momentum_D (fun _ h9 => h9) rfl dX4_close_163 ?_
  refine lv_iload_n hx hb dX4_close_166 rfl (lv_at hl 3 rfl) ?_
  refine lv_iconst (v := nI 1) hx hb dX4_close_167 (by decide) ?_
  refine fz_iaddN hx hb dX4_close_168 ?_
  refine fz_topn (b := n + 2) (by omega) ?_
  refine lv_iload hx hb dX4_close_169 (lv_at hl 2 rfl) ?_
  refine fz_iaddN hx hb dX4_close_171 ?_
  refine fz_topn (b := n + 3) (by omega) ?_
  refine lv_aload_n hx hb dX4_close_172 rfl (lv_at hl 5 rfl) ?_
  refine va_get (D := D) (ci := 4) (v := .int (nI 2)) (C := RX4) (T := TX4) (N := 20) hx hb hts hin_X4 hown hK hP 0 rfl rfl 2 (by decide) hw_fieldLink_RX4_45_FlowGridModel_ends_I (fun _ h9 => h9) rfl dX4_close_173 ?_
  refine lv_iconst (v := nI 1) hx hb dX4_close_176 (by decide) ?_
  refine fz_icmp_neN (tgt := 191) hx hb (by omega) (by omega) dX4_close_177 (by decide) (fun c177 => ?_) (fun c177 => absurd c177 (by decide))
  refine lv_aload_n hx hb dX4_close_191 rfl (lv_at hl 5 rfl) ?_
  refine va_get (D := D) (ci := 4) (v := .ref mp) (C := RX4) (T := TX4) (N := 20) hx hb hts hin_X4 hown hK hP 0 rfl rfl 11 (by decide) hw_fieldLink_RX4_13_FlowGridModel_momentum_D (fun _ h9 => h9) rfl dX4_close_192 ?_
  refine lv_iload hx hb dX4_close_195 (lv_at hl 0 rfl) ?_
  refine fz_dald (i := n + 1) hx hb hK hP 2 0 rfl rfl (by omega) (by decide) dX4_close_197 ?_
  rw [fz_upn (by omega), fz_upn (by omega), fz_upn (by omega)]
  refine fz_dast (i := n + 3) hx hb hK hP hD hS 2 0 rfl rfl (by omega) (by decide) dX4_close_198 (fun H locs hP hD hS => ?_)
  have hP : va_P D vwCl [(o, .inr (4, [.int thr, .int (nI n), .int (nI 2), .int (nI lim), .int (nI sol), .int (nI ord), .double tm, .int cst, .int cfl, .int crf, .ref dp, .ref mp, .double v0, .double v1, .double v2, .double v3, .double v4, .double v5, .double v6, .double v7])), (dp, fz_da cD 84 (vf_upd (vf_upd (vf_upd (vf_upd dR 1 (dR 2)) (n + 2) (dR (n + 1))) 0 (dR 2)) (n + 3) (dR (n + 1)))), (mp, fz_da cD 84 (vf_upd (vf_upd (vf_upd (vf_upd mR 1 (mR 2)) (n + 2) (mR (n + 1))) 0 (mR 2)) (n + 3) (mR (n + 1))))] H := hP
  have hD : va_D A [(o, .inr (4, [.int thr, .int (nI n), .int (nI 2), .int (nI lim), .int (nI sol), .int (nI ord), .double tm, .int cst, .int cfl, .int crf, .ref dp, .ref mp, .double v0, .double v1, .double v2, .double v3, .double v4, .double v5, .double v6, .double v7])), (dp, fz_da cD 84 (vf_upd (vf_upd (vf_upd (vf_upd dR 1 (dR 2)) (n + 2) (dR (n + 1))) 0 (dR 2)) (n + 3) (dR (n + 1)))), (mp, fz_da cD 84 (vf_upd (vf_upd (vf_upd (vf_upd mR 1 (mR 2)) (n + 2) (mR (n + 1))) 0 (mR 2)) (n + 3) (mR (n + 1))))] := hD
  refine lv_iinc (v := nI (2)) (lv' := [(4, .int (nI 2)), (6, .int (nI (n + 1))), (5, .int (nI 2)), (3, .int (nI (n + 1))), (2, .int (nI 2)), (0, .ref o), (1, .int (nI 0))]) hx hb dX4_close_199 hl (k := 2) rfl (nI_1 _) (by decide) rfl (fun ls hl => ?_)
  refine lv_goto (tgt := 19) hx hb dX4_close_202 (by decide) ?_
  refine lv_iload hx hb dX4_close_19 (lv_at hl 0 rfl) ?_
  refine lv_iconst (v := nI 2) hx hb dX4_close_21 (by decide) ?_
  refine fz_icmp_geN (tgt := 205) hx hb (by omega) (by omega) dX4_close_22 (by decide) (fun c22 => ?_) (fun c22 => absurd c22 (by decide))
  obtain ⟨hP, hD⟩ := fz_swapf (a := dp) (cD := cD) (n := 84) (g := fz_put 0 dR (fz_ends 2 false n (fz_row dR 0))) 1 rfl (fun i _ => fz_clq 0 n hn4 hn dR (fz_ends 2 false n (fz_row dR 0)) _ _ _ _ (by simp [fz_ends, fz_row]) (by simp [fz_ends, fz_row]) (by simp [fz_ends, fz_row]) (by simp [fz_ends, fz_row]) (fun q h1 h0 h2 h3 => by simp [fz_ends, fz_row, h1, h0, h2, h3]) i) hP hD
  have hP : va_P D vwCl [(o, .inr (4, [.int thr, .int (nI n), .int (nI 2), .int (nI lim), .int (nI sol), .int (nI ord), .double tm, .int cst, .int cfl, .int crf, .ref dp, .ref mp, .double v0, .double v1, .double v2, .double v3, .double v4, .double v5, .double v6, .double v7])), (dp, fz_da cD 84 (fz_put 0 dR (fz_ends 2 false n (fz_row dR 0)))), (mp, fz_da cD 84 (vf_upd (vf_upd (vf_upd (vf_upd mR 1 (mR 2)) (n + 2) (mR (n + 1))) 0 (mR 2)) (n + 3) (mR (n + 1))))] H := hP
  have hD : va_D A [(o, .inr (4, [.int thr, .int (nI n), .int (nI 2), .int (nI lim), .int (nI sol), .int (nI ord), .double tm, .int cst, .int cfl, .int crf, .ref dp, .ref mp, .double v0, .double v1, .double v2, .double v3, .double v4, .double v5, .double v6, .double v7])), (dp, fz_da cD 84 (fz_put 0 dR (fz_ends 2 false n (fz_row dR 0)))), (mp, fz_da cD 84 (vf_upd (vf_upd (vf_upd (vf_upd mR 1 (mR 2)) (n + 2) (mR (n + 1))) 0 (mR 2)) (n + 3) (mR (n + 1))))] := hD
  obtain ⟨hP, hD⟩ := fz_swapf (a := mp) (cD := cD) (n := 84) (g := fz_put 0 mR (fz_ends 2 true n (fz_row mR 0))) 2 rfl (fun i _ => fz_clq 0 n hn4 hn mR (fz_ends 2 true n (fz_row mR 0)) _ _ _ _ (by simp [fz_ends, fz_row]) (by simp [fz_ends, fz_row]) (by simp [fz_ends, fz_row]) (by simp [fz_ends, fz_row]) (fun q h1 h0 h2 h3 => by simp [fz_ends, fz_row, h1, h0, h2, h3]) i) hP hD
  have hP : va_P D vwCl [(o, .inr (4, [.int thr, .int (nI n), .int (nI 2), .int (nI lim), .int (nI sol), .int (nI ord), .double tm, .int cst, .int cfl, .int crf, .ref dp, .ref mp, .double v0, .double v1, .double v2, .double v3, .double v4, .double v5, .double v6, .double v7])), (dp, fz_da cD 84 (fz_put 0 dR (fz_ends 2 false n (fz_row dR 0)))), (mp, fz_da cD 84 (fz_put 0 mR (fz_ends 2 true n (fz_row mR 0))))] H := hP
  have hD : va_D A [(o, .inr (4, [.int thr, .int (nI n), .int (nI 2), .int (nI lim), .int (nI sol), .int (nI ord), .double tm, .int cst, .int cfl, .int crf, .ref dp, .ref mp, .double v0, .double v1, .double v2, .double v3, .double v4, .double v5, .double v6, .double v7])), (dp, fz_da cD 84 (fz_put 0 dR (fz_ends 2 false n (fz_row dR 0)))), (mp, fz_da cD 84 (fz_put 0 mR (fz_ends 2 true n (fz_row mR 0))))] := hD
  exact fz_vret hx hb hr hlocks (rfl) hP hK hD hS dX4_close_205

theorem c_X4_close0 (l : Launch) (D : va_G) (cD : ClassId) (o dp mp n kd lim sol ord : Nat) (dR mR : Nat → UInt64) (thr : Int32) (tm v0 v1 v2 v3 v4 v5 v6 v7 : UInt64) (cst cfl crf : Int32) (hkd : kd ≤ 2) (hn4 : 4 ≤ n) (hn : n ≤ 24) : fz_C l D [(cD, .double)] yX4_close wsX4_close ({ frames := 0, cells := 0, slots := 0, locals := 0 }) [.ref o, .int (nI 0)] [(o, .inr (4, [.int thr, .int (nI n), .int (nI kd), .int (nI lim), .int (nI sol), .int (nI ord), .double tm, .int cst, .int cfl, .int crf, .ref dp, .ref mp, .double v0, .double v1, .double v2, .double v3, .double v4, .double v5, .double v6, .double v7])), (dp, fz_da cD 84 dR), (mp, fz_da cD 84 mR)] [(o, .inr (4, [.int thr, .int (nI n), .int (nI kd), .int (nI lim), .int (nI sol), .int (nI ord), .double tm, .int cst, .int cfl, .int crf, .ref dp, .ref mp, .double v0, .double v1, .double v2, .double v3, .double v4, .double v5, .double v6, .double v7])), (dp, fz_da cD 84 (fz_put 0 dR (fz_ends kd false n (fz_row dR 0)))), (mp, fz_da cD 84 (fz_put 0 mR (fz_ends kd true n (fz_row mR 0))))] none := by
  rcases (show kd = 0 ∨ kd = 1 ∨ kd = 2 by omega) with rfl | rfl | rfl
  · exact c_X4_close00 l D cD o dp mp n lim sol ord dR mR thr tm v0 v1 v2 v3 v4 v5 v6 v7 cst cfl crf hn4 hn
  · exact c_X4_close01 l D cD o dp mp n lim sol ord dR mR thr tm v0 v1 v2 v3 v4 v5 v6 v7 cst cfl crf hn4 hn
  · exact c_X4_close02 l D cD o dp mp n lim sol ord dR mR thr tm v0 v1 v2 v3 v4 v5 v6 v7 cst cfl crf hn4 hn

set_option maxHeartbeats 4000000 in
set_option maxRecDepth 100000 in
theorem c_X4_close10 (l : Launch) (D : va_G) (cD : ClassId) (o dp mp n lim sol ord : Nat) (dR mR : Nat → UInt64) (thr : Int32) (tm v0 v1 v2 v3 v4 v5 v6 v7 : UInt64) (cst cfl crf : Int32) (hn4 : 4 ≤ n) (hn : n ≤ 24) : fz_C l D [(cD, .double)] yX4_close wsX4_close ({ frames := 0, cells := 0, slots := 0, locals := 0 }) [.ref o, .int (nI 1)] [(o, .inr (4, [.int thr, .int (nI n), .int (nI 0), .int (nI lim), .int (nI sol), .int (nI ord), .double tm, .int cst, .int cfl, .int crf, .ref dp, .ref mp, .double v0, .double v1, .double v2, .double v3, .double v4, .double v5, .double v6, .double v7])), (dp, fz_da cD 84 dR), (mp, fz_da cD 84 mR)] [(o, .inr (4, [.int thr, .int (nI n), .int (nI 0), .int (nI lim), .int (nI sol), .int (nI ord), .double tm, .int cst, .int cfl, .int crf, .ref dp, .ref mp, .double v0, .double v1, .double v2, .double v3, .double v4, .double v5, .double v6, .double v7])), (dp, fz_da cD 84 (fz_put 28 dR (fz_ends 0 false n (fz_row dR 28)))), (mp, fz_da cD 84 (fz_put 28 mR (fz_ends 0 true n (fz_row mR 28))))] (none) := by
  refine fz_start (cc := cX4_close) (maxL := 7) (ret := none) (by decide) rfl (Nat.le_of_ble_eq_true rfl) ?_
  intro p e s m below meth c A hx hb hr hlocks hml hown hts hK hA hNW H locs hP hD hS ls hl
  have hl : lv_has ls 7 [(0, .ref o), (1, .int (nI 1))] := hl
  have hown : s.vm.findClass RX4 = some m.cls := hown
  have hw_fieldLink_RX4_30_FlowGridModel_n_I := hts (.fieldLink RX4 30 "FlowGridModel" "n" "I") (by decide +kernel)
  have hin_X4 : ∀ w ∈ u_ws RX4 TX4 20, w ∈ wsX4_close := by decide +kernel
  have hw_fieldLink_RX4_45_FlowGridModel_ends_I := hts (.fieldLink RX4 45 "FlowGridModel" "ends" "I") (by decide +kernel)
  have hw_fieldLink_RX4_7_FlowGridModel_depth_D := hts (.fieldLink RX4 7 "FlowGridModel" "depth" "[D") (by decide +kernel)
  have hw_fieldLink_RX4_13_FlowGridModel_momentum_D := hts (.fieldLink RX4 13 "FlowGridModel" "momentum" "[D") (by decide +kernel)
  refine lv_bipush (v := nI 28) hx hb dX4_close_0 (by decide) ?_
  refine lv_iload_n hx hb dX4_close_2 rfl (lv_at hl 1 rfl) ?_
  refine fz_imulN hx hb dX4_close_3 ?_
  refine fz_topn (b := 28) (by omega) ?_
  refine lv_iconst (v := nI 2) hx hb dX4_close_4 (by decide) ?_
  refine fz_iaddN hx hb dX4_close_5 ?_
  refine fz_topn (b := 30) (by omega) ?_
  refine lv_istore_n (lv' := [(2, .int (nI 30)), (0, .ref o), (1, .int (nI 1))]) hx hb dX4_close_6 rfl hl (by decide) rfl (fun ls hl => ?_)
  refine lv_iload_n hx hb dX4_close_7 rfl (lv_at hl 0 rfl) ?_
  refine lv_aload_n hx hb dX4_close_8 rfl (lv_at hl 1 rfl) ?_
  refine va_get (D := D) (ci := 4) (v := .int (nI n)) (C := RX4) (T := TX4) (N := 20) hx hb hts hin_X4 hown hK hP 0 rfl rfl 1 (by decide) hw_fieldLink_RX4_30_FlowGridModel_n_I (fun _ h9 => h9) rfl dX4_close_9 ?_
  refine fz_iaddN hx hb dX4_close_12 ?_
  refine fz_topn (b := n + 30) (by omega) ?_
  refine lv_iconst (v := nI 1) hx hb dX4_close_13 (by decide) ?_
  refine fz_isubN hx hb (by omega) dX4_close_14 ?_
  refine fz_topn (b := n + 29) (by omega) ?_
  refine lv_istore_n (lv' := [(3, .int (nI (n + 29))), (2, .int (nI 30)), (0, .ref o), (1, .int (nI 1))]) hx hb dX4_close_15 rfl hl (by decide) rfl (fun ls hl => ?_)
  refine lv_iconst (v := nI 0) hx hb dX4_close_16 (by decide) ?_
  refine lv_istore (lv' := [(4, .int (nI 0)), (3, .int (nI (n + 29))), (2, .int (nI 30)), (0, .ref o), (1, .int (nI 1))]) hx hb dX4_close_17 hl (by decide) rfl (fun ls hl => ?_)
  refine lv_iload hx hb dX4_close_19 (lv_at hl 0 rfl) ?_
  refine lv_iconst (v := nI 2) hx hb dX4_close_21 (by decide) ?_
  refine fz_icmp_geN (tgt := 205) hx hb (by omega) (by omega) dX4_close_22 (by decide) (fun c22 => absurd c22 (by decide)) (fun c22 => ?_)
  refine lv_aload_n hx hb dX4_close_25 rfl (lv_at hl 3 rfl) ?_
  refine va_get (D := D) (ci := 4) (v := .int (nI 0)) (C := RX4) (T := TX4) (N := 20) hx hb hts hin_X4 hown hK hP 0 rfl rfl 2 (by decide) hw_fieldLink_RX4_45_FlowGridModel_ends_I (fun _ h9 => h9) rfl dX4_close_26 ?_
  refine lv_if_ne (tgt := 39) hx hb dX4_close_29 (by decide) (fun c29 => absurd c29 (by decide)) (fun c29 => ?_)
  refine lv_iload_n hx hb dX4_close_32 rfl (lv_at hl 1 rfl) ?_
  refine lv_iload hx hb dX4_close_33 (lv_at hl 0 rfl) ?_
  refine fz_isubN hx hb (by omega) dX4_close_35 ?_
  refine fz_topn (b := n + 29) (by omega) ?_
  refine lv_goto (tgt := 55) hx hb dX4_close_36 (by decide) ?_
  refine lv_istore (lv' := [(5, .int (nI (n + 29))), (4, .int (nI 0)), (3, .int (nI (n + 29))), (2, .int (nI 30)), (0, .ref o), (1, .int (nI 1))]) hx hb dX4_close_55 hl (by decide) rfl (fun ls hl => ?_)
  refine lv_aload_n hx hb dX4_close_57 rfl (lv_at hl 4 rfl) ?_
  refine va_get (D := D) (ci := 4) (v := .int (nI 0)) (C := RX4) (T := TX4) (N := 20) hx hb hts hin_X4 hown hK hP 0 rfl rfl 2 (by decide) hw_fieldLink_RX4_45_FlowGridModel_ends_I (fun _ h9 => h9) rfl dX4_close_58 ?_
  refine lv_if_ne (tgt := 71) hx hb dX4_close_61 (by decide) (fun c61 => absurd c61 (by decide)) (fun c61 => ?_)
  refine lv_iload_n hx hb dX4_close_64 rfl (lv_at hl 3 rfl) ?_
  refine lv_iload hx hb dX4_close_65 (lv_at hl 1 rfl) ?_
  refine fz_iaddN hx hb dX4_close_67 ?_
  refine fz_topn (b := 30) (by omega) ?_
  refine lv_goto (tgt := 87) hx hb dX4_close_68 (by decide) ?_
  refine lv_istore (lv' := [(6, .int (nI 30)), (5, .int (nI (n + 29))), (4, .int (nI 0)), (3, .int (nI (n + 29))), (2, .int (nI 30)), (0, .ref o), (1, .int (nI 1))]) hx hb dX4_close_87 hl (by decide) rfl (fun ls hl => ?_)
  refine lv_aload_n hx hb dX4_close_89 rfl (lv_at hl 5 rfl) ?_
  refine va_get (D := D) (ci := 4) (v := .ref dp) (C := RX4) (T := TX4) (N := 20) hx hb hts hin_X4 hown hK hP 0 rfl rfl 10 (by decide) hw_fieldLink_RX4_7_FlowGridModel_depth_D (fun _ h9 => h9) rfl dX4_close_90 ?_
  refine lv_iload_n hx hb dX4_close_93 rfl (lv_at hl 4 rfl) ?_
  refine lv_iconst (v := nI 1) hx hb dX4_close_94 (by decide) ?_
  refine fz_isubN hx hb (by omega) dX4_close_95 ?_
  refine fz_topn (b := 29) (by omega) ?_
  refine lv_iload hx hb dX4_close_96 (lv_at hl 2 rfl) ?_
  refine fz_isubN hx hb (by omega) dX4_close_98 ?_
  refine fz_topn (b := 29) (by omega) ?_
  refine lv_aload_n hx hb dX4_close_99 rfl (lv_at hl 5 rfl) ?_
  refine va_get (D := D) (ci := 4) (v := .ref dp) (C := RX4) (T := TX4) (N := 20) hx hb hts hin_X4 hown hK hP 0 rfl rfl 10 (by decide) hw_fieldLink_RX4_7_FlowGridModel_depth_D (fun _ h9 => h9) rfl dX4_close_100 ?_
  refine lv_iload hx hb dX4_close_103 (lv_at hl 1 rfl) ?_
  refine fz_dald (i := n + 29) hx hb hK hP 1 0 rfl rfl (by omega) (by decide) dX4_close_105 ?_
  refine fz_dast (i := 29) hx hb hK hP hD hS 1 0 rfl rfl (by omega) (by decide) dX4_close_106 (fun H locs hP hD hS => ?_)
  have hP : va_P D vwCl [(o, .inr (4, [.int thr, .int (nI n), .int (nI 0), .int (nI lim), .int (nI sol), .int (nI ord), .double tm, .int cst, .int cfl, .int crf, .ref dp, .ref mp, .double v0, .double v1, .double v2, .double v3, .double v4, .double v5, .double v6, .double v7])), (dp, fz_da cD 84 (vf_upd dR 29 (dR (n + 29)))), (mp, fz_da cD 84 mR)] H := hP
  have hD : va_D A [(o, .inr (4, [.int thr, .int (nI n), .int (nI 0), .int (nI lim), .int (nI sol), .int (nI ord), .double tm, .int cst, .int cfl, .int crf, .ref dp, .ref mp, .double v0, .double v1, .double v2, .double v3, .double v4, .double v5, .double v6, .double v7])), (dp, fz_da cD 84 (vf_upd dR 29 (dR (n + 29)))), (mp, fz_da cD 84 mR)] := hD
  refine lv_aload_n hx hb dX4_close_107 rfl (lv_at hl 5 rfl) ?_
  refine va_get (D := D) (ci := 4) (v := .ref dp) (C := RX4) (T := TX4) (N := 20) hx hb hts hin_X4 hown hK hP 0 rfl rfl 10 (by decide) hw_fieldLink_RX4_7_FlowGridModel_depth_D (fun _ h9 => h9) rfl dX4_close_108 ?_
  refine lv_iload_n hx hb dX4_close_111 rfl (lv_at hl 3 rfl) ?_
  refine lv_iconst (v := nI 1) hx hb dX4_close_112 (by decide) ?_
  refine fz_iaddN hx hb dX4_close_113 ?_
  refine fz_topn (b := n + 30) (by omega) ?_
  refine lv_iload hx hb dX4_close_114 (lv_at hl 2 rfl) ?_
  refine fz_iaddN hx hb dX4_close_116 ?_
  refine fz_topn (b := n + 30) (by omega) ?_
  refine lv_aload_n hx hb dX4_close_117 rfl (lv_at hl 5 rfl) ?_
  refine va_get (D := D) (ci := 4) (v := .ref dp) (C := RX4) (T := TX4) (N := 20) hx hb hts hin_X4 hown hK hP 0 rfl rfl 10 (by decide) hw_fieldLink_RX4_7_FlowGridModel_depth_D (fun _ h9 => h9) rfl dX4_close_118 ?_
  refine lv_iload hx hb dX4_close_121 (lv_at hl 0 rfl) ?_
  refine fz_dald (i := 30) hx hb hK hP 1 0 rfl rfl (by omega) (by decide) dX4_close_123 ?_
  rw [fz_upn (by omega)]
  refine fz_dast (i := n + 30) hx hb hK hP hD hS 1 0 rfl rfl (by omega) (by decide) dX4_close_124 (fun H locs hP hD hS => ?_)
  have hP : va_P D vwCl [(o, .inr (4, [.int thr, .int (nI n), .int (nI 0), .int (nI lim), .int (nI sol), .int (nI ord), .double tm, .int cst, .int cfl, .int crf, .ref dp, .ref mp, .double v0, .double v1, .double v2, .double v3, .double v4, .double v5, .double v6, .double v7])), (dp, fz_da cD 84 (vf_upd (vf_upd dR 29 (dR (n + 29))) (n + 30) (dR 30))), (mp, fz_da cD 84 mR)] H := hP
  have hD : va_D A [(o, .inr (4, [.int thr, .int (nI n), .int (nI 0), .int (nI lim), .int (nI sol), .int (nI ord), .double tm, .int cst, .int cfl, .int crf, .ref dp, .ref mp, .double v0, .double v1, .double v2, .double v3, .double v4, .double v5, .double v6, .double v7])), (dp, fz_da cD 84 (vf_upd (vf_upd dR 29 (dR (n + 29))) (n + 30) (dR 30))), (mp, fz_da cD 84 mR)] := hD
  refine lv_aload_n hx hb dX4_close_125 rfl (lv_at hl 5 rfl) ?_
  refine va_get (D := D) (ci := 4) (v := .ref mp) (C := RX4) (T := TX4) (N := 20) hx hb hts hin_X4 hown hK hP 0 rfl rfl 11 (by decide) hw_fieldLink_RX4_13_FlowGridModel_momentum_D (fun _ h9 => h9) rfl dX4_close_126 ?_
  refine lv_iload_n hx hb dX4_close_129 rfl (lv_at hl 4 rfl) ?_
  refine lv_iconst (v := nI 1) hx hb dX4_close_130 (by decide) ?_
  refine fz_isubN hx hb (by omega) dX4_close_131 ?_
  refine fz_topn (b := 29) (by omega) ?_
  refine lv_iload hx hb dX4_close_132 (lv_at hl 2 rfl) ?_
  refine fz_isubN hx hb (by omega) dX4_close_134 ?_
  refine fz_topn (b := 29) (by omega) ?_
  refine lv_aload_n hx hb dX4_close_135 rfl (lv_at hl 5 rfl) ?_
  refine va_get (D := D) (ci := 4) (v := .int (nI 0)) (C := RX4) (T := TX4) (N := 20) hx hb hts hin_X4 hown hK hP 0 rfl rfl 2 (by decide) hw_fieldLink_RX4_45_FlowGridModel_ends_I (fun _ h9 => h9) rfl dX4_close_136 ?_
  refine lv_iconst (v := nI 1) hx hb dX4_close_139 (by decide) ?_
  refine fz_icmp_neN (tgt := 154) hx hb (by omega) (by omega) dX4_close_140 (by decide) (fun c140 => ?_) (fun c140 => absurd c140 (by decide))
  refine lv_aload_n hx hb dX4_close_154 rfl (lv_at hl 5 rfl) ?_
  refine va_get (D := D) (ci := 4) (v := .ref mp) (C := RX4) (T := TX4) (N := 20) hx hb hts hin_X4 hown hK hP 0 rfl rfl 11 (by decide) hw_fieldLink_RX4_13_FlowGridModel_momentum_D (fun _ h9 => h9) rfl dX4_close_155 ?_
  refine lv_iload hx hb dX4_close_158 (lv_at hl 1 rfl) ?_
  refine fz_dald (i := n + 29) hx hb hK hP 2 0 rfl rfl (by omega) (by decide) dX4_close_160 ?_
  refine fz_dast (i := 29) hx hb hK hP hD hS 2 0 rfl rfl (by omega) (by decide) dX4_close_161 (fun H locs hP hD hS => ?_)
  have hP : va_P D vwCl [(o, .inr (4, [.int thr, .int (nI n), .int (nI 0), .int (nI lim), .int (nI sol), .int (nI ord), .double tm, .int cst, .int cfl, .int crf, .ref dp, .ref mp, .double v0, .double v1, .double v2, .double v3, .double v4, .double v5, .double v6, .double v7])), (dp, fz_da cD 84 (vf_upd (vf_upd dR 29 (dR (n + 29))) (n + 30) (dR 30))), (mp, fz_da cD 84 (vf_upd mR 29 (mR (n + 29))))] H := hP
  have hD : va_D A [(o, .inr (4, [.int thr, .int (nI n), .int (nI 0), .int (nI lim), .int (nI sol), .int (nI ord), .double tm, .int cst, .int cfl, .int crf, .ref dp, .ref mp, .double v0, .double v1, .double v2, .double v3, .double v4, .double v5, .double v6, .double v7])), (dp, fz_da cD 84 (vf_upd (vf_upd dR 29 (dR (n + 29))) (n + 30) (dR 30))), (mp, fz_da cD 84 (vf_upd mR 29 (mR (n + 29))))] := hD
  refine lv_aload_n hx hb dX4_close_162 rfl (lv_at hl 5 rfl) ?_
  refine va_get (D := D) (ci := 4) (v := .ref mp) (C := RX4) (T := TX4) (N := 20) hx hb hts hin_X4 hown hK hP 0 rfl rfl 11 (by decide) hw_fieldLink_RX4_13_FlowGridModel_momentum_D (fun _ h9 => h9) rfl dX4_close_163 ?_
  refine lv_iload_n hx hb dX4_close_166 rfl (lv_at hl 3 rfl) ?_
  refine lv_iconst (v := nI 1) hx hb dX4_close_167 (by decide) ?_
  refine fz_iaddN hx hb dX4_close_168 ?_
  refine fz_topn (b := n + 30) (by omega) ?_
  refine lv_iload hx hb dX4_close_169 (lv_at hl 2 rfl) ?_
  refine fz_iaddN hx hb dX4_close_171 ?_
  refine fz_topn (b := n + 30) (by omega) ?_
  refine lv_aload_n hx hb dX4_close_172 rfl (lv_at hl 5 rfl) ?_
  refine va_get (D := D) (ci := 4) (v := .int (nI 0)) (C := RX4) (T := TX4) (N := 20) hx hb hts hin_X4 hown hK hP 0 rfl rfl 2 (by decide) hw_fieldLink_RX4_45_FlowGridModel_ends_I (fun _ h9 => h9) rfl dX4_close_173 ?_
  refine lv_iconst (v := nI 1) hx hb dX4_close_176 (by decide) ?_
  refine fz_icmp_neN (tgt := 191) hx hb (by omega) (by omega) dX4_close_177 (by decide) (fun c177 => ?_) (fun c177 => absurd c177 (by decide))
  refine lv_aload_n hx hb dX4_close_191 rfl (lv_at hl 5 rfl) ?_
  refine va_get (D := D) (ci := 4) (v := .ref mp) (C := RX4) (T := TX4) (N := 20) hx hb hts hin_X4 hown hK hP 0 rfl rfl 11 (by decide) hw_fieldLink_RX4_13_FlowGridModel_momentum_D (fun _ h9 => h9) rfl dX4_close_192 ?_
  refine lv_iload hx hb dX4_close_195 (lv_at hl 0 rfl) ?_
  refine fz_dald (i := 30) hx hb hK hP 2 0 rfl rfl (by omega) (by decide) dX4_close_197 ?_
  rw [fz_upn (by omega)]
  refine fz_dast (i := n + 30) hx hb hK hP hD hS 2 0 rfl rfl (by omega) (by decide) dX4_close_198 (fun H locs hP hD hS => ?_)
  have hP : va_P D vwCl [(o, .inr (4, [.int thr, .int (nI n), .int (nI 0), .int (nI lim), .int (nI sol), .int (nI ord), .double tm, .int cst, .int cfl, .int crf, .ref dp, .ref mp, .double v0, .double v1, .double v2, .double v3, .double v4, .double v5, .double v6, .double v7])), (dp, fz_da cD 84 (vf_upd (vf_upd dR 29 (dR (n + 29))) (n + 30) (dR 30))), (mp, fz_da cD 84 (vf_upd (vf_upd mR 29 (mR (n + 29))) (n + 30) (mR 30)))] H := hP
  have hD : va_D A [(o, .inr (4, [.int thr, .int (nI n), .int (nI 0), .int (nI lim), .int (nI sol), .int (nI ord), .double tm, .int cst, .int cfl, .int crf, .ref dp, .ref mp, .double v0, .double v1, .double v2, .double v3, .double v4, .double v5, .double v6, .double v7])), (dp, fz_da cD 84 (vf_upd (vf_upd dR 29 (dR (n + 29))) (n + 30) (dR 30))), (mp, fz_da cD 84 (vf_upd (vf_upd mR 29 (mR (n + 29))) (n + 30) (mR 30)))] := hD
  refine lv_iinc (v := nI (1)) (lv' := [(4, .int (nI 1)), (6, .int (nI 30)), (5, .int (nI (n + 29))), (3, .int (nI (n + 29))), (2, .int (nI 30)), (0, .ref o), (1, .int (nI 1))]) hx hb dX4_close_199 hl (k := 2) rfl (nI_1 _) (by decide) rfl (fun ls hl => ?_)
  refine lv_goto (tgt := 19) hx hb dX4_close_202 (by decide) ?_
  refine lv_iload hx hb dX4_close_19 (lv_at hl 0 rfl) ?_
  refine lv_iconst (v := nI 2) hx hb dX4_close_21 (by decide) ?_
  refine fz_icmp_geN (tgt := 205) hx hb (by omega) (by omega) dX4_close_22 (by decide) (fun c22 => absurd c22 (by decide)) (fun c22 => ?_)
  refine lv_aload_n hx hb dX4_close_25 rfl (lv_at hl 5 rfl) ?_
  refine va_get (D := D) (ci := 4) (v := .int (nI 0)) (C := RX4) (T := TX4) (N := 20) hx hb hts hin_X4 hown hK hP 0 rfl rfl 2 (by decide) hw_fieldLink_RX4_45_FlowGridModel_ends_I (fun _ h9 => h9) rfl dX4_close_26 ?_
  refine lv_if_ne (tgt := 39) hx hb dX4_close_29 (by decide) (fun c29 => absurd c29 (by decide)) (fun c29 => ?_)
  refine lv_iload_n hx hb dX4_close_32 rfl (lv_at hl 3 rfl) ?_
  refine lv_iload hx hb dX4_close_33 (lv_at hl 0 rfl) ?_
  refine fz_isubN hx hb (by omega) dX4_close_35 ?_
  refine fz_topn (b := n + 28) (by omega) ?_
  refine lv_goto (tgt := 55) hx hb dX4_close_36 (by decide) ?_
  refine lv_istore (lv' := [(5, .int (nI (n + 28))), (4, .int (nI 1)), (6, .int (nI 30)), (3, .int (nI (n + 29))), (2, .int (nI 30)), (0, .ref o), (1, .int (nI 1))]) hx hb dX4_close_55 hl (by decide) rfl (fun ls hl => ?_)
  refine lv_aload_n hx hb dX4_close_57 rfl (lv_at hl 5 rfl) ?_
  refine va_get (D := D) (ci := 4) (v := .int (nI 0)) (C := RX4) (T := TX4) (N := 20) hx hb hts hin_X4 hown hK hP 0 rfl rfl 2 (by decide) hw_fieldLink_RX4_45_FlowGridModel_ends_I (fun _ h9 => h9) rfl dX4_close_58 ?_
  refine lv_if_ne (tgt := 71) hx hb dX4_close_61 (by decide) (fun c61 => absurd c61 (by decide)) (fun c61 => ?_)
  refine lv_iload_n hx hb dX4_close_64 rfl (lv_at hl 4 rfl) ?_
  refine lv_iload hx hb dX4_close_65 (lv_at hl 1 rfl) ?_
  refine fz_iaddN hx hb dX4_close_67 ?_
  refine fz_topn (b := 31) (by omega) ?_
  refine lv_goto (tgt := 87) hx hb dX4_close_68 (by decide) ?_
  refine lv_istore (lv' := [(6, .int (nI 31)), (5, .int (nI (n + 28))), (4, .int (nI 1)), (3, .int (nI (n + 29))), (2, .int (nI 30)), (0, .ref o), (1, .int (nI 1))]) hx hb dX4_close_87 hl (by decide) rfl (fun ls hl => ?_)
  refine lv_aload_n hx hb dX4_close_89 rfl (lv_at hl 5 rfl) ?_
  refine va_get (D := D) (ci := 4) (v := .ref dp) (C := RX4) (T := TX4) (N := 20) hx hb hts hin_X4 hown hK hP 0 rfl rfl 10 (by decide) hw_fieldLink_RX4_7_FlowGridModel_depth_D (fun _ h9 => h9) rfl dX4_close_90 ?_
  refine lv_iload_n hx hb dX4_close_93 rfl (lv_at hl 4 rfl) ?_
  refine lv_iconst (v := nI 1) hx hb dX4_close_94 (by decide) ?_
  refine fz_isubN hx hb (by omega) dX4_close_95 ?_
  refine fz_topn (b := 29) (by omega) ?_
  refine lv_iload hx hb dX4_close_96 (lv_at hl 2 rfl) ?_
  refine fz_isubN hx hb (by omega) dX4_close_98 ?_
  refine fz_topn (b := 28) (by omega) ?_
  refine lv_aload_n hx hb dX4_close_99 rfl (lv_at hl 5 rfl) ?_
  refine va_get (D := D) (ci := 4) (v := .ref dp) (C := RX4) (T := TX4) (N := 20) hx hb hts hin_X4 hown hK hP 0 rfl rfl 10 (by decide) hw_fieldLink_RX4_7_FlowGridModel_depth_D (fun _ h9 => h9) rfl dX4_close_100 ?_
  refine lv_iload hx hb dX4_close_103 (lv_at hl 1 rfl) ?_
  refine fz_dald (i := n + 28) hx hb hK hP 1 0 rfl rfl (by omega) (by decide) dX4_close_105 ?_
  rw [fz_upn (by omega), fz_upn (by omega)]
  refine fz_dast (i := 28) hx hb hK hP hD hS 1 0 rfl rfl (by omega) (by decide) dX4_close_106 (fun H locs hP hD hS => ?_)
  have hP : va_P D vwCl [(o, .inr (4, [.int thr, .int (nI n), .int (nI 0), .int (nI lim), .int (nI sol), .int (nI ord), .double tm, .int cst, .int cfl, .int crf, .ref dp, .ref mp, .double v0, .double v1, .double v2, .double v3, .double v4, .double v5, .double v6, .double v7])), (dp, fz_da cD 84 (vf_upd (vf_upd (vf_upd dR 29 (dR (n + 29))) (n + 30) (dR 30)) 28 (dR (n + 28)))), (mp, fz_da cD 84 (vf_upd (vf_upd mR 29 (mR (n + 29))) (n + 30) (mR 30)))] H := hP
  have hD : va_D A [(o, .inr (4, [.int thr, .int (nI n), .int (nI 0), .int (nI lim), .int (nI sol), .int (nI ord), .double tm, .int cst, .int cfl, .int crf, .ref dp, .ref mp, .double v0, .double v1, .double v2, .double v3, .double v4, .double v5, .double v6, .double v7])), (dp, fz_da cD 84 (vf_upd (vf_upd (vf_upd dR 29 (dR (n + 29))) (n + 30) (dR 30)) 28 (dR (n + 28)))), (mp, fz_da cD 84 (vf_upd (vf_upd mR 29 (mR (n + 29))) (n + 30) (mR 30)))] := hD
  refine lv_aload_n hx hb dX4_close_107 rfl (lv_at hl 5 rfl) ?_
  refine va_get (D := D) (ci := 4) (v := .ref dp) (C := RX4) (T := TX4) (N := 20) hx hb hts hin_X4 hown hK hP 0 rfl rfl 10 (by decide) hw_fieldLink_RX4_7_FlowGridModel_depth_D (fun _ h9 => h9) rfl dX4_close_108 ?_
  refine lv_iload_n hx hb dX4_close_111 rfl (lv_at hl 3 rfl) ?_
  refine lv_iconst (v := nI 1) hx hb dX4_close_112 (by decide) ?_
  refine fz_iaddN hx hb dX4_close_113 ?_
  refine fz_topn (b := n + 30) (by omega) ?_
  refine lv_iload hx hb dX4_close_114 (lv_at hl 2 rfl) ?_
  refine fz_iaddN hx hb dX4_close_116 ?_
  refine fz_topn (b := n + 31) (by omega) ?_
  refine lv_aload_n hx hb dX4_close_117 rfl (lv_at hl 5 rfl) ?_
  refine va_get (D := D) (ci := 4) (v := .ref dp) (C := RX4) (T := TX4) (N := 20) hx hb hts hin_X4 hown hK hP 0 rfl rfl 10 (by decide) hw_fieldLink_RX4_7_FlowGridModel_depth_D (fun _ h9 => h9) rfl dX4_close_118 ?_
  refine lv_iload hx hb dX4_close_121 (lv_at hl 0 rfl) ?_
  refine fz_dald (i := 31) hx hb hK hP 1 0 rfl rfl (by omega) (by decide) dX4_close_123 ?_
  rw [fz_upn (by omega), fz_upn (by omega), fz_upn (by omega)]
  refine fz_dast (i := n + 31) hx hb hK hP hD hS 1 0 rfl rfl (by omega) (by decide) dX4_close_124 (fun H locs hP hD hS => ?_)
  have hP : va_P D vwCl [(o, .inr (4, [.int thr, .int (nI n), .int (nI 0), .int (nI lim), .int (nI sol), .int (nI ord), .double tm, .int cst, .int cfl, .int crf, .ref dp, .ref mp, .double v0, .double v1, .double v2, .double v3, .double v4, .double v5, .double v6, .double v7])), (dp, fz_da cD 84 (vf_upd (vf_upd (vf_upd (vf_upd dR 29 (dR (n + 29))) (n + 30) (dR 30)) 28 (dR (n + 28))) (n + 31) (dR 31))), (mp, fz_da cD 84 (vf_upd (vf_upd mR 29 (mR (n + 29))) (n + 30) (mR 30)))] H := hP
  have hD : va_D A [(o, .inr (4, [.int thr, .int (nI n), .int (nI 0), .int (nI lim), .int (nI sol), .int (nI ord), .double tm, .int cst, .int cfl, .int crf, .ref dp, .ref mp, .double v0, .double v1, .double v2, .double v3, .double v4, .double v5, .double v6, .double v7])), (dp, fz_da cD 84 (vf_upd (vf_upd (vf_upd (vf_upd dR 29 (dR (n + 29))) (n + 30) (dR 30)) 28 (dR (n + 28))) (n + 31) (dR 31))), (mp, fz_da cD 84 (vf_upd (vf_upd mR 29 (mR (n + 29))) (n + 30) (mR 30)))] := hD
  refine lv_aload_n hx hb dX4_close_125 rfl (lv_at hl 5 rfl) ?_
  refine va_get (D := D) (ci := 4) (v := .ref mp) (C := RX4) (T := TX4) (N := 20) hx hb hts hin_X4 hown hK hP 0 rfl rfl 11 (by decide) hw_fieldLink_RX4_13_FlowGridModel_momentum_D (fun _ h9 => h9) rfl dX4_close_126 ?_
  refine lv_iload_n hx hb dX4_close_129 rfl (lv_at hl 4 rfl) ?_
  refine lv_iconst (v := nI 1) hx hb dX4_close_130 (by decide) ?_
  refine fz_isubN hx hb (by omega) dX4_close_131 ?_
  refine fz_topn (b := 29) (by omega) ?_
  refine lv_iload hx hb dX4_close_132 (lv_at hl 2 rfl) ?_
  refine fz_isubN hx hb (by omega) dX4_close_134 ?_
  refine fz_topn (b := 28) (by omega) ?_
  refine lv_aload_n hx hb dX4_close_135 rfl (lv_at hl 5 rfl) ?_
  refine va_get (D := D) (ci := 4) (v := .int (nI 0)) (C := RX4) (T := TX4) (N := 20) hx hb hts hin_X4 hown hK hP 0 rfl rfl 2 (by decide) hw_fieldLink_RX4_45_FlowGridModel_ends_I (fun _ h9 => h9) rfl dX4_close_136 ?_
  refine lv_iconst (v := nI 1) hx hb dX4_close_139 (by decide) ?_
  refine fz_icmp_neN (tgt := 154) hx hb (by omega) (by omega) dX4_close_140 (by decide) (fun c140 => ?_) (fun c140 => absurd c140 (by decide))
  refine lv_aload_n hx hb dX4_close_154 rfl (lv_at hl 5 rfl) ?_
  refine va_get (D := D) (ci := 4) (v := .ref mp) (C := RX4) (T := TX4) (N := 20) hx hb hts hin_X4 hown hK hP 0 rfl rfl 11 (by decide) hw_fieldLink_RX4_13_FlowGridModel_momentum_D (fun _ h9 => h9) rfl dX4_close_155 ?_
  refine lv_iload hx hb dX4_close_158 (lv_at hl 1 rfl) ?_
  refine fz_dald (i := n + 28) hx hb hK hP 2 0 rfl rfl (by omega) (by decide) dX4_close_160 ?_
  rw [fz_upn (by omega), fz_upn (by omega)]
  refine fz_dast (i := 28) hx hb hK hP hD hS 2 0 rfl rfl (by omega) (by decide) dX4_close_161 (fun H locs hP hD hS => ?_)
  have hP : va_P D vwCl [(o, .inr (4, [.int thr, .int (nI n), .int (nI 0), .int (nI lim), .int (nI sol), .int (nI ord), .double tm, .int cst, .int cfl, .int crf, .ref dp, .ref mp, .double v0, .double v1, .double v2, .double v3, .double v4, .double v5, .double v6, .double v7])), (dp, fz_da cD 84 (vf_upd (vf_upd (vf_upd (vf_upd dR 29 (dR (n + 29))) (n + 30) (dR 30)) 28 (dR (n + 28))) (n + 31) (dR 31))), (mp, fz_da cD 84 (vf_upd (vf_upd (vf_upd mR 29 (mR (n + 29))) (n + 30) (mR 30)) 28 (mR (n + 28))))] H := hP
  have hD : va_D A [(o, .inr (4, [.int thr, .int (nI n), .int (nI 0), .int (nI lim), .int (nI sol), .int (nI ord), .double tm, .int cst, .int cfl, .int crf, .ref dp, .ref mp, .double v0, .double v1, .double v2, .double v3, .double v4, .double v5, .double v6, .double v7])), (dp, fz_da cD 84 (vf_upd (vf_upd (vf_upd (vf_upd dR 29 (dR (n + 29))) (n + 30) (dR 30)) 28 (dR (n + 28))) (n + 31) (dR 31))), (mp, fz_da cD 84 (vf_upd (vf_upd (vf_upd mR 29 (mR (n + 29))) (n + 30) (mR 30)) 28 (mR (n + 28))))] := hD
  refine lv_aload_n hx hb dX4_close_162 rfl (lv_at hl 5 rfl) ?_
  refine va_get (D := D) (ci := 4) (v := .ref mp) (C := RX4) (T := TX4) (N := 20) hx hb hts hin_X4 hown hK hP 0 rfl rfl 11 (by decide) hw_fieldLink_RX4_13_FlowGridModel_momentum_D (fun _ h9 => h9) rfl dX4_close_163 ?_
  refine lv_iload_n hx hb dX4_close_166 rfl (lv_at hl 3 rfl) ?_
  refine lv_iconst (v := nI 1) hx hb dX4_close_167 (by decide) ?_
  refine fz_iaddN hx hb dX4_close_168 ?_
  refine fz_topn (b := n + 30) (by omega) ?_
  refine lv_iload hx hb dX4_close_169 (lv_at hl 2 rfl) ?_
  refine fz_iaddN hx hb dX4_close_171 ?_
  refine fz_topn (b := n + 31) (by omega) ?_
  refine lv_aload_n hx hb dX4_close_172 rfl (lv_at hl 5 rfl) ?_
  refine va_get (D := D) (ci := 4) (v := .int (nI 0)) (C := RX4) (T := TX4) (N := 20) hx hb hts hin_X4 hown hK hP 0 rfl rfl 2 (by decide) hw_fieldLink_RX4_45_FlowGridModel_ends_I (fun _ h9 => h9) rfl dX4_close_173 ?_
  refine lv_iconst (v := nI 1) hx hb dX4_close_176 (by decide) ?_
  refine fz_icmp_neN (tgt := 191) hx hb (by omega) (by omega) dX4_close_177 (by decide) (fun c177 => ?_) (fun c177 => absurd c177 (by decide))
  refine lv_aload_n hx hb dX4_close_191 rfl (lv_at hl 5 rfl) ?_
  refine va_get (D := D) (ci := 4) (v := .ref mp) (C := RX4) (T := TX4) (N := 20) hx hb hts hin_X4 hown hK hP 0 rfl rfl 11 (by decide) hw_fieldLink_RX4_13_FlowGridModel_momentum_D (fun _ h9 => h9) rfl dX4_close_192 ?_
  refine lv_iload hx hb dX4_close_195 (lv_at hl 0 rfl) ?_
  refine fz_dald (i := 31) hx hb hK hP 2 0 rfl rfl (by omega) (by decide) dX4_close_197 ?_
  rw [fz_upn (by omega), fz_upn (by omega), fz_upn (by omega)]
  refine fz_dast (i := n + 31) hx hb hK hP hD hS 2 0 rfl rfl (by omega) (by decide) dX4_close_198 (fun H locs hP hD hS => ?_)
  have hP : va_P D vwCl [(o, .inr (4, [.int thr, .int (nI n), .int (nI 0), .int (nI lim), .int (nI sol), .int (nI ord), .double tm, .int cst, .int cfl, .int crf, .ref dp, .ref mp, .double v0, .double v1, .double v2, .double v3, .double v4, .double v5, .double v6, .double v7])), (dp, fz_da cD 84 (vf_upd (vf_upd (vf_upd (vf_upd dR 29 (dR (n + 29))) (n + 30) (dR 30)) 28 (dR (n + 28))) (n + 31) (dR 31))), (mp, fz_da cD 84 (vf_upd (vf_upd (vf_upd (vf_upd mR 29 (mR (n + 29))) (n + 30) (mR 30)) 28 (mR (n + 28))) (n + 31) (mR 31)))] H := hP
  have hD : va_D A [(o, .inr (4, [.int thr, .int (nI n), .int (nI 0), .int (nI lim), .int (nI sol), .int (nI ord), .double tm, .int cst, .int cfl, .int crf, .ref dp, .ref mp, .double v0, .double v1, .double v2, .double v3, .double v4, .double v5, .double v6, .double v7])), (dp, fz_da cD 84 (vf_upd (vf_upd (vf_upd (vf_upd dR 29 (dR (n + 29))) (n + 30) (dR 30)) 28 (dR (n + 28))) (n + 31) (dR 31))), (mp, fz_da cD 84 (vf_upd (vf_upd (vf_upd (vf_upd mR 29 (mR (n + 29))) (n + 30) (mR 30)) 28 (mR (n + 28))) (n + 31) (mR 31)))] := hD
  refine lv_iinc (v := nI (2)) (lv' := [(4, .int (nI 2)), (6, .int (nI 31)), (5, .int (nI (n + 28))), (3, .int (nI (n + 29))), (2, .int (nI 30)), (0, .ref o), (1, .int (nI 1))]) hx hb dX4_close_199 hl (k := 2) rfl (nI_1 _) (by decide) rfl (fun ls hl => ?_)
  refine lv_goto (tgt := 19) hx hb dX4_close_202 (by decide) ?_
  refine lv_iload hx hb dX4_close_19 (lv_at hl 0 rfl) ?_
  refine lv_iconst (v := nI 2) hx hb dX4_close_21 (by decide) ?_
  refine fz_icmp_geN (tgt := 205) hx hb (by omega) (by omega) dX4_close_22 (by decide) (fun c22 => ?_) (fun c22 => absurd c22 (by decide))
  obtain ⟨hP, hD⟩ := fz_swapf (a := dp) (cD := cD) (n := 84) (g := fz_put 28 dR (fz_ends 0 false n (fz_row dR 28))) 1 rfl (fun i _ => fz_clq 28 n hn4 hn dR (fz_ends 0 false n (fz_row dR 28)) _ _ _ _ (by simp [fz_ends, fz_row]) (by simp [fz_ends, fz_row]) (by simp [fz_ends, fz_row]) (by simp [fz_ends, fz_row]) (fun q h1 h0 h2 h3 => by simp [fz_ends, fz_row, h1, h0, h2, h3]) i) hP hD
  have hP : va_P D vwCl [(o, .inr (4, [.int thr, .int (nI n), .int (nI 0), .int (nI lim), .int (nI sol), .int (nI ord), .double tm, .int cst, .int cfl, .int crf, .ref dp, .ref mp, .double v0, .double v1, .double v2, .double v3, .double v4, .double v5, .double v6, .double v7])), (dp, fz_da cD 84 (fz_put 28 dR (fz_ends 0 false n (fz_row dR 28)))), (mp, fz_da cD 84 (vf_upd (vf_upd (vf_upd (vf_upd mR 29 (mR (n + 29))) (n + 30) (mR 30)) 28 (mR (n + 28))) (n + 31) (mR 31)))] H := hP
  have hD : va_D A [(o, .inr (4, [.int thr, .int (nI n), .int (nI 0), .int (nI lim), .int (nI sol), .int (nI ord), .double tm, .int cst, .int cfl, .int crf, .ref dp, .ref mp, .double v0, .double v1, .double v2, .double v3, .double v4, .double v5, .double v6, .double v7])), (dp, fz_da cD 84 (fz_put 28 dR (fz_ends 0 false n (fz_row dR 28)))), (mp, fz_da cD 84 (vf_upd (vf_upd (vf_upd (vf_upd mR 29 (mR (n + 29))) (n + 30) (mR 30)) 28 (mR (n + 28))) (n + 31) (mR 31)))] := hD
  obtain ⟨hP, hD⟩ := fz_swapf (a := mp) (cD := cD) (n := 84) (g := fz_put 28 mR (fz_ends 0 true n (fz_row mR 28))) 2 rfl (fun i _ => fz_clq 28 n hn4 hn mR (fz_ends 0 true n (fz_row mR 28)) _ _ _ _ (by simp [fz_ends, fz_row]) (by simp [fz_ends, fz_row]) (by simp [fz_ends, fz_row]) (by simp [fz_ends, fz_row]) (fun q h1 h0 h2 h3 => by simp [fz_ends, fz_row, h1, h0, h2, h3]) i) hP hD
  have hP : va_P D vwCl [(o, .inr (4, [.int thr, .int (nI n), .int (nI 0), .int (nI lim), .int (nI sol), .int (nI ord), .double tm, .int cst, .int cfl, .int crf, .ref dp, .ref mp, .double v0, .double v1, .double v2, .double v3, .double v4, .double v5, .double v6, .double v7])), (dp, fz_da cD 84 (fz_put 28 dR (fz_ends 0 false n (fz_row dR 28)))), (mp, fz_da cD 84 (fz_put 28 mR (fz_ends 0 true n (fz_row mR 28))))] H := hP
  have hD : va_D A [(o, .inr (4, [.int thr, .int (nI n), .int (nI 0), .int (nI lim), .int (nI sol), .int (nI ord), .double tm, .int cst, .int cfl, .int crf, .ref dp, .ref mp, .double v0, .double v1, .double v2, .double v3, .double v4, .double v5, .double v6, .double v7])), (dp, fz_da cD 84 (fz_put 28 dR (fz_ends 0 false n (fz_row dR 28)))), (mp, fz_da cD 84 (fz_put 28 mR (fz_ends 0 true n (fz_row mR 28))))] := hD
  exact fz_vret hx hb hr hlocks (rfl) hP hK hD hS dX4_close_205

set_option maxHeartbeats 4000000 in
set_option maxRecDepth 100000 in
theorem c_X4_close11 (l : Launch) (D : va_G) (cD : ClassId) (o dp mp n lim sol ord : Nat) (dR mR : Nat → UInt64) (thr : Int32) (tm v0 v1 v2 v3 v4 v5 v6 v7 : UInt64) (cst cfl crf : Int32) (hn4 : 4 ≤ n) (hn : n ≤ 24) : fz_C l D [(cD, .double)] yX4_close wsX4_close ({ frames := 0, cells := 0, slots := 0, locals := 0 }) [.ref o, .int (nI 1)] [(o, .inr (4, [.int thr, .int (nI n), .int (nI 1), .int (nI lim), .int (nI sol), .int (nI ord), .double tm, .int cst, .int cfl, .int crf, .ref dp, .ref mp, .double v0, .double v1, .double v2, .double v3, .double v4, .double v5, .double v6, .double v7])), (dp, fz_da cD 84 dR), (mp, fz_da cD 84 mR)] [(o, .inr (4, [.int thr, .int (nI n), .int (nI 1), .int (nI lim), .int (nI sol), .int (nI ord), .double tm, .int cst, .int cfl, .int crf, .ref dp, .ref mp, .double v0, .double v1, .double v2, .double v3, .double v4, .double v5, .double v6, .double v7])), (dp, fz_da cD 84 (fz_put 28 dR (fz_ends 1 false n (fz_row dR 28)))), (mp, fz_da cD 84 (fz_put 28 mR (fz_ends 1 true n (fz_row mR 28))))] (none) := by
  refine fz_start (cc := cX4_close) (maxL := 7) (ret := none) (by decide) rfl (Nat.le_of_ble_eq_true rfl) ?_
  intro p e s m below meth c A hx hb hr hlocks hml hown hts hK hA hNW H locs hP hD hS ls hl
  have hl : lv_has ls 7 [(0, .ref o), (1, .int (nI 1))] := hl
  have hown : s.vm.findClass RX4 = some m.cls := hown
  have hw_fieldLink_RX4_30_FlowGridModel_n_I := hts (.fieldLink RX4 30 "FlowGridModel" "n" "I") (by decide +kernel)
  have hin_X4 : ∀ w ∈ u_ws RX4 TX4 20, w ∈ wsX4_close := by decide +kernel
  have hw_fieldLink_RX4_45_FlowGridModel_ends_I := hts (.fieldLink RX4 45 "FlowGridModel" "ends" "I") (by decide +kernel)
  have hw_fieldLink_RX4_7_FlowGridModel_depth_D := hts (.fieldLink RX4 7 "FlowGridModel" "depth" "[D") (by decide +kernel)
  have hw_fieldLink_RX4_13_FlowGridModel_momentum_D := hts (.fieldLink RX4 13 "FlowGridModel" "momentum" "[D") (by decide +kernel)
  refine lv_bipush (v := nI 28) hx hb dX4_close_0 (by decide) ?_
  refine lv_iload_n hx hb dX4_close_2 rfl (lv_at hl 1 rfl) ?_
  refine fz_imulN hx hb dX4_close_3 ?_
  refine fz_topn (b := 28) (by omega) ?_
  refine lv_iconst (v := nI 2) hx hb dX4_close_4 (by decide) ?_
  refine fz_iaddN hx hb dX4_close_5 ?_
  refine fz_topn (b := 30) (by omega) ?_
  refine lv_istore_n (lv' := [(2, .int (nI 30)), (0, .ref o), (1, .int (nI 1))]) hx hb dX4_close_6 rfl hl (by decide) rfl (fun ls hl => ?_)
  refine lv_iload_n hx hb dX4_close_7 rfl (lv_at hl 0 rfl) ?_
  refine lv_aload_n hx hb dX4_close_8 rfl (lv_at hl 1 rfl) ?_
  refine va_get (D := D) (ci := 4) (v := .int (nI n)) (C := RX4) (T := TX4) (N := 20) hx hb hts hin_X4 hown hK hP 0 rfl rfl 1 (by decide) hw_fieldLink_RX4_30_FlowGridModel_n_I (fun _ h9 => h9) rfl dX4_close_9 ?_
  refine fz_iaddN hx hb dX4_close_12 ?_
  refine fz_topn (b := n + 30) (by omega) ?_
  refine lv_iconst (v := nI 1) hx hb dX4_close_13 (by decide) ?_
  refine fz_isubN hx hb (by omega) dX4_close_14 ?_
  refine fz_topn (b := n + 29) (by omega) ?_
  refine lv_istore_n (lv' := [(3, .int (nI (n + 29))), (2, .int (nI 30)), (0, .ref o), (1, .int (nI 1))]) hx hb dX4_close_15 rfl hl (by decide) rfl (fun ls hl => ?_)
  refine lv_iconst (v := nI 0) hx hb dX4_close_16 (by decide) ?_
  refine lv_istore (lv' := [(4, .int (nI 0)), (3, .int (nI (n + 29))), (2, .int (nI 30)), (0, .ref o), (1, .int (nI 1))]) hx hb dX4_close_17 hl (by decide) rfl (fun ls hl => ?_)
  refine lv_iload hx hb dX4_close_19 (lv_at hl 0 rfl) ?_
  refine lv_iconst (v := nI 2) hx hb dX4_close_21 (by decide) ?_
  refine fz_icmp_geN (tgt := 205) hx hb (by omega) (by omega) dX4_close_22 (by decide) (fun c22 => absurd c22 (by decide)) (fun c22 => ?_)
  refine lv_aload_n hx hb dX4_close_25 rfl (lv_at hl 3 rfl) ?_
  refine va_get (D := D) (ci := 4) (v := .int (nI 1)) (C := RX4) (T := TX4) (N := 20) hx hb hts hin_X4 hown hK hP 0 rfl rfl 2 (by decide) hw_fieldLink_RX4_45_FlowGridModel_ends_I (fun _ h9 => h9) rfl dX4_close_26 ?_
  refine lv_if_ne (tgt := 39) hx hb dX4_close_29 (by decide) (fun c29 => ?_) (fun c29 => absurd c29 (by decide))
  refine lv_aload_n hx hb dX4_close_39 rfl (lv_at hl 3 rfl) ?_
  refine va_get (D := D) (ci := 4) (v := .int (nI 1)) (C := RX4) (T := TX4) (N := 20) hx hb hts hin_X4 hown hK hP 0 rfl rfl 2 (by decide) hw_fieldLink_RX4_45_FlowGridModel_ends_I (fun _ h9 => h9) rfl dX4_close_40 ?_
  refine lv_iconst (v := nI 1) hx hb dX4_close_43 (by decide) ?_
  refine fz_icmp_neN (tgt := 54) hx hb (by omega) (by omega) dX4_close_44 (by decide) (fun c44 => absurd c44 (by decide)) (fun c44 => ?_)
  refine lv_iload_n hx hb dX4_close_47 rfl (lv_at hl 2 rfl) ?_
  refine lv_iload hx hb dX4_close_48 (lv_at hl 0 rfl) ?_
  refine fz_iaddN hx hb dX4_close_50 ?_
  refine fz_topn (b := 30) (by omega) ?_
  refine lv_goto (tgt := 55) hx hb dX4_close_51 (by decide) ?_
  refine lv_istore (lv' := [(5, .int (nI 30)), (4, .int (nI 0)), (3, .int (nI (n + 29))), (2, .int (nI 30)), (0, .ref o), (1, .int (nI 1))]) hx hb dX4_close_55 hl (by decide) rfl (fun ls hl => ?_)
  refine lv_aload_n hx hb dX4_close_57 rfl (lv_at hl 4 rfl) ?_
  refine va_get (D := D) (ci := 4) (v := .int (nI 1)) (C := RX4) (T := TX4) (N := 20) hx hb hts hin_X4 hown hK hP 0 rfl rfl 2 (by decide) hw_fieldLink_RX4_45_FlowGridModel_ends_I (fun _ h9 => h9) rfl dX4_close_58 ?_
  refine lv_if_ne (tgt := 71) hx hb dX4_close_61 (by decide) (fun c61 => ?_) (fun c61 => absurd c61 (by decide))
  refine lv_aload_n hx hb dX4_close_71 rfl (lv_at hl 4 rfl) ?_
  refine va_get (D := D) (ci := 4) (v := .int (nI 1)) (C := RX4) (T := TX4) (N := 20) hx hb hts hin_X4 hown hK hP 0 rfl rfl 2 (by decide) hw_fieldLink_RX4_45_FlowGridModel_ends_I (fun _ h9 => h9) rfl dX4_close_72 ?_
  refine lv_iconst (v := nI 1) hx hb dX4_close_75 (by decide) ?_
  refine fz_icmp_neN (tgt := 86) hx hb (by omega) (by omega) dX4_close_76 (by decide) (fun c76 => absurd c76 (by decide)) (fun c76 => ?_)
  refine lv_iload_n hx hb dX4_close_79 rfl (lv_at hl 2 rfl) ?_
  refine lv_iload hx hb dX4_close_80 (lv_at hl 1 rfl) ?_
  refine fz_isubN hx hb (by omega) dX4_close_82 ?_
  refine fz_topn (b := n + 29) (by omega) ?_
  refine lv_goto (tgt := 87) hx hb dX4_close_83 (by decide) ?_
  refine lv_istore (lv' := [(6, .int (nI (n + 29))), (5, .int (nI 30)), (4, .int (nI 0)), (3, .int (nI (n + 29))), (2, .int (nI 30)), (0, .ref o), (1, .int (nI 1))]) hx hb dX4_close_87 hl (by decide) rfl (fun ls hl => ?_)
  refine lv_aload_n hx hb dX4_close_89 rfl (lv_at hl 5 rfl) ?_
  refine va_get (D := D) (ci := 4) (v := .ref dp) (C := RX4) (T := TX4) (N := 20) hx hb hts hin_X4 hown hK hP 0 rfl rfl 10 (by decide) hw_fieldLink_RX4_7_FlowGridModel_depth_D (fun _ h9 => h9) rfl dX4_close_90 ?_
  refine lv_iload_n hx hb dX4_close_93 rfl (lv_at hl 4 rfl) ?_
  refine lv_iconst (v := nI 1) hx hb dX4_close_94 (by decide) ?_
  refine fz_isubN hx hb (by omega) dX4_close_95 ?_
  refine fz_topn (b := 29) (by omega) ?_
  refine lv_iload hx hb dX4_close_96 (lv_at hl 2 rfl) ?_
  refine fz_isubN hx hb (by omega) dX4_close_98 ?_
  refine fz_topn (b := 29) (by omega) ?_
  refine lv_aload_n hx hb dX4_close_99 rfl (lv_at hl 5 rfl) ?_
  refine va_get (D := D) (ci := 4) (v := .ref dp) (C := RX4) (T := TX4) (N := 20) hx hb hts hin_X4 hown hK hP 0 rfl rfl 10 (by decide) hw_fieldLink_RX4_7_FlowGridModel_depth_D (fun _ h9 => h9) rfl dX4_close_100 ?_
  refine lv_iload hx hb dX4_close_103 (lv_at hl 1 rfl) ?_
  refine fz_dald (i := 30) hx hb hK hP 1 0 rfl rfl (by omega) (by decide) dX4_close_105 ?_
  refine fz_dast (i := 29) hx hb hK hP hD hS 1 0 rfl rfl (by omega) (by decide) dX4_close_106 (fun H locs hP hD hS => ?_)
  have hP : va_P D vwCl [(o, .inr (4, [.int thr, .int (nI n), .int (nI 1), .int (nI lim), .int (nI sol), .int (nI ord), .double tm, .int cst, .int cfl, .int crf, .ref dp, .ref mp, .double v0, .double v1, .double v2, .double v3, .double v4, .double v5, .double v6, .double v7])), (dp, fz_da cD 84 (vf_upd dR 29 (dR 30))), (mp, fz_da cD 84 mR)] H := hP
  have hD : va_D A [(o, .inr (4, [.int thr, .int (nI n), .int (nI 1), .int (nI lim), .int (nI sol), .int (nI ord), .double tm, .int cst, .int cfl, .int crf, .ref dp, .ref mp, .double v0, .double v1, .double v2, .double v3, .double v4, .double v5, .double v6, .double v7])), (dp, fz_da cD 84 (vf_upd dR 29 (dR 30))), (mp, fz_da cD 84 mR)] := hD
  refine lv_aload_n hx hb dX4_close_107 rfl (lv_at hl 5 rfl) ?_
  refine va_get (D := D) (ci := 4) (v := .ref dp) (C := RX4) (T := TX4) (N := 20) hx hb hts hin_X4 hown hK hP 0 rfl rfl 10 (by decide) hw_fieldLink_RX4_7_FlowGridModel_depth_D (fun _ h9 => h9) rfl dX4_close_108 ?_
  refine lv_iload_n hx hb dX4_close_111 rfl (lv_at hl 3 rfl) ?_
  refine lv_iconst (v := nI 1) hx hb dX4_close_112 (by decide) ?_
  refine fz_iaddN hx hb dX4_close_113 ?_
  refine fz_topn (b := n + 30) (by omega) ?_
  refine lv_iload hx hb dX4_close_114 (lv_at hl 2 rfl) ?_
  refine fz_iaddN hx hb dX4_close_116 ?_
  refine fz_topn (b := n + 30) (by omega) ?_
  refine lv_aload_n hx hb dX4_close_117 rfl (lv_at hl 5 rfl) ?_
  refine va_get (D := D) (ci := 4) (v := .ref dp) (C := RX4) (T := TX4) (N := 20) hx hb hts hin_X4 hown hK hP 0 rfl rfl 10 (by decide) hw_fieldLink_RX4_7_FlowGridModel_depth_D (fun _ h9 => h9) rfl dX4_close_118 ?_
  refine lv_iload hx hb dX4_close_121 (lv_at hl 0 rfl) ?_
  refine fz_dald (i := n + 29) hx hb hK hP 1 0 rfl rfl (by omega) (by decide) dX4_close_123 ?_
  rw [fz_upn (by omega)]
  refine fz_dast (i := n + 30) hx hb hK hP hD hS 1 0 rfl rfl (by omega) (by decide) dX4_close_124 (fun H locs hP hD hS => ?_)
  have hP : va_P D vwCl [(o, .inr (4, [.int thr, .int (nI n), .int (nI 1), .int (nI lim), .int (nI sol), .int (nI ord), .double tm, .int cst, .int cfl, .int crf, .ref dp, .ref mp, .double v0, .double v1, .double v2, .double v3, .double v4, .double v5, .double v6, .double v7])), (dp, fz_da cD 84 (vf_upd (vf_upd dR 29 (dR 30)) (n + 30) (dR (n + 29)))), (mp, fz_da cD 84 mR)] H := hP
  have hD : va_D A [(o, .inr (4, [.int thr, .int (nI n), .int (nI 1), .int (nI lim), .int (nI sol), .int (nI ord), .double tm, .int cst, .int cfl, .int crf, .ref dp, .ref mp, .double v0, .double v1, .double v2, .double v3, .double v4, .double v5, .double v6, .double v7])), (dp, fz_da cD 84 (vf_upd (vf_upd dR 29 (dR 30)) (n + 30) (dR (n + 29)))), (mp, fz_da cD 84 mR)] := hD
  refine lv_aload_n hx hb dX4_close_125 rfl (lv_at hl 5 rfl) ?_
  refine va_get (D := D) (ci := 4) (v := .ref mp) (C := RX4) (T := TX4) (N := 20) hx hb hts hin_X4 hown hK hP 0 rfl rfl 11 (by decide) hw_fieldLink_RX4_13_FlowGridModel_momentum_D (fun _ h9 => h9) rfl dX4_close_126 ?_
  refine lv_iload_n hx hb dX4_close_129 rfl (lv_at hl 4 rfl) ?_
  refine lv_iconst (v := nI 1) hx hb dX4_close_130 (by decide) ?_
  refine fz_isubN hx hb (by omega) dX4_close_131 ?_
  refine fz_topn (b := 29) (by omega) ?_
  refine lv_iload hx hb dX4_close_132 (lv_at hl 2 rfl) ?_
  refine fz_isubN hx hb (by omega) dX4_close_134 ?_
  refine fz_topn (b := 29) (by omega) ?_
  refine lv_aload_n hx hb dX4_close_135 rfl (lv_at hl 5 rfl) ?_
  refine va_get (D := D) (ci := 4) (v := .int (nI 1)) (C := RX4) (T := TX4) (N := 20) hx hb hts hin_X4 hown hK hP 0 rfl rfl 2 (by decide) hw_fieldLink_RX4_45_FlowGridModel_ends_I (fun _ h9 => h9) rfl dX4_close_136 ?_
  refine lv_iconst (v := nI 1) hx hb dX4_close_139 (by decide) ?_
  refine fz_icmp_neN (tgt := 154) hx hb (by omega) (by omega) dX4_close_140 (by decide) (fun c140 => absurd c140 (by decide)) (fun c140 => ?_)
  refine lv_aload_n hx hb dX4_close_143 rfl (lv_at hl 5 rfl) ?_
  refine va_get (D := D) (ci := 4) (v := .ref mp) (C := RX4) (T := TX4) (N := 20) hx hb hts hin_X4 hown hK hP 0 rfl rfl 11 (by decide) hw_fieldLink_RX4_13_FlowGridModel_momentum_D (fun _ h9 => h9) rfl dX4_close_144 ?_
  refine lv_iload hx hb dX4_close_147 (lv_at hl 1 rfl) ?_
  refine fz_dald (i := 30) hx hb hK hP 2 0 rfl rfl (by omega) (by decide) dX4_close_149 ?_
  refine lv_dneg hx hb dX4_close_150 ?_
  refine lv_goto (tgt := 161) hx hb dX4_close_151 (by decide) ?_
  refine fz_dast (i := 29) hx hb hK hP hD hS 2 0 rfl rfl (by omega) (by decide) dX4_close_161 (fun H locs hP hD hS => ?_)
  have hP : va_P D vwCl [(o, .inr (4, [.int thr, .int (nI n), .int (nI 1), .int (nI lim), .int (nI sol), .int (nI ord), .double tm, .int cst, .int cfl, .int crf, .ref dp, .ref mp, .double v0, .double v1, .double v2, .double v3, .double v4, .double v5, .double v6, .double v7])), (dp, fz_da cD 84 (vf_upd (vf_upd dR 29 (dR 30)) (n + 30) (dR (n + 29)))), (mp, fz_da cD 84 (vf_upd mR 29 (FP.dneg (mR 30))))] H := hP
  have hD : va_D A [(o, .inr (4, [.int thr, .int (nI n), .int (nI 1), .int (nI lim), .int (nI sol), .int (nI ord), .double tm, .int cst, .int cfl, .int crf, .ref dp, .ref mp, .double v0, .double v1, .double v2, .double v3, .double v4, .double v5, .double v6, .double v7])), (dp, fz_da cD 84 (vf_upd (vf_upd dR 29 (dR 30)) (n + 30) (dR (n + 29)))), (mp, fz_da cD 84 (vf_upd mR 29 (FP.dneg (mR 30))))] := hD
  refine lv_aload_n hx hb dX4_close_162 rfl (lv_at hl 5 rfl) ?_
  refine va_get (D := D) (ci := 4) (v := .ref mp) (C := RX4) (T := TX4) (N := 20) hx hb hts hin_X4 hown hK hP 0 rfl rfl 11 (by decide) hw_fieldLink_RX4_13_FlowGridModel_momentum_D (fun _ h9 => h9) rfl dX4_close_163 ?_
  refine lv_iload_n hx hb dX4_close_166 rfl (lv_at hl 3 rfl) ?_
  refine lv_iconst (v := nI 1) hx hb dX4_close_167 (by decide) ?_
  refine fz_iaddN hx hb dX4_close_168 ?_
  refine fz_topn (b := n + 30) (by omega) ?_
  refine lv_iload hx hb dX4_close_169 (lv_at hl 2 rfl) ?_
  refine fz_iaddN hx hb dX4_close_171 ?_
  refine fz_topn (b := n + 30) (by omega) ?_
  refine lv_aload_n hx hb dX4_close_172 rfl (lv_at hl 5 rfl) ?_
  refine va_get (D := D) (ci := 4) (v := .int (nI 1)) (C := RX4) (T := TX4) (N := 20) hx hb hts hin_X4 hown hK hP 0 rfl rfl 2 (by decide) hw_fieldLink_RX4_45_FlowGridModel_ends_I (fun _ h9 => h9) rfl dX4_close_173 ?_
  refine lv_iconst (v := nI 1) hx hb dX4_close_176 (by decide) ?_
  refine fz_icmp_neN (tgt := 191) hx hb (by omega) (by omega) dX4_close_177 (by decide) (fun c177 => absurd c177 (by decide)) (fun c177 => ?_)
  refine lv_aload_n hx hb dX4_close_180 rfl (lv_at hl 5 rfl) ?_
  refine va_get (D := D) (ci := 4) (v := .ref mp) (C := RX4) (T := TX4) (N := 20) hx hb hts hin_X4 hown hK hP 0 rfl rfl 11 (by decide) hw_fieldLink_RX4_13_FlowGridModel_momentum_D (fun _ h9 => h9) rfl dX4_close_181 ?_
  refine lv_iload hx hb dX4_close_184 (lv_at hl 0 rfl) ?_
  refine fz_dald (i := n + 29) hx hb hK hP 2 0 rfl rfl (by omega) (by decide) dX4_close_186 ?_
  rw [fz_upn (by omega)]
  refine lv_dneg hx hb dX4_close_187 ?_
  refine lv_goto (tgt := 198) hx hb dX4_close_188 (by decide) ?_
  refine fz_dast (i := n + 30) hx hb hK hP hD hS 2 0 rfl rfl (by omega) (by decide) dX4_close_198 (fun H locs hP hD hS => ?_)
  have hP : va_P D vwCl [(o, .inr (4, [.int thr, .int (nI n), .int (nI 1), .int (nI lim), .int (nI sol), .int (nI ord), .double tm, .int cst, .int cfl, .int crf, .ref dp, .ref mp, .double v0, .double v1, .double v2, .double v3, .double v4, .double v5, .double v6, .double v7])), (dp, fz_da cD 84 (vf_upd (vf_upd dR 29 (dR 30)) (n + 30) (dR (n + 29)))), (mp, fz_da cD 84 (vf_upd (vf_upd mR 29 (FP.dneg (mR 30))) (n + 30) (FP.dneg (mR (n + 29)))))] H := hP
  have hD : va_D A [(o, .inr (4, [.int thr, .int (nI n), .int (nI 1), .int (nI lim), .int (nI sol), .int (nI ord), .double tm, .int cst, .int cfl, .int crf, .ref dp, .ref mp, .double v0, .double v1, .double v2, .double v3, .double v4, .double v5, .double v6, .double v7])), (dp, fz_da cD 84 (vf_upd (vf_upd dR 29 (dR 30)) (n + 30) (dR (n + 29)))), (mp, fz_da cD 84 (vf_upd (vf_upd mR 29 (FP.dneg (mR 30))) (n + 30) (FP.dneg (mR (n + 29)))))] := hD
  refine lv_iinc (v := nI (1)) (lv' := [(4, .int (nI 1)), (6, .int (nI (n + 29))), (5, .int (nI 30)), (3, .int (nI (n + 29))), (2, .int (nI 30)), (0, .ref o), (1, .int (nI 1))]) hx hb dX4_close_199 hl (k := 2) rfl (nI_1 _) (by decide) rfl (fun ls hl => ?_)
  refine lv_goto (tgt := 19) hx hb dX4_close_202 (by decide) ?_
  refine lv_iload hx hb dX4_close_19 (lv_at hl 0 rfl) ?_
  refine lv_iconst (v := nI 2) hx hb dX4_close_21 (by decide) ?_
  refine fz_icmp_geN (tgt := 205) hx hb (by omega) (by omega) dX4_close_22 (by decide) (fun c22 => absurd c22 (by decide)) (fun c22 => ?_)
  refine lv_aload_n hx hb dX4_close_25 rfl (lv_at hl 5 rfl) ?_
  refine va_get (D := D) (ci := 4) (v := .int (nI 1)) (C := RX4) (T := TX4) (N := 20) hx hb hts hin_X4 hown hK hP 0 rfl rfl 2 (by decide) hw_fieldLink_RX4_45_FlowGridModel_ends_I (fun _ h9 => h9) rfl dX4_close_26 ?_
  refine lv_if_ne (tgt := 39) hx hb dX4_close_29 (by decide) (fun c29 => ?_) (fun c29 => absurd c29 (by decide))
  refine lv_aload_n hx hb dX4_close_39 rfl (lv_at hl 5 rfl) ?_
  refine va_get (D := D) (ci := 4) (v := .int (nI 1)) (C := RX4) (T := TX4) (N := 20) hx hb hts hin_X4 hown hK hP 0 rfl rfl 2 (by decide) hw_fieldLink_RX4_45_FlowGridModel_ends_I (fun _ h9 => h9) rfl dX4_close_40 ?_
  refine lv_iconst (v := nI 1) hx hb dX4_close_43 (by decide) ?_
  refine fz_icmp_neN (tgt := 54) hx hb (by omega) (by omega) dX4_close_44 (by decide) (fun c44 => absurd c44 (by decide)) (fun c44 => ?_)
  refine lv_iload_n hx hb dX4_close_47 rfl (lv_at hl 4 rfl) ?_
  refine lv_iload hx hb dX4_close_48 (lv_at hl 0 rfl) ?_
  refine fz_iaddN hx hb dX4_close_50 ?_
  refine fz_topn (b := 31) (by omega) ?_
  refine lv_goto (tgt := 55) hx hb dX4_close_51 (by decide) ?_
  refine lv_istore (lv' := [(5, .int (nI 31)), (4, .int (nI 1)), (6, .int (nI (n + 29))), (3, .int (nI (n + 29))), (2, .int (nI 30)), (0, .ref o), (1, .int (nI 1))]) hx hb dX4_close_55 hl (by decide) rfl (fun ls hl => ?_)
  refine lv_aload_n hx hb dX4_close_57 rfl (lv_at hl 5 rfl) ?_
  refine va_get (D := D) (ci := 4) (v := .int (nI 1)) (C := RX4) (T := TX4) (N := 20) hx hb hts hin_X4 hown hK hP 0 rfl rfl 2 (by decide) hw_fieldLink_RX4_45_FlowGridModel_ends_I (fun _ h9 => h9) rfl dX4_close_58 ?_
  refine lv_if_ne (tgt := 71) hx hb dX4_close_61 (by decide) (fun c61 => ?_) (fun c61 => absurd c61 (by decide))
  refine lv_aload_n hx hb dX4_close_71 rfl (lv_at hl 5 rfl) ?_
  refine va_get (D := D) (ci := 4) (v := .int (nI 1)) (C := RX4) (T := TX4) (N := 20) hx hb hts hin_X4 hown hK hP 0 rfl rfl 2 (by decide) hw_fieldLink_RX4_45_FlowGridModel_ends_I (fun _ h9 => h9) rfl dX4_close_72 ?_
  refine lv_iconst (v := nI 1) hx hb dX4_close_75 (by decide) ?_
  refine fz_icmp_neN (tgt := 86) hx hb (by omega) (by omega) dX4_close_76 (by decide) (fun c76 => absurd c76 (by decide)) (fun c76 => ?_)
  refine lv_iload_n hx hb dX4_close_79 rfl (lv_at hl 3 rfl) ?_
  refine lv_iload hx hb dX4_close_80 (lv_at hl 1 rfl) ?_
  refine fz_isubN hx hb (by omega) dX4_close_82 ?_
  refine fz_topn (b := n + 28) (by omega) ?_
  refine lv_goto (tgt := 87) hx hb dX4_close_83 (by decide) ?_
  refine lv_istore (lv' := [(6, .int (nI (n + 28))), (5, .int (nI 31)), (4, .int (nI 1)), (3, .int (nI (n + 29))), (2, .int (nI 30)), (0, .ref o), (1, .int (nI 1))]) hx hb dX4_close_87 hl (by decide) rfl (fun ls hl => ?_)
  refine lv_aload_n hx hb dX4_close_89 rfl (lv_at hl 5 rfl) ?_
  refine va_get (D := D) (ci := 4) (v := .ref dp) (C := RX4) (T := TX4) (N := 20) hx hb hts hin_X4 hown hK hP 0 rfl rfl 10 (by decide) hw_fieldLink_RX4_7_FlowGridModel_depth_D (fun _ h9 => h9) rfl dX4_close_90 ?_
  refine lv_iload_n hx hb dX4_close_93 rfl (lv_at hl 4 rfl) ?_
  refine lv_iconst (v := nI 1) hx hb dX4_close_94 (by decide) ?_
  refine fz_isubN hx hb (by omega) dX4_close_95 ?_
  refine fz_topn (b := 29) (by omega) ?_
  refine lv_iload hx hb dX4_close_96 (lv_at hl 2 rfl) ?_
  refine fz_isubN hx hb (by omega) dX4_close_98 ?_
  refine fz_topn (b := 28) (by omega) ?_
  refine lv_aload_n hx hb dX4_close_99 rfl (lv_at hl 5 rfl) ?_
  refine va_get (D := D) (ci := 4) (v := .ref dp) (C := RX4) (T := TX4) (N := 20) hx hb hts hin_X4 hown hK hP 0 rfl rfl 10 (by decide) hw_fieldLink_RX4_7_FlowGridModel_depth_D (fun _ h9 => h9) rfl dX4_close_100 ?_
  refine lv_iload hx hb dX4_close_103 (lv_at hl 1 rfl) ?_
  refine fz_dald (i := 31) hx hb hK hP 1 0 rfl rfl (by omega) (by decide) dX4_close_105 ?_
  rw [fz_upn (by omega), fz_upn (by omega)]
  refine fz_dast (i := 28) hx hb hK hP hD hS 1 0 rfl rfl (by omega) (by decide) dX4_close_106 (fun H locs hP hD hS => ?_)
  have hP : va_P D vwCl [(o, .inr (4, [.int thr, .int (nI n), .int (nI 1), .int (nI lim), .int (nI sol), .int (nI ord), .double tm, .int cst, .int cfl, .int crf, .ref dp, .ref mp, .double v0, .double v1, .double v2, .double v3, .double v4, .double v5, .double v6, .double v7])), (dp, fz_da cD 84 (vf_upd (vf_upd (vf_upd dR 29 (dR 30)) (n + 30) (dR (n + 29))) 28 (dR 31))), (mp, fz_da cD 84 (vf_upd (vf_upd mR 29 (FP.dneg (mR 30))) (n + 30) (FP.dneg (mR (n + 29)))))] H := hP
  have hD : va_D A [(o, .inr (4, [.int thr, .int (nI n), .int (nI 1), .int (nI lim), .int (nI sol), .int (nI ord), .double tm, .int cst, .int cfl, .int crf, .ref dp, .ref mp, .double v0, .double v1, .double v2, .double v3, .double v4, .double v5, .double v6, .double v7])), (dp, fz_da cD 84 (vf_upd (vf_upd (vf_upd dR 29 (dR 30)) (n + 30) (dR (n + 29))) 28 (dR 31))), (mp, fz_da cD 84 (vf_upd (vf_upd mR 29 (FP.dneg (mR 30))) (n + 30) (FP.dneg (mR (n + 29)))))] := hD
  refine lv_aload_n hx hb dX4_close_107 rfl (lv_at hl 5 rfl) ?_
  refine va_get (D := D) (ci := 4) (v := .ref dp) (C := RX4) (T := TX4) (N := 20) hx hb hts hin_X4 hown hK hP 0 rfl rfl 10 (by decide) hw_fieldLink_RX4_7_FlowGridModel_depth_D (fun _ h9 => h9) rfl dX4_close_108 ?_
  refine lv_iload_n hx hb dX4_close_111 rfl (lv_at hl 3 rfl) ?_
  refine lv_iconst (v := nI 1) hx hb dX4_close_112 (by decide) ?_
  refine fz_iaddN hx hb dX4_close_113 ?_
  refine fz_topn (b := n + 30) (by omega) ?_
  refine lv_iload hx hb dX4_close_114 (lv_at hl 2 rfl) ?_
  refine fz_iaddN hx hb dX4_close_116 ?_
  refine fz_topn (b := n + 31) (by omega) ?_
  refine lv_aload_n hx hb dX4_close_117 rfl (lv_at hl 5 rfl) ?_
  refine va_get (D := D) (ci := 4) (v := .ref dp) (C := RX4) (T := TX4) (N := 20) hx hb hts hin_X4 hown hK hP 0 rfl rfl 10 (by decide) hw_fieldLink_RX4_7_FlowGridModel_depth_D (fun _ h9 => h9) rfl dX4_close_118 ?_
  refine lv_iload hx hb dX4_close_121 (lv_at hl 0 rfl) ?_
  refine fz_dald (i := n + 28) hx hb hK hP 1 0 rfl rfl (by omega) (by decide) dX4_close_123 ?_
  rw [fz_upn (by omega), fz_upn (by omega), fz_upn (by omega)]
  refine fz_dast (i := n + 31) hx hb hK hP hD hS 1 0 rfl rfl (by omega) (by decide) dX4_close_124 (fun H locs hP hD hS => ?_)
  have hP : va_P D vwCl [(o, .inr (4, [.int thr, .int (nI n), .int (nI 1), .int (nI lim), .int (nI sol), .int (nI ord), .double tm, .int cst, .int cfl, .int crf, .ref dp, .ref mp, .double v0, .double v1, .double v2, .double v3, .double v4, .double v5, .double v6, .double v7])), (dp, fz_da cD 84 (vf_upd (vf_upd (vf_upd (vf_upd dR 29 (dR 30)) (n + 30) (dR (n + 29))) 28 (dR 31)) (n + 31) (dR (n + 28)))), (mp, fz_da cD 84 (vf_upd (vf_upd mR 29 (FP.dneg (mR 30))) (n + 30) (FP.dneg (mR (n + 29)))))] H := hP
  have hD : va_D A [(o, .inr (4, [.int thr, .int (nI n), .int (nI 1), .int (nI lim), .int (nI sol), .int (nI ord), .double tm, .int cst, .int cfl, .int crf, .ref dp, .ref mp, .double v0, .double v1, .double v2, .double v3, .double v4, .double v5, .double v6, .double v7])), (dp, fz_da cD 84 (vf_upd (vf_upd (vf_upd (vf_upd dR 29 (dR 30)) (n + 30) (dR (n + 29))) 28 (dR 31)) (n + 31) (dR (n + 28)))), (mp, fz_da cD 84 (vf_upd (vf_upd mR 29 (FP.dneg (mR 30))) (n + 30) (FP.dneg (mR (n + 29)))))] := hD
  refine lv_aload_n hx hb dX4_close_125 rfl (lv_at hl 5 rfl) ?_
  refine va_get (D := D) (ci := 4) (v := .ref mp) (C := RX4) (T := TX4) (N := 20) hx hb hts hin_X4 hown hK hP 0 rfl rfl 11 (by decide) hw_fieldLink_RX4_13_FlowGridModel_momentum_D (fun _ h9 => h9) rfl dX4_close_126 ?_
  refine lv_iload_n hx hb dX4_close_129 rfl (lv_at hl 4 rfl) ?_
  refine lv_iconst (v := nI 1) hx hb dX4_close_130 (by decide) ?_
  refine fz_isubN hx hb (by omega) dX4_close_131 ?_
  refine fz_topn (b := 29) (by omega) ?_
  refine lv_iload hx hb dX4_close_132 (lv_at hl 2 rfl) ?_
  refine fz_isubN hx hb (by omega) dX4_close_134 ?_
  refine fz_topn (b := 28) (by omega) ?_
  refine lv_aload_n hx hb dX4_close_135 rfl (lv_at hl 5 rfl) ?_
  refine va_get (D := D) (ci := 4) (v := .int (nI 1)) (C := RX4) (T := TX4) (N := 20) hx hb hts hin_X4 hown hK hP 0 rfl rfl 2 (by decide) hw_fieldLink_RX4_45_FlowGridModel_ends_I (fun _ h9 => h9) rfl dX4_close_136 ?_
  refine lv_iconst (v := nI 1) hx hb dX4_close_139 (by decide) ?_
  refine fz_icmp_neN (tgt := 154) hx hb (by omega) (by omega) dX4_close_140 (by decide) (fun c140 => absurd c140 (by decide)) (fun c140 => ?_)
  refine lv_aload_n hx hb dX4_close_143 rfl (lv_at hl 5 rfl) ?_
  refine va_get (D := D) (ci := 4) (v := .ref mp) (C := RX4) (T := TX4) (N := 20) hx hb hts hin_X4 hown hK hP 0 rfl rfl 11 (by decide) hw_fieldLink_RX4_13_FlowGridModel_momentum_D (fun _ h9 => h9) rfl dX4_close_144 ?_
  refine lv_iload hx hb dX4_close_147 (lv_at hl 1 rfl) ?_
  refine fz_dald (i := 31) hx hb hK hP 2 0 rfl rfl (by omega) (by decide) dX4_close_149 ?_
  rw [fz_upn (by omega), fz_upn (by omega)]
  refine lv_dneg hx hb dX4_close_150 ?_
  refine lv_goto (tgt := 161) hx hb dX4_close_151 (by decide) ?_
  refine fz_dast (i := 28) hx hb hK hP hD hS 2 0 rfl rfl (by omega) (by decide) dX4_close_161 (fun H locs hP hD hS => ?_)
  have hP : va_P D vwCl [(o, .inr (4, [.int thr, .int (nI n), .int (nI 1), .int (nI lim), .int (nI sol), .int (nI ord), .double tm, .int cst, .int cfl, .int crf, .ref dp, .ref mp, .double v0, .double v1, .double v2, .double v3, .double v4, .double v5, .double v6, .double v7])), (dp, fz_da cD 84 (vf_upd (vf_upd (vf_upd (vf_upd dR 29 (dR 30)) (n + 30) (dR (n + 29))) 28 (dR 31)) (n + 31) (dR (n + 28)))), (mp, fz_da cD 84 (vf_upd (vf_upd (vf_upd mR 29 (FP.dneg (mR 30))) (n + 30) (FP.dneg (mR (n + 29)))) 28 (FP.dneg (mR 31))))] H := hP
  have hD : va_D A [(o, .inr (4, [.int thr, .int (nI n), .int (nI 1), .int (nI lim), .int (nI sol), .int (nI ord), .double tm, .int cst, .int cfl, .int crf, .ref dp, .ref mp, .double v0, .double v1, .double v2, .double v3, .double v4, .double v5, .double v6, .double v7])), (dp, fz_da cD 84 (vf_upd (vf_upd (vf_upd (vf_upd dR 29 (dR 30)) (n + 30) (dR (n + 29))) 28 (dR 31)) (n + 31) (dR (n + 28)))), (mp, fz_da cD 84 (vf_upd (vf_upd (vf_upd mR 29 (FP.dneg (mR 30))) (n + 30) (FP.dneg (mR (n + 29)))) 28 (FP.dneg (mR 31))))] := hD
  refine lv_aload_n hx hb dX4_close_162 rfl (lv_at hl 5 rfl) ?_
  refine va_get (D := D) (ci := 4) (v := .ref mp) (C := RX4) (T := TX4) (N := 20) hx hb hts hin_X4 hown hK hP 0 rfl rfl 11 (by decide) hw_fieldLink_RX4_13_FlowGridModel_momentum_D (fun _ h9 => h9) rfl dX4_close_163 ?_
  refine lv_iload_n hx hb dX4_close_166 rfl (lv_at hl 3 rfl) ?_
  refine lv_iconst (v := nI 1) hx hb dX4_close_167 (by decide) ?_
  refine fz_iaddN hx hb dX4_close_168 ?_
  refine fz_topn (b := n + 30) (by omega) ?_
  refine lv_iload hx hb dX4_close_169 (lv_at hl 2 rfl) ?_
  refine fz_iaddN hx hb dX4_close_171 ?_
  refine fz_topn (b := n + 31) (by omega) ?_
  refine lv_aload_n hx hb dX4_close_172 rfl (lv_at hl 5 rfl) ?_
  refine va_get (D := D) (ci := 4) (v := .int (nI 1)) (C := RX4) (T := TX4) (N := 20) hx hb hts hin_X4 hown hK hP 0 rfl rfl 2 (by decide) hw_fieldLink_RX4_45_FlowGridModel_ends_I (fun _ h9 => h9) rfl dX4_close_173 ?_
  refine lv_iconst (v := nI 1) hx hb dX4_close_176 (by decide) ?_
  refine fz_icmp_neN (tgt := 191) hx hb (by omega) (by omega) dX4_close_177 (by decide) (fun c177 => absurd c177 (by decide)) (fun c177 => ?_)
  refine lv_aload_n hx hb dX4_close_180 rfl (lv_at hl 5 rfl) ?_
  refine va_get (D := D) (ci := 4) (v := .ref mp) (C := RX4) (T := TX4) (N := 20) hx hb hts hin_X4 hown hK hP 0 rfl rfl 11 (by decide) hw_fieldLink_RX4_13_FlowGridModel_momentum_D (fun _ h9 => h9) rfl dX4_close_181 ?_
  refine lv_iload hx hb dX4_close_184 (lv_at hl 0 rfl) ?_
  refine fz_dald (i := n + 28) hx hb hK hP 2 0 rfl rfl (by omega) (by decide) dX4_close_186 ?_
  rw [fz_upn (by omega), fz_upn (by omega), fz_upn (by omega)]
  refine lv_dneg hx hb dX4_close_187 ?_
  refine lv_goto (tgt := 198) hx hb dX4_close_188 (by decide) ?_
  refine fz_dast (i := n + 31) hx hb hK hP hD hS 2 0 rfl rfl (by omega) (by decide) dX4_close_198 (fun H locs hP hD hS => ?_)
  have hP : va_P D vwCl [(o, .inr (4, [.int thr, .int (nI n), .int (nI 1), .int (nI lim), .int (nI sol), .int (nI ord), .double tm, .int cst, .int cfl, .int crf, .ref dp, .ref mp, .double v0, .double v1, .double v2, .double v3, .double v4, .double v5, .double v6, .double v7])), (dp, fz_da cD 84 (vf_upd (vf_upd (vf_upd (vf_upd dR 29 (dR 30)) (n + 30) (dR (n + 29))) 28 (dR 31)) (n + 31) (dR (n + 28)))), (mp, fz_da cD 84 (vf_upd (vf_upd (vf_upd (vf_upd mR 29 (FP.dneg (mR 30))) (n + 30) (FP.dneg (mR (n + 29)))) 28 (FP.dneg (mR 31))) (n + 31) (FP.dneg (mR (n + 28)))))] H := hP
  have hD : va_D A [(o, .inr (4, [.int thr, .int (nI n), .int (nI 1), .int (nI lim), .int (nI sol), .int (nI ord), .double tm, .int cst, .int cfl, .int crf, .ref dp, .ref mp, .double v0, .double v1, .double v2, .double v3, .double v4, .double v5, .double v6, .double v7])), (dp, fz_da cD 84 (vf_upd (vf_upd (vf_upd (vf_upd dR 29 (dR 30)) (n + 30) (dR (n + 29))) 28 (dR 31)) (n + 31) (dR (n + 28)))), (mp, fz_da cD 84 (vf_upd (vf_upd (vf_upd (vf_upd mR 29 (FP.dneg (mR 30))) (n + 30) (FP.dneg (mR (n + 29)))) 28 (FP.dneg (mR 31))) (n + 31) (FP.dneg (mR (n + 28)))))] := hD
  refine lv_iinc (v := nI (2)) (lv' := [(4, .int (nI 2)), (6, .int (nI (n + 28))), (5, .int (nI 31)), (3, .int (nI (n + 29))), (2, .int (nI 30)), (0, .ref o), (1, .int (nI 1))]) hx hb dX4_close_199 hl (k := 2) rfl (nI_1 _) (by decide) rfl (fun ls hl => ?_)
  refine lv_goto (tgt := 19) hx hb dX4_close_202 (by decide) ?_
  refine lv_iload hx hb dX4_close_19 (lv_at hl 0 rfl) ?_
  refine lv_iconst (v := nI 2) hx hb dX4_close_21 (by decide) ?_
  refine fz_icmp_geN (tgt := 205) hx hb (by omega) (by omega) dX4_close_22 (by decide) (fun c22 => ?_) (fun c22 => absurd c22 (by decide))
  obtain ⟨hP, hD⟩ := fz_swapf (a := dp) (cD := cD) (n := 84) (g := fz_put 28 dR (fz_ends 1 false n (fz_row dR 28))) 1 rfl (fun i _ => fz_clq 28 n hn4 hn dR (fz_ends 1 false n (fz_row dR 28)) _ _ _ _ (by simp [fz_ends, fz_row]) (by simp [fz_ends, fz_row]) (by simp [fz_ends, fz_row]) (by simp [fz_ends, fz_row]) (fun q h1 h0 h2 h3 => by simp [fz_ends, fz_row, h1, h0, h2, h3]) i) hP hD
  have hP : va_P D vwCl [(o, .inr (4, [.int thr, .int (nI n), .int (nI 1), .int (nI lim), .int (nI sol), .int (nI ord), .double tm, .int cst, .int cfl, .int crf, .ref dp, .ref mp, .double v0, .double v1, .double v2, .double v3, .double v4, .double v5, .double v6, .double v7])), (dp, fz_da cD 84 (fz_put 28 dR (fz_ends 1 false n (fz_row dR 28)))), (mp, fz_da cD 84 (vf_upd (vf_upd (vf_upd (vf_upd mR 29 (FP.dneg (mR 30))) (n + 30) (FP.dneg (mR (n + 29)))) 28 (FP.dneg (mR 31))) (n + 31) (FP.dneg (mR (n + 28)))))] H := hP
  have hD : va_D A [(o, .inr (4, [.int thr, .int (nI n), .int (nI 1), .int (nI lim), .int (nI sol), .int (nI ord), .double tm, .int cst, .int cfl, .int crf, .ref dp, .ref mp, .double v0, .double v1, .double v2, .double v3, .double v4, .double v5, .double v6, .double v7])), (dp, fz_da cD 84 (fz_put 28 dR (fz_ends 1 false n (fz_row dR 28)))), (mp, fz_da cD 84 (vf_upd (vf_upd (vf_upd (vf_upd mR 29 (FP.dneg (mR 30))) (n + 30) (FP.dneg (mR (n + 29)))) 28 (FP.dneg (mR 31))) (n + 31) (FP.dneg (mR (n + 28)))))] := hD
  obtain ⟨hP, hD⟩ := fz_swapf (a := mp) (cD := cD) (n := 84) (g := fz_put 28 mR (fz_ends 1 true n (fz_row mR 28))) 2 rfl (fun i _ => fz_clq 28 n hn4 hn mR (fz_ends 1 true n (fz_row mR 28)) _ _ _ _ (by simp [fz_ends, fz_row]) (by simp [fz_ends, fz_row]) (by simp [fz_ends, fz_row]) (by simp [fz_ends, fz_row]) (fun q h1 h0 h2 h3 => by simp [fz_ends, fz_row, h1, h0, h2, h3]) i) hP hD
  have hP : va_P D vwCl [(o, .inr (4, [.int thr, .int (nI n), .int (nI 1), .int (nI lim), .int (nI sol), .int (nI ord), .double tm, .int cst, .int cfl, .int crf, .ref dp, .ref mp, .double v0, .double v1, .double v2, .double v3, .double v4, .double v5, .double v6, .double v7])), (dp, fz_da cD 84 (fz_put 28 dR (fz_ends 1 false n (fz_row dR 28)))), (mp, fz_da cD 84 (fz_put 28 mR (fz_ends 1 true n (fz_row mR 28))))] H := hP
  have hD : va_D A [(o, .inr (4, [.int thr, .int (nI n), .int (nI 1), .int (nI lim), .int (nI sol), .int (nI ord), .double tm, .int cst, .int cfl, .int crf, .ref dp, .ref mp, .double v0, .double v1, .double v2, .double v3, .double v4, .double v5, .double v6, .double v7])), (dp, fz_da cD 84 (fz_put 28 dR (fz_ends 1 false n (fz_row dR 28)))), (mp, fz_da cD 84 (fz_put 28 mR (fz_ends 1 true n (fz_row mR 28))))] := hD
  exact fz_vret hx hb hr hlocks (rfl) hP hK hD hS dX4_close_205

set_option maxHeartbeats 4000000 in
set_option maxRecDepth 100000 in
theorem c_X4_close12 (l : Launch) (D : va_G) (cD : ClassId) (o dp mp n lim sol ord : Nat) (dR mR : Nat → UInt64) (thr : Int32) (tm v0 v1 v2 v3 v4 v5 v6 v7 : UInt64) (cst cfl crf : Int32) (hn4 : 4 ≤ n) (hn : n ≤ 24) : fz_C l D [(cD, .double)] yX4_close wsX4_close ({ frames := 0, cells := 0, slots := 0, locals := 0 }) [.ref o, .int (nI 1)] [(o, .inr (4, [.int thr, .int (nI n), .int (nI 2), .int (nI lim), .int (nI sol), .int (nI ord), .double tm, .int cst, .int cfl, .int crf, .ref dp, .ref mp, .double v0, .double v1, .double v2, .double v3, .double v4, .double v5, .double v6, .double v7])), (dp, fz_da cD 84 dR), (mp, fz_da cD 84 mR)] [(o, .inr (4, [.int thr, .int (nI n), .int (nI 2), .int (nI lim), .int (nI sol), .int (nI ord), .double tm, .int cst, .int cfl, .int crf, .ref dp, .ref mp, .double v0, .double v1, .double v2, .double v3, .double v4, .double v5, .double v6, .double v7])), (dp, fz_da cD 84 (fz_put 28 dR (fz_ends 2 false n (fz_row dR 28)))), (mp, fz_da cD 84 (fz_put 28 mR (fz_ends 2 true n (fz_row mR 28))))] (none) := by
  refine fz_start (cc := cX4_close) (maxL := 7) (ret := none) (by decide) rfl (Nat.le_of_ble_eq_true rfl) ?_
  intro p e s m below meth c A hx hb hr hlocks hml hown hts hK hA hNW H locs hP hD hS ls hl
  have hl : lv_has ls 7 [(0, .ref o), (1, .int (nI 1))] := hl
  have hown : s.vm.findClass RX4 = some m.cls := hown
  have hw_fieldLink_RX4_30_FlowGridModel_n_I := hts (.fieldLink RX4 30 "FlowGridModel" "n" "I") (by decide +kernel)
  have hin_X4 : ∀ w ∈ u_ws RX4 TX4 20, w ∈ wsX4_close := by decide +kernel
  have hw_fieldLink_RX4_45_FlowGridModel_ends_I := hts (.fieldLink RX4 45 "FlowGridModel" "ends" "I") (by decide +kernel)
  have hw_fieldLink_RX4_7_FlowGridModel_depth_D := hts (.fieldLink RX4 7 "FlowGridModel" "depth" "[D") (by decide +kernel)
  have hw_fieldLink_RX4_13_FlowGridModel_momentum_D := hts (.fieldLink RX4 13 "FlowGridModel" "momentum" "[D") (by decide +kernel)
  refine lv_bipush (v := nI 28) hx hb dX4_close_0 (by decide) ?_
  refine lv_iload_n hx hb dX4_close_2 rfl (lv_at hl 1 rfl) ?_
  refine fz_imulN hx hb dX4_close_3 ?_
  refine fz_topn (b := 28) (by omega) ?_
  refine lv_iconst (v := nI 2) hx hb dX4_close_4 (by decide) ?_
  refine fz_iaddN hx hb dX4_close_5 ?_
  refine fz_topn (b := 30) (by omega) ?_
  refine lv_istore_n (lv' := [(2, .int (nI 30)), (0, .ref o), (1, .int (nI 1))]) hx hb dX4_close_6 rfl hl (by decide) rfl (fun ls hl => ?_)
  refine lv_iload_n hx hb dX4_close_7 rfl (lv_at hl 0 rfl) ?_
  refine lv_aload_n hx hb dX4_close_8 rfl (lv_at hl 1 rfl) ?_
  refine va_get (D := D) (ci := 4) (v := .int (nI n)) (C := RX4) (T := TX4) (N := 20) hx hb hts hin_X4 hown hK hP 0 rfl rfl 1 (by decide) hw_fieldLink_RX4_30_FlowGridModel_n_I (fun _ h9 => h9) rfl dX4_close_9 ?_
  refine fz_iaddN hx hb dX4_close_12 ?_
  refine fz_topn (b := n + 30) (by omega) ?_
  refine lv_iconst (v := nI 1) hx hb dX4_close_13 (by decide) ?_
  refine fz_isubN hx hb (by omega) dX4_close_14 ?_
  refine fz_topn (b := n + 29) (by omega) ?_
  refine lv_istore_n (lv' := [(3, .int (nI (n + 29))), (2, .int (nI 30)), (0, .ref o), (1, .int (nI 1))]) hx hb dX4_close_15 rfl hl (by decide) rfl (fun ls hl => ?_)
  refine lv_iconst (v := nI 0) hx hb dX4_close_16 (by decide) ?_
  refine lv_istore (lv' := [(4, .int (nI 0)), (3, .int (nI (n + 29))), (2, .int (nI 30)), (0, .ref o), (1, .int (nI 1))]) hx hb dX4_close_17 hl (by decide) rfl (fun ls hl => ?_)
  refine lv_iload hx hb dX4_close_19 (lv_at hl 0 rfl) ?_
  refine lv_iconst (v := nI 2) hx hb dX4_close_21 (by decide) ?_
  refine fz_icmp_geN (tgt := 205) hx hb (by omega) (by omega) dX4_close_22 (by decide) (fun c22 => absurd c22 (by decide)) (fun c22 => ?_)
  refine lv_aload_n hx hb dX4_close_25 rfl (lv_at hl 3 rfl) ?_
  refine va_get (D := D) (ci := 4) (v := .int (nI 2)) (C := RX4) (T := TX4) (N := 20) hx hb hts hin_X4 hown hK hP 0 rfl rfl 2 (by decide) hw_fieldLink_RX4_45_FlowGridModel_ends_I (fun _ h9 => h9) rfl dX4_close_26 ?_
  refine lv_if_ne (tgt := 39) hx hb dX4_close_29 (by decide) (fun c29 => ?_) (fun c29 => absurd c29 (by decide))
  refine lv_aload_n hx hb dX4_close_39 rfl (lv_at hl 3 rfl) ?_
  refine va_get (D := D) (ci := 4) (v := .int (nI 2)) (C := RX4) (T := TX4) (N := 20) hx hb hts hin_X4 hown hK hP 0 rfl rfl 2 (by decide) hw_fieldLink_RX4_45_FlowGridModel_ends_I (fun _ h9 => h9) rfl dX4_close_40 ?_
  refine lv_iconst (v := nI 1) hx hb dX4_close_43 (by decide) ?_
  refine fz_icmp_neN (tgt := 54) hx hb (by omega) (by omega) dX4_close_44 (by decide) (fun c44 => ?_) (fun c44 => absurd c44 (by decide))
  refine lv_iload_n hx hb dX4_close_54 rfl (lv_at hl 2 rfl) ?_
  refine lv_istore (lv' := [(5, .int (nI 30)), (4, .int (nI 0)), (3, .int (nI (n + 29))), (2, .int (nI 30)), (0, .ref o), (1, .int (nI 1))]) hx hb dX4_close_55 hl (by decide) rfl (fun ls hl => ?_)
  refine lv_aload_n hx hb dX4_close_57 rfl (lv_at hl 4 rfl) ?_
  refine va_get (D := D) (ci := 4) (v := .int (nI 2)) (C := RX4) (T := TX4) (N := 20) hx hb hts hin_X4 hown hK hP 0 rfl rfl 2 (by decide) hw_fieldLink_RX4_45_FlowGridModel_ends_I (fun _ h9 => h9) rfl dX4_close_58 ?_
  refine lv_if_ne (tgt := 71) hx hb dX4_close_61 (by decide) (fun c61 => ?_) (fun c61 => absurd c61 (by decide))
  refine lv_aload_n hx hb dX4_close_71 rfl (lv_at hl 4 rfl) ?_
  refine va_get (D := D) (ci := 4) (v := .int (nI 2)) (C := RX4) (T := TX4) (N := 20) hx hb hts hin_X4 hown hK hP 0 rfl rfl 2 (by decide) hw_fieldLink_RX4_45_FlowGridModel_ends_I (fun _ h9 => h9) rfl dX4_close_72 ?_
  refine lv_iconst (v := nI 1) hx hb dX4_close_75 (by decide) ?_
  refine fz_icmp_neN (tgt := 86) hx hb (by omega) (by omega) dX4_close_76 (by decide) (fun c76 => ?_) (fun c76 => absurd c76 (by decide))
  refine lv_iload_n hx hb dX4_close_86 rfl (lv_at hl 2 rfl) ?_
  refine lv_istore (lv' := [(6, .int (nI (n + 29))), (5, .int (nI 30)), (4, .int (nI 0)), (3, .int (nI (n + 29))), (2, .int (nI 30)), (0, .ref o), (1, .int (nI 1))]) hx hb dX4_close_87 hl (by decide) rfl (fun ls hl => ?_)
  refine lv_aload_n hx hb dX4_close_89 rfl (lv_at hl 5 rfl) ?_
  refine va_get (D := D) (ci := 4) (v := .ref dp) (C := RX4) (T := TX4) (N := 20) hx hb hts hin_X4 hown hK hP 0 rfl rfl 10 (by decide) hw_fieldLink_RX4_7_FlowGridModel_depth_D (fun _ h9 => h9) rfl dX4_close_90 ?_
  refine lv_iload_n hx hb dX4_close_93 rfl (lv_at hl 4 rfl) ?_
  refine lv_iconst (v := nI 1) hx hb dX4_close_94 (by decide) ?_
  refine fz_isubN hx hb (by omega) dX4_close_95 ?_
  refine fz_topn (b := 29) (by omega) ?_
  refine lv_iload hx hb dX4_close_96 (lv_at hl 2 rfl) ?_
  refine fz_isubN hx hb (by omega) dX4_close_98 ?_
  refine fz_topn (b := 29) (by omega) ?_
  refine lv_aload_n hx hb dX4_close_99 rfl (lv_at hl 5 rfl) ?_
  refine va_get (D := D) (ci := 4) (v := .ref dp) (C := RX4) (T := TX4) (N := 20) hx hb hts hin_X4 hown hK hP 0 rfl rfl 10 (by decide) hw_fieldLink_RX4_7_FlowGridModel_depth_D (fun _ h9 => h9) rfl dX4_close_100 ?_
  refine lv_iload hx hb dX4_close_103 (lv_at hl 1 rfl) ?_
  refine fz_dald (i := 30) hx hb hK hP 1 0 rfl rfl (by omega) (by decide) dX4_close_105 ?_
  refine fz_dast (i := 29) hx hb hK hP hD hS 1 0 rfl rfl (by omega) (by decide) dX4_close_106 (fun H locs hP hD hS => ?_)
  have hP : va_P D vwCl [(o, .inr (4, [.int thr, .int (nI n), .int (nI 2), .int (nI lim), .int (nI sol), .int (nI ord), .double tm, .int cst, .int cfl, .int crf, .ref dp, .ref mp, .double v0, .double v1, .double v2, .double v3, .double v4, .double v5, .double v6, .double v7])), (dp, fz_da cD 84 (vf_upd dR 29 (dR 30))), (mp, fz_da cD 84 mR)] H := hP
  have hD : va_D A [(o, .inr (4, [.int thr, .int (nI n), .int (nI 2), .int (nI lim), .int (nI sol), .int (nI ord), .double tm, .int cst, .int cfl, .int crf, .ref dp, .ref mp, .double v0, .double v1, .double v2, .double v3, .double v4, .double v5, .double v6, .double v7])), (dp, fz_da cD 84 (vf_upd dR 29 (dR 30))), (mp, fz_da cD 84 mR)] := hD
  refine lv_aload_n hx hb dX4_close_107 rfl (lv_at hl 5 rfl) ?_
  refine va_get (D := D) (ci := 4) (v := .ref dp) (C := RX4) (T := TX4) (N := 20) hx hb hts hin_X4 hown hK hP 0 rfl rfl 10 (by decide) hw_fieldLink_RX4_7_FlowGridModel_depth_D (fun _ h9 => h9) rfl dX4_close_108 ?_
  refine lv_iload_n hx hb dX4_close_111 rfl (lv_at hl 3 rfl) ?_
  refine lv_iconst (v := nI 1) hx hb dX4_close_112 (by decide) ?_
  refine fz_iaddN hx hb dX4_close_113 ?_
  refine fz_topn (b := n + 30) (by omega) ?_
  refine lv_iload hx hb dX4_close_114 (lv_at hl 2 rfl) ?_
  refine fz_iaddN hx hb dX4_close_116 ?_
  refine fz_topn (b := n + 30) (by omega) ?_
  refine lv_aload_n hx hb dX4_close_117 rfl (lv_at hl 5 rfl) ?_
  refine va_get (D := D) (ci := 4) (v := .ref dp) (C := RX4) (T := TX4) (N := 20) hx hb hts hin_X4 hown hK hP 0 rfl rfl 10 (by decide) hw_fieldLink_RX4_7_FlowGridModel_depth_D (fun _ h9 => h9) rfl dX4_close_118 ?_
  refine lv_iload hx hb dX4_close_121 (lv_at hl 0 rfl) ?_
  refine fz_dald (i := n + 29) hx hb hK hP 1 0 rfl rfl (by omega) (by decide) dX4_close_123 ?_
  rw [fz_upn (by omega)]
  refine fz_dast (i := n + 30) hx hb hK hP hD hS 1 0 rfl rfl (by omega) (by decide) dX4_close_124 (fun H locs hP hD hS => ?_)
  have hP : va_P D vwCl [(o, .inr (4, [.int thr, .int (nI n), .int (nI 2), .int (nI lim), .int (nI sol), .int (nI ord), .double tm, .int cst, .int cfl, .int crf, .ref dp, .ref mp, .double v0, .double v1, .double v2, .double v3, .double v4, .double v5, .double v6, .double v7])), (dp, fz_da cD 84 (vf_upd (vf_upd dR 29 (dR 30)) (n + 30) (dR (n + 29)))), (mp, fz_da cD 84 mR)] H := hP
  have hD : va_D A [(o, .inr (4, [.int thr, .int (nI n), .int (nI 2), .int (nI lim), .int (nI sol), .int (nI ord), .double tm, .int cst, .int cfl, .int crf, .ref dp, .ref mp, .double v0, .double v1, .double v2, .double v3, .double v4, .double v5, .double v6, .double v7])), (dp, fz_da cD 84 (vf_upd (vf_upd dR 29 (dR 30)) (n + 30) (dR (n + 29)))), (mp, fz_da cD 84 mR)] := hD
  refine lv_aload_n hx hb dX4_close_125 rfl (lv_at hl 5 rfl) ?_
  refine va_get (D := D) (ci := 4) (v := .ref mp) (C := RX4) (T := TX4) (N := 20) hx hb hts hin_X4 hown hK hP 0 rfl rfl 11 (by decide) hw_fieldLink_RX4_13_FlowGridModel_momentum_D (fun _ h9 => h9) rfl dX4_close_126 ?_
  refine lv_iload_n hx hb dX4_close_129 rfl (lv_at hl 4 rfl) ?_
  refine lv_iconst (v := nI 1) hx hb dX4_close_130 (by decide) ?_
  refine fz_isubN hx hb (by omega) dX4_close_131 ?_
  refine fz_topn (b := 29) (by omega) ?_
  refine lv_iload hx hb dX4_close_132 (lv_at hl 2 rfl) ?_
  refine fz_isubN hx hb (by omega) dX4_close_134 ?_
  refine fz_topn (b := 29) (by omega) ?_
  refine lv_aload_n hx hb dX4_close_135 rfl (lv_at hl 5 rfl) ?_
  refine va_get (D := D) (ci := 4) (v := .int (nI 2)) (C := RX4) (T := TX4) (N := 20) hx hb hts hin_X4 hown hK hP 0 rfl rfl 2 (by decide) hw_fieldLink_RX4_45_FlowGridModel_ends_I (fun _ h9 => h9) rfl dX4_close_136 ?_
  refine lv_iconst (v := nI 1) hx hb dX4_close_139 (by decide) ?_
  refine fz_icmp_neN (tgt := 154) hx hb (by omega) (by omega) dX4_close_140 (by decide) (fun c140 => ?_) (fun c140 => absurd c140 (by decide))
  refine lv_aload_n hx hb dX4_close_154 rfl (lv_at hl 5 rfl) ?_
  refine va_get (D := D) (ci := 4) (v := .ref mp) (C := RX4) (T := TX4) (N := 20) hx hb hts hin_X4 hown hK hP 0 rfl rfl 11 (by decide) hw_fieldLink_RX4_13_FlowGridModel_momentum_D (fun _ h9 => h9) rfl dX4_close_155 ?_
  refine lv_iload hx hb dX4_close_158 (lv_at hl 1 rfl) ?_
  refine fz_dald (i := 30) hx hb hK hP 2 0 rfl rfl (by omega) (by decide) dX4_close_160 ?_
  refine fz_dast (i := 29) hx hb hK hP hD hS 2 0 rfl rfl (by omega) (by decide) dX4_close_161 (fun H locs hP hD hS => ?_)
  have hP : va_P D vwCl [(o, .inr (4, [.int thr, .int (nI n), .int (nI 2), .int (nI lim), .int (nI sol), .int (nI ord), .double tm, .int cst, .int cfl, .int crf, .ref dp, .ref mp, .double v0, .double v1, .double v2, .double v3, .double v4, .double v5, .double v6, .double v7])), (dp, fz_da cD 84 (vf_upd (vf_upd dR 29 (dR 30)) (n + 30) (dR (n + 29)))), (mp, fz_da cD 84 (vf_upd mR 29 (mR 30)))] H := hP
  have hD : va_D A [(o, .inr (4, [.int thr, .int (nI n), .int (nI 2), .int (nI lim), .int (nI sol), .int (nI ord), .double tm, .int cst, .int cfl, .int crf, .ref dp, .ref mp, .double v0, .double v1, .double v2, .double v3, .double v4, .double v5, .double v6, .double v7])), (dp, fz_da cD 84 (vf_upd (vf_upd dR 29 (dR 30)) (n + 30) (dR (n + 29)))), (mp, fz_da cD 84 (vf_upd mR 29 (mR 30)))] := hD
  refine lv_aload_n hx hb dX4_close_162 rfl (lv_at hl 5 rfl) ?_
  refine va_get (D := D) (ci := 4) (v := .ref mp) (C := RX4) (T := TX4) (N := 20) hx hb hts hin_X4 hown hK hP 0 rfl rfl 11 (by decide) hw_fieldLink_RX4_13_FlowGridModel_momentum_D (fun _ h9 => h9) rfl dX4_close_163 ?_
  refine lv_iload_n hx hb dX4_close_166 rfl (lv_at hl 3 rfl) ?_
  refine lv_iconst (v := nI 1) hx hb dX4_close_167 (by decide) ?_
  refine fz_iaddN hx hb dX4_close_168 ?_
  refine fz_topn (b := n + 30) (by omega) ?_
  refine lv_iload hx hb dX4_close_169 (lv_at hl 2 rfl) ?_
  refine fz_iaddN hx hb dX4_close_171 ?_
  refine fz_topn (b := n + 30) (by omega) ?_
  refine lv_aload_n hx hb dX4_close_172 rfl (lv_at hl 5 rfl) ?_
  refine va_get (D := D) (ci := 4) (v := .int (nI 2)) (C := RX4) (T := TX4) (N := 20) hx hb hts hin_X4 hown hK hP 0 rfl rfl 2 (by decide) hw_fieldLink_RX4_45_FlowGridModel_ends_I (fun _ h9 => h9) rfl dX4_close_173 ?_
  refine lv_iconst (v := nI 1) hx hb dX4_close_176 (by decide) ?_
  refine fz_icmp_neN (tgt := 191) hx hb (by omega) (by omega) dX4_close_177 (by decide) (fun c177 => ?_) (fun c177 => absurd c177 (by decide))
  refine lv_aload_n hx hb dX4_close_191 rfl (lv_at hl 5 rfl) ?_
  refine va_get (D := D) (ci := 4) (v := .ref mp) (C := RX4) (T := TX4) (N := 20) hx hb hts hin_X4 hown hK hP 0 rfl rfl 11 (by decide) hw_fieldLink_RX4_13_FlowGridModel_momentum_D (fun _ h9 => h9) rfl dX4_close_192 ?_
  refine lv_iload hx hb dX4_close_195 (lv_at hl 0 rfl) ?_
  refine fz_dald (i := n + 29) hx hb hK hP 2 0 rfl rfl (by omega) (by decide) dX4_close_197 ?_
  rw [fz_upn (by omega)]
  refine fz_dast (i := n + 30) hx hb hK hP hD hS 2 0 rfl rfl (by omega) (by decide) dX4_close_198 (fun H locs hP hD hS => ?_)
  have hP : va_P D vwCl [(o, .inr (4, [.int thr, .int (nI n), .int (nI 2), .int (nI lim), .int (nI sol), .int (nI ord), .double tm, .int cst, .int cfl, .int crf, .ref dp, .ref mp, .double v0, .double v1, .double v2, .double v3, .double v4, .double v5, .double v6, .double v7])), (dp, fz_da cD 84 (vf_upd (vf_upd dR 29 (dR 30)) (n + 30) (dR (n + 29)))), (mp, fz_da cD 84 (vf_upd (vf_upd mR 29 (mR 30)) (n + 30) (mR (n + 29))))] H := hP
  have hD : va_D A [(o, .inr (4, [.int thr, .int (nI n), .int (nI 2), .int (nI lim), .int (nI sol), .int (nI ord), .double tm, .int cst, .int cfl, .int crf, .ref dp, .ref mp, .double v0, .double v1, .double v2, .double v3, .double v4, .double v5, .double v6, .double v7])), (dp, fz_da cD 84 (vf_upd (vf_upd dR 29 (dR 30)) (n + 30) (dR (n + 29)))), (mp, fz_da cD 84 (vf_upd (vf_upd mR 29 (mR 30)) (n + 30) (mR (n + 29))))] := hD
  refine lv_iinc (v := nI (1)) (lv' := [(4, .int (nI 1)), (6, .int (nI (n + 29))), (5, .int (nI 30)), (3, .int (nI (n + 29))), (2, .int (nI 30)), (0, .ref o), (1, .int (nI 1))]) hx hb dX4_close_199 hl (k := 2) rfl (nI_1 _) (by decide) rfl (fun ls hl => ?_)
  refine lv_goto (tgt := 19) hx hb dX4_close_202 (by decide) ?_
  refine lv_iload hx hb dX4_close_19 (lv_at hl 0 rfl) ?_
  refine lv_iconst (v := nI 2) hx hb dX4_close_21 (by decide) ?_
  refine fz_icmp_geN (tgt := 205) hx hb (by omega) (by omega) dX4_close_22 (by decide) (fun c22 => absurd c22 (by decide)) (fun c22 => ?_)
  refine lv_aload_n hx hb dX4_close_25 rfl (lv_at hl 5 rfl) ?_
  refine va_get (D := D) (ci := 4) (v := .int (nI 2)) (C := RX4) (T := TX4) (N := 20) hx hb hts hin_X4 hown hK hP 0 rfl rfl 2 (by decide) hw_fieldLink_RX4_45_FlowGridModel_ends_I (fun _ h9 => h9) rfl dX4_close_26 ?_
  refine lv_if_ne (tgt := 39) hx hb dX4_close_29 (by decide) (fun c29 => ?_) (fun c29 => absurd c29 (by decide))
  refine lv_aload_n hx hb dX4_close_39 rfl (lv_at hl 5 rfl) ?_
  refine va_get (D := D) (ci := 4) (v := .int (nI 2)) (C := RX4) (T := TX4) (N := 20) hx hb hts hin_X4 hown hK hP 0 rfl rfl 2 (by decide) hw_fieldLink_RX4_45_FlowGridModel_ends_I (fun _ h9 => h9) rfl dX4_close_40 ?_
  refine lv_iconst (v := nI 1) hx hb dX4_close_43 (by decide) ?_
  refine fz_icmp_neN (tgt := 54) hx hb (by omega) (by omega) dX4_close_44 (by decide) (fun c44 => ?_) (fun c44 => absurd c44 (by decide))
  refine lv_iload_n hx hb dX4_close_54 rfl (lv_at hl 4 rfl) ?_
  refine lv_istore (lv' := [(5, .int (nI 30)), (4, .int (nI 1)), (6, .int (nI (n + 29))), (3, .int (nI (n + 29))), (2, .int (nI 30)), (0, .ref o), (1, .int (nI 1))]) hx hb dX4_close_55 hl (by decide) rfl (fun ls hl => ?_)
  refine lv_aload_n hx hb dX4_close_57 rfl (lv_at hl 5 rfl) ?_
  refine va_get (D := D) (ci := 4) (v := .int (nI 2)) (C := RX4) (T := TX4) (N := 20) hx hb hts hin_X4 hown hK hP 0 rfl rfl 2 (by decide) hw_fieldLink_RX4_45_FlowGridModel_ends_I (fun _ h9 => h9) rfl dX4_close_58 ?_
  refine lv_if_ne (tgt := 71) hx hb dX4_close_61 (by decide) (fun c61 => ?_) (fun c61 => absurd c61 (by decide))
  refine lv_aload_n hx hb dX4_close_71 rfl (lv_at hl 5 rfl) ?_
  refine va_get (D := D) (ci := 4) (v := .int (nI 2)) (C := RX4) (T := TX4) (N := 20) hx hb hts hin_X4 hown hK hP 0 rfl rfl 2 (by decide) hw_fieldLink_RX4_45_FlowGridModel_ends_I (fun _ h9 => h9) rfl dX4_close_72 ?_
  refine lv_iconst (v := nI 1) hx hb dX4_close_75 (by decide) ?_
  refine fz_icmp_neN (tgt := 86) hx hb (by omega) (by omega) dX4_close_76 (by decide) (fun c76 => ?_) (fun c76 => absurd c76 (by decide))
  refine lv_iload_n hx hb dX4_close_86 rfl (lv_at hl 3 rfl) ?_
  refine lv_istore (lv' := [(6, .int (nI (n + 29))), (5, .int (nI 30)), (4, .int (nI 1)), (3, .int (nI (n + 29))), (2, .int (nI 30)), (0, .ref o), (1, .int (nI 1))]) hx hb dX4_close_87 hl (by decide) rfl (fun ls hl => ?_)
  refine lv_aload_n hx hb dX4_close_89 rfl (lv_at hl 5 rfl) ?_
  refine va_get (D := D) (ci := 4) (v := .ref dp) (C := RX4) (T := TX4) (N := 20) hx hb hts hin_X4 hown hK hP 0 rfl rfl 10 (by decide) hw_fieldLink_RX4_7_FlowGridModel_depth_D (fun _ h9 => h9) rfl dX4_close_90 ?_
  refine lv_iload_n hx hb dX4_close_93 rfl (lv_at hl 4 rfl) ?_
  refine lv_iconst (v := nI 1) hx hb dX4_close_94 (by decide) ?_
  refine fz_isubN hx hb (by omega) dX4_close_95 ?_
  refine fz_topn (b := 29) (by omega) ?_
  refine lv_iload hx hb dX4_close_96 (lv_at hl 2 rfl) ?_
  refine fz_isubN hx hb (by omega) dX4_close_98 ?_
  refine fz_topn (b := 28) (by omega) ?_
  refine lv_aload_n hx hb dX4_close_99 rfl (lv_at hl 5 rfl) ?_
  refine va_get (D := D) (ci := 4) (v := .ref dp) (C := RX4) (T := TX4) (N := 20) hx hb hts hin_X4 hown hK hP 0 rfl rfl 10 (by decide) hw_fieldLink_RX4_7_FlowGridModel_depth_D (fun _ h9 => h9) rfl dX4_close_100 ?_
  refine lv_iload hx hb dX4_close_103 (lv_at hl 1 rfl) ?_
  refine fz_dald (i := 30) hx hb hK hP 1 0 rfl rfl (by omega) (by decide) dX4_close_105 ?_
  rw [fz_upn (by omega), fz_upn (by omega)]
  refine fz_dast (i := 28) hx hb hK hP hD hS 1 0 rfl rfl (by omega) (by decide) dX4_close_106 (fun H locs hP hD hS => ?_)
  have hP : va_P D vwCl [(o, .inr (4, [.int thr, .int (nI n), .int (nI 2), .int (nI lim), .int (nI sol), .int (nI ord), .double tm, .int cst, .int cfl, .int crf, .ref dp, .ref mp, .double v0, .double v1, .double v2, .double v3, .double v4, .double v5, .double v6, .double v7])), (dp, fz_da cD 84 (vf_upd (vf_upd (vf_upd dR 29 (dR 30)) (n + 30) (dR (n + 29))) 28 (dR 30))), (mp, fz_da cD 84 (vf_upd (vf_upd mR 29 (mR 30)) (n + 30) (mR (n + 29))))] H := hP
  have hD : va_D A [(o, .inr (4, [.int thr, .int (nI n), .int (nI 2), .int (nI lim), .int (nI sol), .int (nI ord), .double tm, .int cst, .int cfl, .int crf, .ref dp, .ref mp, .double v0, .double v1, .double v2, .double v3, .double v4, .double v5, .double v6, .double v7])), (dp, fz_da cD 84 (vf_upd (vf_upd (vf_upd dR 29 (dR 30)) (n + 30) (dR (n + 29))) 28 (dR 30))), (mp, fz_da cD 84 (vf_upd (vf_upd mR 29 (mR 30)) (n + 30) (mR (n + 29))))] := hD
  refine lv_aload_n hx hb dX4_close_107 rfl (lv_at hl 5 rfl) ?_
  refine va_get (D := D) (ci := 4) (v := .ref dp) (C := RX4) (T := TX4) (N := 20) hx hb hts hin_X4 hown hK hP 0 rfl rfl 10 (by decide) hw_fieldLink_RX4_7_FlowGridModel_depth_D (fun _ h9 => h9) rfl dX4_close_108 ?_
  refine lv_iload_n hx hb dX4_close_111 rfl (lv_at hl 3 rfl) ?_
  refine lv_iconst (v := nI 1) hx hb dX4_close_112 (by decide) ?_
  refine fz_iaddN hx hb dX4_close_113 ?_
  refine fz_topn (b := n + 30) (by omega) ?_
  refine lv_iload hx hb dX4_close_114 (lv_at hl 2 rfl) ?_
  refine fz_iaddN hx hb dX4_close_116 ?_
  refine fz_topn (b := n + 31) (by omega) ?_
  refine lv_aload_n hx hb dX4_close_117 rfl (lv_at hl 5 rfl) ?_
  refine va_get (D := D) (ci := 4) (v := .ref dp) (C := RX4) (T := TX4) (N := 20) hx hb hts hin_X4 hown hK hP 0 rfl rfl 10 (by decide) hw_fieldLink_RX4_7_FlowGridModel_depth_D (fun _ h9 => h9) rfl dX4_close_118 ?_
  refine lv_iload hx hb dX4_close_121 (lv_at hl 0 rfl) ?_
  refine fz_dald (i := n + 29) hx hb hK hP 1 0 rfl rfl (by omega) (by decide) dX4_close_123 ?_
  rw [fz_upn (by omega), fz_upn (by omega), fz_upn (by omega)]
  refine fz_dast (i := n + 31) hx hb hK hP hD hS 1 0 rfl rfl (by omega) (by decide) dX4_close_124 (fun H locs hP hD hS => ?_)
  have hP : va_P D vwCl [(o, .inr (4, [.int thr, .int (nI n), .int (nI 2), .int (nI lim), .int (nI sol), .int (nI ord), .double tm, .int cst, .int cfl, .int crf, .ref dp, .ref mp, .double v0, .double v1, .double v2, .double v3, .double v4, .double v5, .double v6, .double v7])), (dp, fz_da cD 84 (vf_upd (vf_upd (vf_upd (vf_upd dR 29 (dR 30)) (n + 30) (dR (n + 29))) 28 (dR 30)) (n + 31) (dR (n + 29)))), (mp, fz_da cD 84 (vf_upd (vf_upd mR 29 (mR 30)) (n + 30) (mR (n + 29))))] H := hP
  have hD : va_D A [(o, .inr (4, [.int thr, .int (nI n), .int (nI 2), .int (nI lim), .int (nI sol), .int (nI ord), .double tm, .int cst, .int cfl, .int crf, .ref dp, .ref mp, .double v0, .double v1, .double v2, .double v3, .double v4, .double v5, .double v6, .double v7])), (dp, fz_da cD 84 (vf_upd (vf_upd (vf_upd (vf_upd dR 29 (dR 30)) (n + 30) (dR (n + 29))) 28 (dR 30)) (n + 31) (dR (n + 29)))), (mp, fz_da cD 84 (vf_upd (vf_upd mR 29 (mR 30)) (n + 30) (mR (n + 29))))] := hD
  refine lv_aload_n hx hb dX4_close_125 rfl (lv_at hl 5 rfl) ?_
  refine va_get (D := D) (ci := 4) (v := .ref mp) (C := RX4) (T := TX4) (N := 20) hx hb hts hin_X4 hown hK hP 0 rfl rfl 11 (by decide) hw_fieldLink_RX4_13_FlowGridModel_momentum_D (fun _ h9 => h9) rfl dX4_close_126 ?_
  refine lv_iload_n hx hb dX4_close_129 rfl (lv_at hl 4 rfl) ?_
  refine lv_iconst (v := nI 1) hx hb dX4_close_130 (by decide) ?_
  refine fz_isubN hx hb (by omega) dX4_close_131 ?_
  refine fz_topn (b := 29) (by omega) ?_
  refine lv_iload hx hb dX4_close_132 (lv_at hl 2 rfl) ?_
  refine fz_isubN hx hb (by omega) dX4_close_134 ?_
  refine fz_topn (b := 28) (by omega) ?_
  refine lv_aload_n hx hb dX4_close_135 rfl (lv_at hl 5 rfl) ?_
  refine va_get (D := D) (ci := 4) (v := .int (nI 2)) (C := RX4) (T := TX4) (N := 20) hx hb hts hin_X4 hown hK hP 0 rfl rfl 2 (by decide) hw_fieldLink_RX4_45_FlowGridModel_ends_I (fun _ h9 => h9) rfl dX4_close_136 ?_
  refine lv_iconst (v := nI 1) hx hb dX4_close_139 (by decide) ?_
  refine fz_icmp_neN (tgt := 154) hx hb (by omega) (by omega) dX4_close_140 (by decide) (fun c140 => ?_) (fun c140 => absurd c140 (by decide))
  refine lv_aload_n hx hb dX4_close_154 rfl (lv_at hl 5 rfl) ?_
  refine va_get (D := D) (ci := 4) (v := .ref mp) (C := RX4) (T := TX4) (N := 20) hx hb hts hin_X4 hown hK hP 0 rfl rfl 11 (by decide) hw_fieldLink_RX4_13_FlowGridModel_momentum_D (fun _ h9 => h9) rfl dX4_close_155 ?_
  refine lv_iload hx hb dX4_close_158 (lv_at hl 1 rfl) ?_
  refine fz_dald (i := 30) hx hb hK hP 2 0 rfl rfl (by omega) (by decide) dX4_close_160 ?_
  rw [fz_upn (by omega), fz_upn (by omega)]
  refine fz_dast (i := 28) hx hb hK hP hD hS 2 0 rfl rfl (by omega) (by decide) dX4_close_161 (fun H locs hP hD hS => ?_)
  have hP : va_P D vwCl [(o, .inr (4, [.int thr, .int (nI n), .int (nI 2), .int (nI lim), .int (nI sol), .int (nI ord), .double tm, .int cst, .int cfl, .int crf, .ref dp, .ref mp, .double v0, .double v1, .double v2, .double v3, .double v4, .double v5, .double v6, .double v7])), (dp, fz_da cD 84 (vf_upd (vf_upd (vf_upd (vf_upd dR 29 (dR 30)) (n + 30) (dR (n + 29))) 28 (dR 30)) (n + 31) (dR (n + 29)))), (mp, fz_da cD 84 (vf_upd (vf_upd (vf_upd mR 29 (mR 30)) (n + 30) (mR (n + 29))) 28 (mR 30)))] H := hP
  have hD : va_D A [(o, .inr (4, [.int thr, .int (nI n), .int (nI 2), .int (nI lim), .int (nI sol), .int (nI ord), .double tm, .int cst, .int cfl, .int crf, .ref dp, .ref mp, .double v0, .double v1, .double v2, .double v3, .double v4, .double v5, .double v6, .double v7])), (dp, fz_da cD 84 (vf_upd (vf_upd (vf_upd (vf_upd dR 29 (dR 30)) (n + 30) (dR (n + 29))) 28 (dR 30)) (n + 31) (dR (n + 29)))), (mp, fz_da cD 84 (vf_upd (vf_upd (vf_upd mR 29 (mR 30)) (n + 30) (mR (n + 29))) 28 (mR 30)))] := hD
  refine lv_aload_n hx hb dX4_close_162 rfl (lv_at hl 5 rfl) ?_
  refine va_get (D := D) (ci := 4) (v := .ref mp) (C := RX4) (T := TX4) (N := 20) hx hb hts hin_X4 hown hK hP 0 rfl rfl 11 (by decide) hw_fieldLink_RX4_13_FlowGridModel_momentum_D (fun _ h9 => h9) rfl dX4_close_163 ?_
  refine lv_iload_n hx hb dX4_close_166 rfl (lv_at hl 3 rfl) ?_
  refine lv_iconst (v := nI 1) hx hb dX4_close_167 (by decide) ?_
  refine fz_iaddN hx hb dX4_close_168 ?_
  refine fz_topn (b := n + 30) (by omega) ?_
  refine lv_iload hx hb dX4_close_169 (lv_at hl 2 rfl) ?_
  refine fz_iaddN hx hb dX4_close_171 ?_
  refine fz_topn (b := n + 31) (by omega) ?_
  refine lv_aload_n hx hb dX4_close_172 rfl (lv_at hl 5 rfl) ?_
  refine va_get (D := D) (ci := 4) (v := .int (nI 2)) (C := RX4) (T := TX4) (N := 20) hx hb hts hin_X4 hown hK hP 0 rfl rfl 2 (by decide) hw_fieldLink_RX4_45_FlowGridModel_ends_I (fun _ h9 => h9) rfl dX4_close_173 ?_
  refine lv_iconst (v := nI 1) hx hb dX4_close_176 (by decide) ?_
  refine fz_icmp_neN (tgt := 191) hx hb (by omega) (by omega) dX4_close_177 (by decide) (fun c177 => ?_) (fun c177 => absurd c177 (by decide))
  refine lv_aload_n hx hb dX4_close_191 rfl (lv_at hl 5 rfl) ?_
  refine va_get (D := D) (ci := 4) (v := .ref mp) (C := RX4) (T := TX4) (N := 20) hx hb hts hin_X4 hown hK hP 0 rfl rfl 11 (by decide) hw_fieldLink_RX4_13_FlowGridModel_momentum_D (fun _ h9 => h9) rfl dX4_close_192 ?_
  refine lv_iload hx hb dX4_close_195 (lv_at hl 0 rfl) ?_
  refine fz_dald (i := n + 29) hx hb hK hP 2 0 rfl rfl (by omega) (by decide) dX4_close_197 ?_
  rw [fz_upn (by omega), fz_upn (by omega), fz_upn (by omega)]
  refine fz_dast (i := n + 31) hx hb hK hP hD hS 2 0 rfl rfl (by omega) (by decide) dX4_close_198 (fun H locs hP hD hS => ?_)
  have hP : va_P D vwCl [(o, .inr (4, [.int thr, .int (nI n), .int (nI 2), .int (nI lim), .int (nI sol), .int (nI ord), .double tm, .int cst, .int cfl, .int crf, .ref dp, .ref mp, .double v0, .double v1, .double v2, .double v3, .double v4, .double v5, .double v6, .double v7])), (dp, fz_da cD 84 (vf_upd (vf_upd (vf_upd (vf_upd dR 29 (dR 30)) (n + 30) (dR (n + 29))) 28 (dR 30)) (n + 31) (dR (n + 29)))), (mp, fz_da cD 84 (vf_upd (vf_upd (vf_upd (vf_upd mR 29 (mR 30)) (n + 30) (mR (n + 29))) 28 (mR 30)) (n + 31) (mR (n + 29))))] H := hP
  have hD : va_D A [(o, .inr (4, [.int thr, .int (nI n), .int (nI 2), .int (nI lim), .int (nI sol), .int (nI ord), .double tm, .int cst, .int cfl, .int crf, .ref dp, .ref mp, .double v0, .double v1, .double v2, .double v3, .double v4, .double v5, .double v6, .double v7])), (dp, fz_da cD 84 (vf_upd (vf_upd (vf_upd (vf_upd dR 29 (dR 30)) (n + 30) (dR (n + 29))) 28 (dR 30)) (n + 31) (dR (n + 29)))), (mp, fz_da cD 84 (vf_upd (vf_upd (vf_upd (vf_upd mR 29 (mR 30)) (n + 30) (mR (n + 29))) 28 (mR 30)) (n + 31) (mR (n + 29))))] := hD
  refine lv_iinc (v := nI (2)) (lv' := [(4, .int (nI 2)), (6, .int (nI (n + 29))), (5, .int (nI 30)), (3, .int (nI (n + 29))), (2, .int (nI 30)), (0, .ref o), (1, .int (nI 1))]) hx hb dX4_close_199 hl (k := 2) rfl (nI_1 _) (by decide) rfl (fun ls hl => ?_)
  refine lv_goto (tgt := 19) hx hb dX4_close_202 (by decide) ?_
  refine lv_iload hx hb dX4_close_19 (lv_at hl 0 rfl) ?_
  refine lv_iconst (v := nI 2) hx hb dX4_close_21 (by decide) ?_
  refine fz_icmp_geN (tgt := 205) hx hb (by omega) (by omega) dX4_close_22 (by decide) (fun c22 => ?_) (fun c22 => absurd c22 (by decide))
  obtain ⟨hP, hD⟩ := fz_swapf (a := dp) (cD := cD) (n := 84) (g := fz_put 28 dR (fz_ends 2 false n (fz_row dR 28))) 1 rfl (fun i _ => fz_clq 28 n hn4 hn dR (fz_ends 2 false n (fz_row dR 28)) _ _ _ _ (by simp [fz_ends, fz_row]) (by simp [fz_ends, fz_row]) (by simp [fz_ends, fz_row]) (by simp [fz_ends, fz_row]) (fun q h1 h0 h2 h3 => by simp [fz_ends, fz_row, h1, h0, h2, h3]) i) hP hD
  have hP : va_P D vwCl [(o, .inr (4, [.int thr, .int (nI n), .int (nI 2), .int (nI lim), .int (nI sol), .int (nI ord), .double tm, .int cst, .int cfl, .int crf, .ref dp, .ref mp, .double v0, .double v1, .double v2, .double v3, .double v4, .double v5, .double v6, .double v7])), (dp, fz_da cD 84 (fz_put 28 dR (fz_ends 2 false n (fz_row dR 28)))), (mp, fz_da cD 84 (vf_upd (vf_upd (vf_upd (vf_upd mR 29 (mR 30)) (n + 30) (mR (n + 29))) 28 (mR 30)) (n + 31) (mR (n + 29))))] H := hP
  have hD : va_D A [(o, .inr (4, [.int thr, .int (nI n), .int (nI 2), .int (nI lim), .int (nI sol), .int (nI ord), .double tm, .int cst, .int cfl, .int crf, .ref dp, .ref mp, .double v0, .double v1, .double v2, .double v3, .double v4, .double v5, .double v6, .double v7])), (dp, fz_da cD 84 (fz_put 28 dR (fz_ends 2 false n (fz_row dR 28)))), (mp, fz_da cD 84 (vf_upd (vf_upd (vf_upd (vf_upd mR 29 (mR 30)) (n + 30) (mR (n + 29))) 28 (mR 30)) (n + 31) (mR (n + 29))))] := hD
  obtain ⟨hP, hD⟩ := fz_swapf (a := mp) (cD := cD) (n := 84) (g := fz_put 28 mR (fz_ends 2 true n (fz_row mR 28))) 2 rfl (fun i _ => fz_clq 28 n hn4 hn mR (fz_ends 2 true n (fz_row mR 28)) _ _ _ _ (by simp [fz_ends, fz_row]) (by simp [fz_ends, fz_row]) (by simp [fz_ends, fz_row]) (by simp [fz_ends, fz_row]) (fun q h1 h0 h2 h3 => by simp [fz_ends, fz_row, h1, h0, h2, h3]) i) hP hD
  have hP : va_P D vwCl [(o, .inr (4, [.int thr, .int (nI n), .int (nI 2), .int (nI lim), .int (nI sol), .int (nI ord), .double tm, .int cst, .int cfl, .int crf, .ref dp, .ref mp, .double v0, .double v1, .double v2, .double v3, .double v4, .double v5, .double v6, .double v7])), (dp, fz_da cD 84 (fz_put 28 dR (fz_ends 2 false n (fz_row dR 28)))), (mp, fz_da cD 84 (fz_put 28 mR (fz_ends 2 true n (fz_row mR 28))))] H := hP
  have hD : va_D A [(o, .inr (4, [.int thr, .int (nI n), .int (nI 2), .int (nI lim), .int (nI sol), .int (nI ord), .double tm, .int cst, .int cfl, .int crf, .ref dp, .ref mp, .double v0, .double v1, .double v2, .double v3, .double v4, .double v5, .double v6, .double v7])), (dp, fz_da cD 84 (fz_put 28 dR (fz_ends 2 false n (fz_row dR 28)))), (mp, fz_da cD 84 (fz_put 28 mR (fz_ends 2 true n (fz_row mR 28))))] := hD
  exact fz_vret hx hb hr hlocks (rfl) hP hK hD hS dX4_close_205

theorem c_X4_close1 (l : Launch) (D : va_G) (cD : ClassId) (o dp mp n kd lim sol ord : Nat) (dR mR : Nat → UInt64) (thr : Int32) (tm v0 v1 v2 v3 v4 v5 v6 v7 : UInt64) (cst cfl crf : Int32) (hkd : kd ≤ 2) (hn4 : 4 ≤ n) (hn : n ≤ 24) : fz_C l D [(cD, .double)] yX4_close wsX4_close ({ frames := 0, cells := 0, slots := 0, locals := 0 }) [.ref o, .int (nI 1)] [(o, .inr (4, [.int thr, .int (nI n), .int (nI kd), .int (nI lim), .int (nI sol), .int (nI ord), .double tm, .int cst, .int cfl, .int crf, .ref dp, .ref mp, .double v0, .double v1, .double v2, .double v3, .double v4, .double v5, .double v6, .double v7])), (dp, fz_da cD 84 dR), (mp, fz_da cD 84 mR)] [(o, .inr (4, [.int thr, .int (nI n), .int (nI kd), .int (nI lim), .int (nI sol), .int (nI ord), .double tm, .int cst, .int cfl, .int crf, .ref dp, .ref mp, .double v0, .double v1, .double v2, .double v3, .double v4, .double v5, .double v6, .double v7])), (dp, fz_da cD 84 (fz_put 28 dR (fz_ends kd false n (fz_row dR 28)))), (mp, fz_da cD 84 (fz_put 28 mR (fz_ends kd true n (fz_row mR 28))))] none := by
  rcases (show kd = 0 ∨ kd = 1 ∨ kd = 2 by omega) with rfl | rfl | rfl
  · exact c_X4_close10 l D cD o dp mp n lim sol ord dR mR thr tm v0 v1 v2 v3 v4 v5 v6 v7 cst cfl crf hn4 hn
  · exact c_X4_close11 l D cD o dp mp n lim sol ord dR mR thr tm v0 v1 v2 v3 v4 v5 v6 v7 cst cfl crf hn4 hn
  · exact c_X4_close12 l D cD o dp mp n lim sol ord dR mR thr tm v0 v1 v2 v3 v4 v5 v6 v7 cst cfl crf hn4 hn

set_option maxHeartbeats 4000000 in
set_option maxRecDepth 100000 in
theorem c_X4_face0 (l : Launch) (D : va_G) (cD : ClassId) (o dp mp n kd lim ord : Nat) (dR mR : Nat → UInt64) (thr : Int32) (tm v0 v1 v2 v3 v4 v5 v6 v7 : UInt64) (cst cfl crf : Int32) (rw k : Nat) (hrw : rw ≤ 1) (hk : k ≤ 24) (hlim : lim ≤ 3) (hok : fz_fcOk lim 0 dR mR (k + 28 * rw)) : fz_E l D [(cD, .double)] yX4_face wsX4_face ({ frames := 4, cells := 0, slots := 0, locals := 120 }) [.ref o, .int (nI rw), .int (nI k)] [(o, .inr (4, [.int thr, .int (nI n), .int (nI kd), .int (nI lim), .int (nI 0), .int (nI ord), .double tm, .int cst, .int cfl, .int crf, .ref dp, .ref mp, .double v0, .double v1, .double v2, .double v3, .double v4, .double v5, .double v6, .double v7])), (dp, fz_da cD 84 dR), (mp, fz_da cD 84 mR)] (fun ov wo => ∃ (x0 x1 x2 x3 x4 x5 : UInt64), ov = none ∧ wo = [(o, .inr (4, [.int thr, .int (nI n), .int (nI kd), .int (nI lim), .int (nI 0), .int (nI ord), .double tm, .int cst, .int cfl, .int crf, .ref dp, .ref mp, .double x0, .double x1, .double x2, .double x3, .double x4, .double x5, .double (fz_FHi lim 0 dR mR (k + 28 * rw)), .double (fz_FMi lim 0 dR mR (k + 28 * rw))])), (dp, fz_da cD 84 dR), (mp, fz_da cD 84 mR)]) := by
  refine fz_startE (cc := cX4_face) (maxL := 20) (ret := none) (by decide) rfl (Nat.le_of_ble_eq_true rfl) ?_
  intro p e s m below meth c A hx hb hr hlocks hml hown hts hK hA hNW H locs hP hD hS ls hl
  have hl : lv_has ls 20 [(0, .ref o), (1, .int (nI rw)), (2, .int (nI k))] := hl
  have hown : s.vm.findClass RX4 = some m.cls := hown
  have hw_fieldLink_RX4_7_FlowGridModel_depth_D := hts (.fieldLink RX4 7 "FlowGridModel" "depth" "[D") (by decide +kernel)
  have hin_X4 : ∀ w ∈ u_ws RX4 TX4 20, w ∈ wsX4_face := by decide +kernel
  have hw_constantDouble_RX4_63_4602678819172646912 := hts (.constantDouble RX4 63 (4602678819172646912)) (by decide +kernel)
  have hw_fieldLink_RX4_81_FlowGridModel_slopeH_D := hts (.fieldLink RX4 81 "FlowGridModel" "slopeH" "D") (by decide +kernel)
  have hw_fieldLink_RX4_92_FlowGridModel_leftH_D := hts (.fieldLink RX4 92 "FlowGridModel" "leftH" "D") (by decide +kernel)
  have hw_fieldLink_RX4_13_FlowGridModel_momentum_D := hts (.fieldLink RX4 13 "FlowGridModel" "momentum" "[D") (by decide +kernel)
  have hw_fieldLink_RX4_84_FlowGridModel_slopeM_D := hts (.fieldLink RX4 84 "FlowGridModel" "slopeM" "D") (by decide +kernel)
  have hw_fieldLink_RX4_95_FlowGridModel_leftM_D := hts (.fieldLink RX4 95 "FlowGridModel" "leftM" "D") (by decide +kernel)
  have hw_fieldLink_RX4_98_FlowGridModel_rightH_D := hts (.fieldLink RX4 98 "FlowGridModel" "rightH" "D") (by decide +kernel)
  have hw_fieldLink_RX4_101_FlowGridModel_rightM_D := hts (.fieldLink RX4 101 "FlowGridModel" "rightM" "D") (by decide +kernel)
  have hw_fieldLink_RX4_48_FlowGridModel_solver_I := hts (.fieldLink RX4 48 "FlowGridModel" "solver" "I") (by decide +kernel)
  have hw_fieldLink_RX4_117_FlowGridModel_fluxH_D := hts (.fieldLink RX4 117 "FlowGridModel" "fluxH" "D") (by decide +kernel)
  have hw_fieldLink_RX4_120_FlowGridModel_fluxM_D := hts (.fieldLink RX4 120 "FlowGridModel" "fluxM" "D") (by decide +kernel)
  refine lv_bipush (v := nI 28) hx hb dX4_face_0 (by decide) ?_
  refine lv_iload_n hx hb dX4_face_2 rfl (lv_at hl 1 rfl) ?_
  refine fz_imulN hx hb dX4_face_3 ?_
  refine fz_topn (b := 28 * rw) (by omega) ?_
  refine lv_iload_n hx hb dX4_face_4 rfl (lv_at hl 2 rfl) ?_
  refine fz_iaddN hx hb dX4_face_5 ?_
  refine fz_topn (b := k + 28 * rw) (by omega) ?_
  refine lv_iconst (v := nI 2) hx hb dX4_face_6 (by decide) ?_
  refine fz_iaddN hx hb dX4_face_7 ?_
  refine fz_topn (b := k + 28 * rw + 2) (by omega) ?_
  refine lv_istore_n (lv' := [(3, .int (nI (k + 28 * rw + 2))), (0, .ref o), (1, .int (nI rw)), (2, .int (nI k))]) hx hb dX4_face_8 rfl hl (by decide) rfl (fun ls hl => ?_)
  refine lv_aload_n hx hb dX4_face_9 rfl (lv_at hl 1 rfl) ?_
  refine lv_iload_n hx hb dX4_face_10 rfl (lv_at hl 0 rfl) ?_
  refine lv_iconst (v := nI 1) hx hb dX4_face_11 (by decide) ?_
  refine fz_isubN hx hb (by omega) dX4_face_12 ?_
  refine fz_topn (b := k + 28 * rw + 1) (by omega) ?_
  refine fz_callV (ws' := [(o, .inr (4, [.int thr, .int (nI n), .int (nI kd), .int (nI lim), .int (nI 0), .int (nI ord), .double tm, .int cst, .int cfl, .int crf, .ref dp, .ref mp, .double (fz_sHg lim dR (k + 28 * rw)), .double (fz_sMg lim dR mR (k + 28 * rw)), .double v2, .double v3, .double v4, .double v5, .double v6, .double v7])), (dp, fz_da cD 84 dR), (mp, fz_da cD 84 mR)]) (wr := []) (As := [.int (nI (k + 28 * rw + 1))]) (rest := []) ⟨hx, hb, hml, hown, hts⟩ (c_X4_slopes l D cD o dp mp n kd lim 0 ord dR mR thr tm v0 v1 v2 v3 v4 v5 v6 v7 cst cfl crf (k + 28 * rw) (by omega) hlim (hok.1)) (cwV 1 hts gX4_face_X4_slopes rfl rfl rfl (by decide +kernel) ⟨Nat.le_of_ble_eq_true rfl, Nat.le_of_ble_eq_true rfl⟩) hK hNW hP hD hS hA [0, 1, 2] [] [0, 1, 2] rfl rfl rfl rfl (by decide) rfl rfl (q0 := 0) (ci := 4) rfl rfl rfl rfl hl.1 rfl (Nat.le_of_ble_eq_true rfl) dX4_face_13 ⟨Nat.zero_le _, Nat.zero_le _⟩ (fun H locs hP hD hS => ?_)
  refine lv_aload_n hx hb dX4_face_16 rfl (lv_at hl 1 rfl) ?_
  refine lv_aload_n hx hb dX4_face_17 rfl (lv_at hl 1 rfl) ?_
  refine va_get (D := D) (ci := 4) (v := .ref dp) (C := RX4) (T := TX4) (N := 20) hx hb hts hin_X4 hown hK hP 0 rfl rfl 10 (by decide) hw_fieldLink_RX4_7_FlowGridModel_depth_D (fun _ h9 => h9) rfl dX4_face_18 ?_
  refine lv_iload_n hx hb dX4_face_21 rfl (lv_at hl 0 rfl) ?_
  refine lv_iconst (v := nI 1) hx hb dX4_face_22 (by decide) ?_
  refine fz_isubN hx hb (by omega) dX4_face_23 ?_
  refine fz_topn (b := k + 28 * rw + 1) (by omega) ?_
  refine fz_dald (i := k + 28 * rw + 1) hx hb hK hP 1 0 rfl rfl (by omega) (by decide) dX4_face_24 ?_
  refine lv_ldc2d hx hb hown hw_constantDouble_RX4_63_4602678819172646912 dX4_face_25 ?_
  refine lv_aload_n hx hb dX4_face_28 rfl (lv_at hl 1 rfl) ?_
  refine va_get (D := D) (ci := 4) (v := .double (fz_sHg lim dR (k + 28 * rw))) (C := RX4) (T := TX4) (N := 20) hx hb hts hin_X4 hown hK hP 0 rfl rfl 12 (by decide) hw_fieldLink_RX4_81_FlowGridModel_slopeH_D (fun _ h9 => h9) rfl dX4_face_29 ?_
  refine lv_dmul hx hb dX4_face_32 (hok.2.2.1.1) ?_
  refine lv_dadd hx hb dX4_face_33 (hok.2.2.1.2.1) ?_
  refine va_put (D := D) (ci := 4) (v := .double (FP.dadd (dR (k + 28 * rw + 1)) (FP.dmul 4602678819172646912 (fz_sHg lim dR (k + 28 * rw))))) (ty := .double) (C := RX4) (T := TX4) (N := 20) hx hb hts hin_X4 tyX4 tyX4_ok nmX4 hown hK hP hD hS 0 rfl rfl 14 (by decide) hw_fieldLink_RX4_92_FlowGridModel_leftH_D (fun _ h9 => h9) rfl (by decide +kernel) rfl rfl (Nat.le_of_ble_eq_true rfl) dX4_face_34 (fun H locs hP hD hS => ?_)
  have hP : va_P D vwCl [(o, .inr (4, [.int thr, .int (nI n), .int (nI kd), .int (nI lim), .int (nI 0), .int (nI ord), .double tm, .int cst, .int cfl, .int crf, .ref dp, .ref mp, .double (fz_sHg lim dR (k + 28 * rw)), .double (fz_sMg lim dR mR (k + 28 * rw)), .double (FP.dadd (dR (k + 28 * rw + 1)) (FP.dmul 4602678819172646912 (fz_sHg lim dR (k + 28 * rw)))), .double v3, .double v4, .double v5, .double v6, .double v7])), (dp, fz_da cD 84 dR), (mp, fz_da cD 84 mR)] H := hP
  have hD : va_D A [(o, .inr (4, [.int thr, .int (nI n), .int (nI kd), .int (nI lim), .int (nI 0), .int (nI ord), .double tm, .int cst, .int cfl, .int crf, .ref dp, .ref mp, .double (fz_sHg lim dR (k + 28 * rw)), .double (fz_sMg lim dR mR (k + 28 * rw)), .double (FP.dadd (dR (k + 28 * rw + 1)) (FP.dmul 4602678819172646912 (fz_sHg lim dR (k + 28 * rw)))), .double v3, .double v4, .double v5, .double v6, .double v7])), (dp, fz_da cD 84 dR), (mp, fz_da cD 84 mR)] := hD
  refine lv_aload_n hx hb dX4_face_37 rfl (lv_at hl 1 rfl) ?_
  refine lv_aload_n hx hb dX4_face_38 rfl (lv_at hl 1 rfl) ?_
  refine va_get (D := D) (ci := 4) (v := .ref mp) (C := RX4) (T := TX4) (N := 20) hx hb hts hin_X4 hown hK hP 0 rfl rfl 11 (by decide) hw_fieldLink_RX4_13_FlowGridModel_momentum_D (fun _ h9 => h9) rfl dX4_face_39 ?_
  refine lv_iload_n hx hb dX4_face_42 rfl (lv_at hl 0 rfl) ?_
  refine lv_iconst (v := nI 1) hx hb dX4_face_43 (by decide) ?_
  refine fz_isubN hx hb (by omega) dX4_face_44 ?_
  refine fz_topn (b := k + 28 * rw + 1) (by omega) ?_
  refine fz_dald (i := k + 28 * rw + 1) hx hb hK hP 2 0 rfl rfl (by omega) (by decide) dX4_face_45 ?_
  refine lv_ldc2d hx hb hown hw_constantDouble_RX4_63_4602678819172646912 dX4_face_46 ?_
  refine lv_aload_n hx hb dX4_face_49 rfl (lv_at hl 1 rfl) ?_
  refine va_get (D := D) (ci := 4) (v := .double (fz_sMg lim dR mR (k + 28 * rw))) (C := RX4) (T := TX4) (N := 20) hx hb hts hin_X4 hown hK hP 0 rfl rfl 13 (by decide) hw_fieldLink_RX4_84_FlowGridModel_slopeM_D (fun _ h9 => h9) rfl dX4_face_50 ?_
  refine lv_dmul hx hb dX4_face_53 (hok.2.2.1.2.2.1) ?_
  refine lv_dadd hx hb dX4_face_54 (hok.2.2.1.2.2.2.1) ?_
  refine va_put (D := D) (ci := 4) (v := .double (FP.dadd (mR (k + 28 * rw + 1)) (FP.dmul 4602678819172646912 (fz_sMg lim dR mR (k + 28 * rw))))) (ty := .double) (C := RX4) (T := TX4) (N := 20) hx hb hts hin_X4 tyX4 tyX4_ok nmX4 hown hK hP hD hS 0 rfl rfl 15 (by decide) hw_fieldLink_RX4_95_FlowGridModel_leftM_D (fun _ h9 => h9) rfl (by decide +kernel) rfl rfl (Nat.le_of_ble_eq_true rfl) dX4_face_55 (fun H locs hP hD hS => ?_)
  have hP : va_P D vwCl [(o, .inr (4, [.int thr, .int (nI n), .int (nI kd), .int (nI lim), .int (nI 0), .int (nI ord), .double tm, .int cst, .int cfl, .int crf, .ref dp, .ref mp, .double (fz_sHg lim dR (k + 28 * rw)), .double (fz_sMg lim dR mR (k + 28 * rw)), .double (FP.dadd (dR (k + 28 * rw + 1)) (FP.dmul 4602678819172646912 (fz_sHg lim dR (k + 28 * rw)))), .double (FP.dadd (mR (k + 28 * rw + 1)) (FP.dmul 4602678819172646912 (fz_sMg lim dR mR (k + 28 * rw)))), .double v4, .double v5, .double v6, .double v7])), (dp, fz_da cD 84 dR), (mp, fz_da cD 84 mR)] H := hP
  have hD : va_D A [(o, .inr (4, [.int thr, .int (nI n), .int (nI kd), .int (nI lim), .int (nI 0), .int (nI ord), .double tm, .int cst, .int cfl, .int crf, .ref dp, .ref mp, .double (fz_sHg lim dR (k + 28 * rw)), .double (fz_sMg lim dR mR (k + 28 * rw)), .double (FP.dadd (dR (k + 28 * rw + 1)) (FP.dmul 4602678819172646912 (fz_sHg lim dR (k + 28 * rw)))), .double (FP.dadd (mR (k + 28 * rw + 1)) (FP.dmul 4602678819172646912 (fz_sMg lim dR mR (k + 28 * rw)))), .double v4, .double v5, .double v6, .double v7])), (dp, fz_da cD 84 dR), (mp, fz_da cD 84 mR)] := hD
  refine lv_aload_n hx hb dX4_face_58 rfl (lv_at hl 1 rfl) ?_
  refine lv_iload_n hx hb dX4_face_59 rfl (lv_at hl 0 rfl) ?_
  refine fz_callV (ws' := [(o, .inr (4, [.int thr, .int (nI n), .int (nI kd), .int (nI lim), .int (nI 0), .int (nI ord), .double tm, .int cst, .int cfl, .int crf, .ref dp, .ref mp, .double (fz_sHg lim dR (k + 28 * rw + 1)), .double (fz_sMg lim dR mR (k + 28 * rw + 1)), .double (FP.dadd (dR (k + 28 * rw + 1)) (FP.dmul 4602678819172646912 (fz_sHg lim dR (k + 28 * rw)))), .double (FP.dadd (mR (k + 28 * rw + 1)) (FP.dmul 4602678819172646912 (fz_sMg lim dR mR (k + 28 * rw)))), .double v4, .double v5, .double v6, .double v7])), (dp, fz_da cD 84 dR), (mp, fz_da cD 84 mR)]) (wr := []) (As := [.int (nI (k + 28 * rw + 2))]) (rest := []) ⟨hx, hb, hml, hown, hts⟩ (c_X4_slopes l D cD o dp mp n kd lim 0 ord dR mR thr tm (fz_sHg lim dR (k + 28 * rw)) (fz_sMg lim dR mR (k + 28 * rw)) (FP.dadd (dR (k + 28 * rw + 1)) (FP.dmul 4602678819172646912 (fz_sHg lim dR (k + 28 * rw)))) (FP.dadd (mR (k + 28 * rw + 1)) (FP.dmul 4602678819172646912 (fz_sMg lim dR mR (k + 28 * rw)))) v4 v5 v6 v7 cst cfl crf (k + 28 * rw + 1) (by omega) hlim (hok.2.1)) (cwV 1 hts gX4_face_X4_slopes rfl rfl rfl (by decide +kernel) ⟨Nat.le_of_ble_eq_true rfl, Nat.le_of_ble_eq_true rfl⟩) hK hNW hP hD hS hA [0, 1, 2] [] [0, 1, 2] rfl rfl rfl rfl (by decide) rfl rfl (q0 := 0) (ci := 4) rfl rfl rfl rfl hl.1 rfl (Nat.le_of_ble_eq_true rfl) dX4_face_60 ⟨Nat.zero_le _, Nat.zero_le _⟩ (fun H locs hP hD hS => ?_)
  refine lv_aload_n hx hb dX4_face_63 rfl (lv_at hl 1 rfl) ?_
  refine lv_aload_n hx hb dX4_face_64 rfl (lv_at hl 1 rfl) ?_
  refine va_get (D := D) (ci := 4) (v := .ref dp) (C := RX4) (T := TX4) (N := 20) hx hb hts hin_X4 hown hK hP 0 rfl rfl 10 (by decide) hw_fieldLink_RX4_7_FlowGridModel_depth_D (fun _ h9 => h9) rfl dX4_face_65 ?_
  refine lv_iload_n hx hb dX4_face_68 rfl (lv_at hl 0 rfl) ?_
  refine fz_dald (i := k + 28 * rw + 2) hx hb hK hP 1 0 rfl rfl (by omega) (by decide) dX4_face_69 ?_
  refine lv_ldc2d hx hb hown hw_constantDouble_RX4_63_4602678819172646912 dX4_face_70 ?_
  refine lv_aload_n hx hb dX4_face_73 rfl (lv_at hl 1 rfl) ?_
  refine va_get (D := D) (ci := 4) (v := .double (fz_sHg lim dR (k + 28 * rw + 1))) (C := RX4) (T := TX4) (N := 20) hx hb hts hin_X4 hown hK hP 0 rfl rfl 12 (by decide) hw_fieldLink_RX4_81_FlowGridModel_slopeH_D (fun _ h9 => h9) rfl dX4_face_74 ?_
  refine lv_dmul hx hb dX4_face_77 (hok.2.2.1.2.2.2.2.1) ?_
  refine lv_dsub hx hb dX4_face_78 (hok.2.2.1.2.2.2.2.2.1) ?_
  refine va_put (D := D) (ci := 4) (v := .double (FP.dsub (dR (k + 28 * rw + 2)) (FP.dmul 4602678819172646912 (fz_sHg lim dR (k + 28 * rw + 1))))) (ty := .double) (C := RX4) (T := TX4) (N := 20) hx hb hts hin_X4 tyX4 tyX4_ok nmX4 hown hK hP hD hS 0 rfl rfl 16 (by decide) hw_fieldLink_RX4_98_FlowGridModel_rightH_D (fun _ h9 => h9) rfl (by decide +kernel) rfl rfl (Nat.le_of_ble_eq_true rfl) dX4_face_79 (fun H locs hP hD hS => ?_)
  have hP : va_P D vwCl [(o, .inr (4, [.int thr, .int (nI n), .int (nI kd), .int (nI lim), .int (nI 0), .int (nI ord), .double tm, .int cst, .int cfl, .int crf, .ref dp, .ref mp, .double (fz_sHg lim dR (k + 28 * rw + 1)), .double (fz_sMg lim dR mR (k + 28 * rw + 1)), .double (FP.dadd (dR (k + 28 * rw + 1)) (FP.dmul 4602678819172646912 (fz_sHg lim dR (k + 28 * rw)))), .double (FP.dadd (mR (k + 28 * rw + 1)) (FP.dmul 4602678819172646912 (fz_sMg lim dR mR (k + 28 * rw)))), .double (FP.dsub (dR (k + 28 * rw + 2)) (FP.dmul 4602678819172646912 (fz_sHg lim dR (k + 28 * rw + 1)))), .double v5, .double v6, .double v7])), (dp, fz_da cD 84 dR), (mp, fz_da cD 84 mR)] H := hP
  have hD : va_D A [(o, .inr (4, [.int thr, .int (nI n), .int (nI kd), .int (nI lim), .int (nI 0), .int (nI ord), .double tm, .int cst, .int cfl, .int crf, .ref dp, .ref mp, .double (fz_sHg lim dR (k + 28 * rw + 1)), .double (fz_sMg lim dR mR (k + 28 * rw + 1)), .double (FP.dadd (dR (k + 28 * rw + 1)) (FP.dmul 4602678819172646912 (fz_sHg lim dR (k + 28 * rw)))), .double (FP.dadd (mR (k + 28 * rw + 1)) (FP.dmul 4602678819172646912 (fz_sMg lim dR mR (k + 28 * rw)))), .double (FP.dsub (dR (k + 28 * rw + 2)) (FP.dmul 4602678819172646912 (fz_sHg lim dR (k + 28 * rw + 1)))), .double v5, .double v6, .double v7])), (dp, fz_da cD 84 dR), (mp, fz_da cD 84 mR)] := hD
  refine lv_aload_n hx hb dX4_face_82 rfl (lv_at hl 1 rfl) ?_
  refine lv_aload_n hx hb dX4_face_83 rfl (lv_at hl 1 rfl) ?_
  refine va_get (D := D) (ci := 4) (v := .ref mp) (C := RX4) (T := TX4) (N := 20) hx hb hts hin_X4 hown hK hP 0 rfl rfl 11 (by decide) hw_fieldLink_RX4_13_FlowGridModel_momentum_D (fun _ h9 => h9) rfl dX4_face_84 ?_
  refine lv_iload_n hx hb dX4_face_87 rfl (lv_at hl 0 rfl) ?_
  refine fz_dald (i := k + 28 * rw + 2) hx hb hK hP 2 0 rfl rfl (by omega) (by decide) dX4_face_88 ?_
  refine lv_ldc2d hx hb hown hw_constantDouble_RX4_63_4602678819172646912 dX4_face_89 ?_
  refine lv_aload_n hx hb dX4_face_92 rfl (lv_at hl 1 rfl) ?_
  refine va_get (D := D) (ci := 4) (v := .double (fz_sMg lim dR mR (k + 28 * rw + 1))) (C := RX4) (T := TX4) (N := 20) hx hb hts hin_X4 hown hK hP 0 rfl rfl 13 (by decide) hw_fieldLink_RX4_84_FlowGridModel_slopeM_D (fun _ h9 => h9) rfl dX4_face_93 ?_
  refine lv_dmul hx hb dX4_face_96 (hok.2.2.1.2.2.2.2.2.2.1) ?_
  refine lv_dsub hx hb dX4_face_97 (hok.2.2.1.2.2.2.2.2.2.2.1) ?_
  refine va_put (D := D) (ci := 4) (v := .double (FP.dsub (mR (k + 28 * rw + 2)) (FP.dmul 4602678819172646912 (fz_sMg lim dR mR (k + 28 * rw + 1))))) (ty := .double) (C := RX4) (T := TX4) (N := 20) hx hb hts hin_X4 tyX4 tyX4_ok nmX4 hown hK hP hD hS 0 rfl rfl 17 (by decide) hw_fieldLink_RX4_101_FlowGridModel_rightM_D (fun _ h9 => h9) rfl (by decide +kernel) rfl rfl (Nat.le_of_ble_eq_true rfl) dX4_face_98 (fun H locs hP hD hS => ?_)
  have hP : va_P D vwCl [(o, .inr (4, [.int thr, .int (nI n), .int (nI kd), .int (nI lim), .int (nI 0), .int (nI ord), .double tm, .int cst, .int cfl, .int crf, .ref dp, .ref mp, .double (fz_sHg lim dR (k + 28 * rw + 1)), .double (fz_sMg lim dR mR (k + 28 * rw + 1)), .double (FP.dadd (dR (k + 28 * rw + 1)) (FP.dmul 4602678819172646912 (fz_sHg lim dR (k + 28 * rw)))), .double (FP.dadd (mR (k + 28 * rw + 1)) (FP.dmul 4602678819172646912 (fz_sMg lim dR mR (k + 28 * rw)))), .double (FP.dsub (dR (k + 28 * rw + 2)) (FP.dmul 4602678819172646912 (fz_sHg lim dR (k + 28 * rw + 1)))), .double (FP.dsub (mR (k + 28 * rw + 2)) (FP.dmul 4602678819172646912 (fz_sMg lim dR mR (k + 28 * rw + 1)))), .double v6, .double v7])), (dp, fz_da cD 84 dR), (mp, fz_da cD 84 mR)] H := hP
  have hD : va_D A [(o, .inr (4, [.int thr, .int (nI n), .int (nI kd), .int (nI lim), .int (nI 0), .int (nI ord), .double tm, .int cst, .int cfl, .int crf, .ref dp, .ref mp, .double (fz_sHg lim dR (k + 28 * rw + 1)), .double (fz_sMg lim dR mR (k + 28 * rw + 1)), .double (FP.dadd (dR (k + 28 * rw + 1)) (FP.dmul 4602678819172646912 (fz_sHg lim dR (k + 28 * rw)))), .double (FP.dadd (mR (k + 28 * rw + 1)) (FP.dmul 4602678819172646912 (fz_sMg lim dR mR (k + 28 * rw)))), .double (FP.dsub (dR (k + 28 * rw + 2)) (FP.dmul 4602678819172646912 (fz_sHg lim dR (k + 28 * rw + 1)))), .double (FP.dsub (mR (k + 28 * rw + 2)) (FP.dmul 4602678819172646912 (fz_sMg lim dR mR (k + 28 * rw + 1)))), .double v6, .double v7])), (dp, fz_da cD 84 dR), (mp, fz_da cD 84 mR)] := hD
  refine lv_aload_n hx hb dX4_face_101 rfl (lv_at hl 1 rfl) ?_
  refine va_get (D := D) (ci := 4) (v := .double (FP.dadd (dR (k + 28 * rw + 1)) (FP.dmul 4602678819172646912 (fz_sHg lim dR (k + 28 * rw))))) (C := RX4) (T := TX4) (N := 20) hx hb hts hin_X4 hown hK hP 0 rfl rfl 14 (by decide) hw_fieldLink_RX4_92_FlowGridModel_leftH_D (fun _ h9 => h9) rfl dX4_face_102 ?_
  refine lv_aload_n hx hb dX4_face_105 rfl (lv_at hl 1 rfl) ?_
  refine va_get (D := D) (ci := 4) (v := .double (FP.dadd (mR (k + 28 * rw + 1)) (FP.dmul 4602678819172646912 (fz_sMg lim dR mR (k + 28 * rw))))) (C := RX4) (T := TX4) (N := 20) hx hb hts hin_X4 hown hK hP 0 rfl rfl 15 (by decide) hw_fieldLink_RX4_95_FlowGridModel_leftM_D (fun _ h9 => h9) rfl dX4_face_106 ?_
  refine fz_callS (ws' := [(o, .inr (4, [.int thr, .int (nI n), .int (nI kd), .int (nI lim), .int (nI 0), .int (nI ord), .double tm, .int cst, .int cfl, .int crf, .ref dp, .ref mp, .double (fz_sHg lim dR (k + 28 * rw + 1)), .double (fz_sMg lim dR mR (k + 28 * rw + 1)), .double (FP.dadd (dR (k + 28 * rw + 1)) (FP.dmul 4602678819172646912 (fz_sHg lim dR (k + 28 * rw)))), .double (FP.dadd (mR (k + 28 * rw + 1)) (FP.dmul 4602678819172646912 (fz_sMg lim dR mR (k + 28 * rw)))), .double (FP.dsub (dR (k + 28 * rw + 2)) (FP.dmul 4602678819172646912 (fz_sHg lim dR (k + 28 * rw + 1)))), .double (FP.dsub (mR (k + 28 * rw + 2)) (FP.dmul 4602678819172646912 (fz_sMg lim dR mR (k + 28 * rw + 1)))), .double v6, .double v7])), (dp, fz_da cD 84 dR), (mp, fz_da cD 84 mR)]) (wr := [(o, .inr (4, [.int thr, .int (nI n), .int (nI kd), .int (nI lim), .int (nI 0), .int (nI ord), .double tm, .int cst, .int cfl, .int crf, .ref dp, .ref mp, .double (fz_sHg lim dR (k + 28 * rw + 1)), .double (fz_sMg lim dR mR (k + 28 * rw + 1)), .double (FP.dadd (dR (k + 28 * rw + 1)) (FP.dmul 4602678819172646912 (fz_sHg lim dR (k + 28 * rw)))), .double (FP.dadd (mR (k + 28 * rw + 1)) (FP.dmul 4602678819172646912 (fz_sMg lim dR mR (k + 28 * rw)))), .double (FP.dsub (dR (k + 28 * rw + 2)) (FP.dmul 4602678819172646912 (fz_sHg lim dR (k + 28 * rw + 1)))), .double (FP.dsub (mR (k + 28 * rw + 2)) (FP.dmul 4602678819172646912 (fz_sMg lim dR mR (k + 28 * rw + 1)))), .double v6, .double v7])), (dp, fz_da cD 84 dR), (mp, fz_da cD 84 mR)]) (As := [.double (FP.dadd (dR (k + 28 * rw + 1)) (FP.dmul 4602678819172646912 (fz_sHg lim dR (k + 28 * rw)))), .double (FP.dadd (mR (k + 28 * rw + 1)) (FP.dmul 4602678819172646912 (fz_sMg lim dR mR (k + 28 * rw))))]) (rest := []) ⟨hx, hb, hml, hown, hts⟩ (c_X4_force l D cD (FP.dadd (dR (k + 28 * rw + 1)) (FP.dmul 4602678819172646912 (fz_sHg lim dR (k + 28 * rw)))) (FP.dadd (mR (k + 28 * rw + 1)) (FP.dmul 4602678819172646912 (fz_sMg lim dR mR (k + 28 * rw)))) (hok.2.2.1.2.2.2.2.2.2.2.2.1.2.1) (hok.2.2.2.1)) (va_cwS 2 hts gX4_face_X4_force rfl rfl rfl (by decide +kernel) ⟨Nat.le_of_ble_eq_true rfl, Nat.le_of_ble_eq_true rfl⟩) hK hNW hP hD hS hA [] [0, 1, 2] [0, 1, 2] rfl rfl rfl rfl (by decide) rfl rfl rfl hl.1 rfl (Nat.le_of_ble_eq_true rfl) dX4_face_109 ⟨Nat.zero_le _, Nat.zero_le _⟩ (fun H locs hP hD hS => ?_)
  refine lv_dstore (lv' := [(4, .double (fz_mflux (FP.dadd (dR (k + 28 * rw + 1)) (FP.dmul 4602678819172646912 (fz_sHg lim dR (k + 28 * rw)))) (FP.dadd (mR (k + 28 * rw + 1)) (FP.dmul 4602678819172646912 (fz_sMg lim dR mR (k + 28 * rw)))) (FP.ddiv (FP.dadd (mR (k + 28 * rw + 1)) (FP.dmul 4602678819172646912 (fz_sMg lim dR mR (k + 28 * rw)))) (FP.dadd (dR (k + 28 * rw + 1)) (FP.dmul 4602678819172646912 (fz_sHg lim dR (k + 28 * rw))))))), (3, .int (nI (k + 28 * rw + 2))), (0, .ref o), (1, .int (nI rw)), (2, .int (nI k))]) hx hb dX4_face_112 hl (by decide) rfl (fun ls hl => ?_)
  refine lv_aload_n hx hb dX4_face_114 rfl (lv_at hl 2 rfl) ?_
  refine va_get (D := D) (ci := 4) (v := .double (FP.dsub (dR (k + 28 * rw + 2)) (FP.dmul 4602678819172646912 (fz_sHg lim dR (k + 28 * rw + 1))))) (C := RX4) (T := TX4) (N := 20) hx hb hts hin_X4 hown hK hP 0 rfl rfl 16 (by decide) hw_fieldLink_RX4_98_FlowGridModel_rightH_D (fun _ h9 => h9) rfl dX4_face_115 ?_
  refine lv_aload_n hx hb dX4_face_118 rfl (lv_at hl 2 rfl) ?_
  refine va_get (D := D) (ci := 4) (v := .double (FP.dsub (mR (k + 28 * rw + 2)) (FP.dmul 4602678819172646912 (fz_sMg lim dR mR (k + 28 * rw + 1))))) (C := RX4) (T := TX4) (N := 20) hx hb hts hin_X4 hown hK hP 0 rfl rfl 17 (by decide) hw_fieldLink_RX4_101_FlowGridModel_rightM_D (fun _ h9 => h9) rfl dX4_face_119 ?_
  refine fz_callS (ws' := [(o, .inr (4, [.int thr, .int (nI n), .int (nI kd), .int (nI lim), .int (nI 0), .int (nI ord), .double tm, .int cst, .int cfl, .int crf, .ref dp, .ref mp, .double (fz_sHg lim dR (k + 28 * rw + 1)), .double (fz_sMg lim dR mR (k + 28 * rw + 1)), .double (FP.dadd (dR (k + 28 * rw + 1)) (FP.dmul 4602678819172646912 (fz_sHg lim dR (k + 28 * rw)))), .double (FP.dadd (mR (k + 28 * rw + 1)) (FP.dmul 4602678819172646912 (fz_sMg lim dR mR (k + 28 * rw)))), .double (FP.dsub (dR (k + 28 * rw + 2)) (FP.dmul 4602678819172646912 (fz_sHg lim dR (k + 28 * rw + 1)))), .double (FP.dsub (mR (k + 28 * rw + 2)) (FP.dmul 4602678819172646912 (fz_sMg lim dR mR (k + 28 * rw + 1)))), .double v6, .double v7])), (dp, fz_da cD 84 dR), (mp, fz_da cD 84 mR)]) (wr := [(o, .inr (4, [.int thr, .int (nI n), .int (nI kd), .int (nI lim), .int (nI 0), .int (nI ord), .double tm, .int cst, .int cfl, .int crf, .ref dp, .ref mp, .double (fz_sHg lim dR (k + 28 * rw + 1)), .double (fz_sMg lim dR mR (k + 28 * rw + 1)), .double (FP.dadd (dR (k + 28 * rw + 1)) (FP.dmul 4602678819172646912 (fz_sHg lim dR (k + 28 * rw)))), .double (FP.dadd (mR (k + 28 * rw + 1)) (FP.dmul 4602678819172646912 (fz_sMg lim dR mR (k + 28 * rw)))), .double (FP.dsub (dR (k + 28 * rw + 2)) (FP.dmul 4602678819172646912 (fz_sHg lim dR (k + 28 * rw + 1)))), .double (FP.dsub (mR (k + 28 * rw + 2)) (FP.dmul 4602678819172646912 (fz_sMg lim dR mR (k + 28 * rw + 1)))), .double v6, .double v7])), (dp, fz_da cD 84 dR), (mp, fz_da cD 84 mR)]) (As := [.double (FP.dsub (dR (k + 28 * rw + 2)) (FP.dmul 4602678819172646912 (fz_sHg lim dR (k + 28 * rw + 1)))), .double (FP.dsub (mR (k + 28 * rw + 2)) (FP.dmul 4602678819172646912 (fz_sMg lim dR mR (k + 28 * rw + 1))))]) (rest := []) ⟨hx, hb, hml, hown, hts⟩ (c_X4_force l D cD (FP.dsub (dR (k + 28 * rw + 2)) (FP.dmul 4602678819172646912 (fz_sHg lim dR (k + 28 * rw + 1)))) (FP.dsub (mR (k + 28 * rw + 2)) (FP.dmul 4602678819172646912 (fz_sMg lim dR mR (k + 28 * rw + 1)))) (hok.2.2.1.2.2.2.2.2.2.2.2.2.2.1) (hok.2.2.2.2.1)) (va_cwS 2 hts gX4_face_X4_force rfl rfl rfl (by decide +kernel) ⟨Nat.le_of_ble_eq_true rfl, Nat.le_of_ble_eq_true rfl⟩) hK hNW hP hD hS hA [] [0, 1, 2] [0, 1, 2] rfl rfl rfl rfl (by decide) rfl rfl rfl hl.1 rfl (Nat.le_of_ble_eq_true rfl) dX4_face_122 ⟨Nat.zero_le _, Nat.zero_le _⟩ (fun H locs hP hD hS => ?_)
  refine lv_dstore (lv' := [(6, .double (fz_mflux (FP.dsub (dR (k + 28 * rw + 2)) (FP.dmul 4602678819172646912 (fz_sHg lim dR (k + 28 * rw + 1)))) (FP.dsub (mR (k + 28 * rw + 2)) (FP.dmul 4602678819172646912 (fz_sMg lim dR mR (k + 28 * rw + 1)))) (FP.ddiv (FP.dsub (mR (k + 28 * rw + 2)) (FP.dmul 4602678819172646912 (fz_sMg lim dR mR (k + 28 * rw + 1)))) (FP.dsub (dR (k + 28 * rw + 2)) (FP.dmul 4602678819172646912 (fz_sHg lim dR (k + 28 * rw + 1))))))), (4, .double (fz_mflux (FP.dadd (dR (k + 28 * rw + 1)) (FP.dmul 4602678819172646912 (fz_sHg lim dR (k + 28 * rw)))) (FP.dadd (mR (k + 28 * rw + 1)) (FP.dmul 4602678819172646912 (fz_sMg lim dR mR (k + 28 * rw)))) (FP.ddiv (FP.dadd (mR (k + 28 * rw + 1)) (FP.dmul 4602678819172646912 (fz_sMg lim dR mR (k + 28 * rw)))) (FP.dadd (dR (k + 28 * rw + 1)) (FP.dmul 4602678819172646912 (fz_sHg lim dR (k + 28 * rw))))))), (3, .int (nI (k + 28 * rw + 2))), (0, .ref o), (1, .int (nI rw)), (2, .int (nI k))]) hx hb dX4_face_125 hl (by decide) rfl (fun ls hl => ?_)
  refine lv_aload_n hx hb dX4_face_127 rfl (lv_at hl 3 rfl) ?_
  refine va_get (D := D) (ci := 4) (v := .int (nI 0)) (C := RX4) (T := TX4) (N := 20) hx hb hts hin_X4 hown hK hP 0 rfl rfl 4 (by decide) hw_fieldLink_RX4_48_FlowGridModel_solver_I (fun _ h9 => h9) rfl dX4_face_128 ?_
  refine lv_if_ne (tgt := 208) hx hb dX4_face_131 (by decide) (fun c131 => absurd c131 (by decide)) (fun c131 => ?_)
  refine lv_aload_n hx hb dX4_face_134 rfl (lv_at hl 3 rfl) ?_
  refine va_get (D := D) (ci := 4) (v := .double (FP.dadd (dR (k + 28 * rw + 1)) (FP.dmul 4602678819172646912 (fz_sHg lim dR (k + 28 * rw))))) (C := RX4) (T := TX4) (N := 20) hx hb hts hin_X4 hown hK hP 0 rfl rfl 14 (by decide) hw_fieldLink_RX4_92_FlowGridModel_leftH_D (fun _ h9 => h9) rfl dX4_face_135 ?_
  refine lv_aload_n hx hb dX4_face_138 rfl (lv_at hl 3 rfl) ?_
  refine va_get (D := D) (ci := 4) (v := .double (FP.dadd (mR (k + 28 * rw + 1)) (FP.dmul 4602678819172646912 (fz_sMg lim dR mR (k + 28 * rw))))) (C := RX4) (T := TX4) (N := 20) hx hb hts hin_X4 hown hK hP 0 rfl rfl 15 (by decide) hw_fieldLink_RX4_95_FlowGridModel_leftM_D (fun _ h9 => h9) rfl dX4_face_139 ?_
  refine fz_callS (ws' := [(o, .inr (4, [.int thr, .int (nI n), .int (nI kd), .int (nI lim), .int (nI 0), .int (nI ord), .double tm, .int cst, .int cfl, .int crf, .ref dp, .ref mp, .double (fz_sHg lim dR (k + 28 * rw + 1)), .double (fz_sMg lim dR mR (k + 28 * rw + 1)), .double (FP.dadd (dR (k + 28 * rw + 1)) (FP.dmul 4602678819172646912 (fz_sHg lim dR (k + 28 * rw)))), .double (FP.dadd (mR (k + 28 * rw + 1)) (FP.dmul 4602678819172646912 (fz_sMg lim dR mR (k + 28 * rw)))), .double (FP.dsub (dR (k + 28 * rw + 2)) (FP.dmul 4602678819172646912 (fz_sHg lim dR (k + 28 * rw + 1)))), .double (FP.dsub (mR (k + 28 * rw + 2)) (FP.dmul 4602678819172646912 (fz_sMg lim dR mR (k + 28 * rw + 1)))), .double v6, .double v7])), (dp, fz_da cD 84 dR), (mp, fz_da cD 84 mR)]) (wr := [(o, .inr (4, [.int thr, .int (nI n), .int (nI kd), .int (nI lim), .int (nI 0), .int (nI ord), .double tm, .int cst, .int cfl, .int crf, .ref dp, .ref mp, .double (fz_sHg lim dR (k + 28 * rw + 1)), .double (fz_sMg lim dR mR (k + 28 * rw + 1)), .double (FP.dadd (dR (k + 28 * rw + 1)) (FP.dmul 4602678819172646912 (fz_sHg lim dR (k + 28 * rw)))), .double (FP.dadd (mR (k + 28 * rw + 1)) (FP.dmul 4602678819172646912 (fz_sMg lim dR mR (k + 28 * rw)))), .double (FP.dsub (dR (k + 28 * rw + 2)) (FP.dmul 4602678819172646912 (fz_sHg lim dR (k + 28 * rw + 1)))), .double (FP.dsub (mR (k + 28 * rw + 2)) (FP.dmul 4602678819172646912 (fz_sMg lim dR mR (k + 28 * rw + 1)))), .double v6, .double v7])), (dp, fz_da cD 84 dR), (mp, fz_da cD 84 mR)]) (As := [.double (FP.dadd (dR (k + 28 * rw + 1)) (FP.dmul 4602678819172646912 (fz_sHg lim dR (k + 28 * rw)))), .double (FP.dadd (mR (k + 28 * rw + 1)) (FP.dmul 4602678819172646912 (fz_sMg lim dR mR (k + 28 * rw))))]) (rest := []) ⟨hx, hb, hml, hown, hts⟩ (c_X4_speed l D cD (FP.dadd (dR (k + 28 * rw + 1)) (FP.dmul 4602678819172646912 (fz_sHg lim dR (k + 28 * rw)))) (FP.dadd (mR (k + 28 * rw + 1)) (FP.dmul 4602678819172646912 (fz_sMg lim dR mR (k + 28 * rw)))) (hok.2.2.1.2.2.2.2.2.2.2.2.1) ((hok.2.2.2.2.2.1 rfl).1)) (va_cwS 2 hts gX4_face_X4_speed rfl rfl rfl (by decide +kernel) ⟨Nat.le_of_ble_eq_true rfl, Nat.le_of_ble_eq_true rfl⟩) hK hNW hP hD hS hA [] [0, 1, 2] [0, 1, 2] rfl rfl rfl rfl (by decide) rfl rfl rfl hl.1 rfl (Nat.le_of_ble_eq_true rfl) dX4_face_142 ⟨Nat.zero_le _, Nat.zero_le _⟩ (fun H locs hP hD hS => ?_)
  refine lv_aload_n hx hb dX4_face_145 rfl (lv_at hl 3 rfl) ?_
  refine va_get (D := D) (ci := 4) (v := .double (FP.dsub (dR (k + 28 * rw + 2)) (FP.dmul 4602678819172646912 (fz_sHg lim dR (k + 28 * rw + 1))))) (C := RX4) (T := TX4) (N := 20) hx hb hts hin_X4 hown hK hP 0 rfl rfl 16 (by decide) hw_fieldLink_RX4_98_FlowGridModel_rightH_D (fun _ h9 => h9) rfl dX4_face_146 ?_
  refine lv_aload_n hx hb dX4_face_149 rfl (lv_at hl 3 rfl) ?_
  refine va_get (D := D) (ci := 4) (v := .double (FP.dsub (mR (k + 28 * rw + 2)) (FP.dmul 4602678819172646912 (fz_sMg lim dR mR (k + 28 * rw + 1))))) (C := RX4) (T := TX4) (N := 20) hx hb hts hin_X4 hown hK hP 0 rfl rfl 17 (by decide) hw_fieldLink_RX4_101_FlowGridModel_rightM_D (fun _ h9 => h9) rfl dX4_face_150 ?_
  refine fz_callS (ws' := [(o, .inr (4, [.int thr, .int (nI n), .int (nI kd), .int (nI lim), .int (nI 0), .int (nI ord), .double tm, .int cst, .int cfl, .int crf, .ref dp, .ref mp, .double (fz_sHg lim dR (k + 28 * rw + 1)), .double (fz_sMg lim dR mR (k + 28 * rw + 1)), .double (FP.dadd (dR (k + 28 * rw + 1)) (FP.dmul 4602678819172646912 (fz_sHg lim dR (k + 28 * rw)))), .double (FP.dadd (mR (k + 28 * rw + 1)) (FP.dmul 4602678819172646912 (fz_sMg lim dR mR (k + 28 * rw)))), .double (FP.dsub (dR (k + 28 * rw + 2)) (FP.dmul 4602678819172646912 (fz_sHg lim dR (k + 28 * rw + 1)))), .double (FP.dsub (mR (k + 28 * rw + 2)) (FP.dmul 4602678819172646912 (fz_sMg lim dR mR (k + 28 * rw + 1)))), .double v6, .double v7])), (dp, fz_da cD 84 dR), (mp, fz_da cD 84 mR)]) (wr := [(o, .inr (4, [.int thr, .int (nI n), .int (nI kd), .int (nI lim), .int (nI 0), .int (nI ord), .double tm, .int cst, .int cfl, .int crf, .ref dp, .ref mp, .double (fz_sHg lim dR (k + 28 * rw + 1)), .double (fz_sMg lim dR mR (k + 28 * rw + 1)), .double (FP.dadd (dR (k + 28 * rw + 1)) (FP.dmul 4602678819172646912 (fz_sHg lim dR (k + 28 * rw)))), .double (FP.dadd (mR (k + 28 * rw + 1)) (FP.dmul 4602678819172646912 (fz_sMg lim dR mR (k + 28 * rw)))), .double (FP.dsub (dR (k + 28 * rw + 2)) (FP.dmul 4602678819172646912 (fz_sHg lim dR (k + 28 * rw + 1)))), .double (FP.dsub (mR (k + 28 * rw + 2)) (FP.dmul 4602678819172646912 (fz_sMg lim dR mR (k + 28 * rw + 1)))), .double v6, .double v7])), (dp, fz_da cD 84 dR), (mp, fz_da cD 84 mR)]) (As := [.double (FP.dsub (dR (k + 28 * rw + 2)) (FP.dmul 4602678819172646912 (fz_sHg lim dR (k + 28 * rw + 1)))), .double (FP.dsub (mR (k + 28 * rw + 2)) (FP.dmul 4602678819172646912 (fz_sMg lim dR mR (k + 28 * rw + 1))))]) (rest := [.double (fz_reach (FP.ddiv (FP.dadd (mR (k + 28 * rw + 1)) (FP.dmul 4602678819172646912 (fz_sMg lim dR mR (k + 28 * rw)))) (FP.dadd (dR (k + 28 * rw + 1)) (FP.dmul 4602678819172646912 (fz_sHg lim dR (k + 28 * rw))))) (fz_root (FP.dadd (dR (k + 28 * rw + 1)) (FP.dmul 4602678819172646912 (fz_sHg lim dR (k + 28 * rw))))))]) ⟨hx, hb, hml, hown, hts⟩ (c_X4_speed l D cD (FP.dsub (dR (k + 28 * rw + 2)) (FP.dmul 4602678819172646912 (fz_sHg lim dR (k + 28 * rw + 1)))) (FP.dsub (mR (k + 28 * rw + 2)) (FP.dmul 4602678819172646912 (fz_sMg lim dR mR (k + 28 * rw + 1)))) (hok.2.2.1.2.2.2.2.2.2.2.2.2) ((hok.2.2.2.2.2.1 rfl).2.1)) (va_cwS 2 hts gX4_face_X4_speed rfl rfl rfl (by decide +kernel) ⟨Nat.le_of_ble_eq_true rfl, Nat.le_of_ble_eq_true rfl⟩) hK hNW hP hD hS hA [] [0, 1, 2] [0, 1, 2] rfl rfl rfl rfl (by decide) rfl rfl rfl hl.1 rfl (Nat.le_of_ble_eq_true rfl) dX4_face_153 ⟨Nat.zero_le _, Nat.zero_le _⟩ (fun H locs hP hD hS => ?_)
  refine fz_callS (ws' := [(o, .inr (4, [.int thr, .int (nI n), .int (nI kd), .int (nI lim), .int (nI 0), .int (nI ord), .double tm, .int cst, .int cfl, .int crf, .ref dp, .ref mp, .double (fz_sHg lim dR (k + 28 * rw + 1)), .double (fz_sMg lim dR mR (k + 28 * rw + 1)), .double (FP.dadd (dR (k + 28 * rw + 1)) (FP.dmul 4602678819172646912 (fz_sHg lim dR (k + 28 * rw)))), .double (FP.dadd (mR (k + 28 * rw + 1)) (FP.dmul 4602678819172646912 (fz_sMg lim dR mR (k + 28 * rw)))), .double (FP.dsub (dR (k + 28 * rw + 2)) (FP.dmul 4602678819172646912 (fz_sHg lim dR (k + 28 * rw + 1)))), .double (FP.dsub (mR (k + 28 * rw + 2)) (FP.dmul 4602678819172646912 (fz_sMg lim dR mR (k + 28 * rw + 1)))), .double v6, .double v7])), (dp, fz_da cD 84 dR), (mp, fz_da cD 84 mR)]) (wr := [(o, .inr (4, [.int thr, .int (nI n), .int (nI kd), .int (nI lim), .int (nI 0), .int (nI ord), .double tm, .int cst, .int cfl, .int crf, .ref dp, .ref mp, .double (fz_sHg lim dR (k + 28 * rw + 1)), .double (fz_sMg lim dR mR (k + 28 * rw + 1)), .double (FP.dadd (dR (k + 28 * rw + 1)) (FP.dmul 4602678819172646912 (fz_sHg lim dR (k + 28 * rw)))), .double (FP.dadd (mR (k + 28 * rw + 1)) (FP.dmul 4602678819172646912 (fz_sMg lim dR mR (k + 28 * rw)))), .double (FP.dsub (dR (k + 28 * rw + 2)) (FP.dmul 4602678819172646912 (fz_sHg lim dR (k + 28 * rw + 1)))), .double (FP.dsub (mR (k + 28 * rw + 2)) (FP.dmul 4602678819172646912 (fz_sMg lim dR mR (k + 28 * rw + 1)))), .double v6, .double v7])), (dp, fz_da cD 84 dR), (mp, fz_da cD 84 mR)]) (As := [.double (fz_reach (FP.ddiv (FP.dadd (mR (k + 28 * rw + 1)) (FP.dmul 4602678819172646912 (fz_sMg lim dR mR (k + 28 * rw)))) (FP.dadd (dR (k + 28 * rw + 1)) (FP.dmul 4602678819172646912 (fz_sHg lim dR (k + 28 * rw))))) (fz_root (FP.dadd (dR (k + 28 * rw + 1)) (FP.dmul 4602678819172646912 (fz_sHg lim dR (k + 28 * rw)))))), .double (fz_reach (FP.ddiv (FP.dsub (mR (k + 28 * rw + 2)) (FP.dmul 4602678819172646912 (fz_sMg lim dR mR (k + 28 * rw + 1)))) (FP.dsub (dR (k + 28 * rw + 2)) (FP.dmul 4602678819172646912 (fz_sHg lim dR (k + 28 * rw + 1))))) (fz_root (FP.dsub (dR (k + 28 * rw + 2)) (FP.dmul 4602678819172646912 (fz_sHg lim dR (k + 28 * rw + 1))))))]) (rest := []) ⟨hx, hb, hml, hown, hts⟩ (c_X4_greater l D cD (fz_reach (FP.ddiv (FP.dadd (mR (k + 28 * rw + 1)) (FP.dmul 4602678819172646912 (fz_sMg lim dR mR (k + 28 * rw)))) (FP.dadd (dR (k + 28 * rw + 1)) (FP.dmul 4602678819172646912 (fz_sHg lim dR (k + 28 * rw))))) (fz_root (FP.dadd (dR (k + 28 * rw + 1)) (FP.dmul 4602678819172646912 (fz_sHg lim dR (k + 28 * rw)))))) (fz_reach (FP.ddiv (FP.dsub (mR (k + 28 * rw + 2)) (FP.dmul 4602678819172646912 (fz_sMg lim dR mR (k + 28 * rw + 1)))) (FP.dsub (dR (k + 28 * rw + 2)) (FP.dmul 4602678819172646912 (fz_sHg lim dR (k + 28 * rw + 1))))) (fz_root (FP.dsub (dR (k + 28 * rw + 2)) (FP.dmul 4602678819172646912 (fz_sHg lim dR (k + 28 * rw + 1))))))) (va_cwS 2 hts gX4_face_X4_greater rfl rfl rfl (by decide +kernel) ⟨Nat.le_of_ble_eq_true rfl, Nat.le_of_ble_eq_true rfl⟩) hK hNW hP hD hS hA [] [0, 1, 2] [0, 1, 2] rfl rfl rfl rfl (by decide) rfl rfl rfl hl.1 rfl (Nat.le_of_ble_eq_true rfl) dX4_face_156 ⟨Nat.zero_le _, Nat.zero_le _⟩ (fun H locs hP hD hS => ?_)
  refine fz_topdq (y := fz_gtrC (fz_reach (FP.ddiv (FP.dadd (mR (k + 28 * rw + 1)) (FP.dmul 4602678819172646912 (fz_sMg lim dR mR (k + 28 * rw)))) (FP.dadd (dR (k + 28 * rw + 1)) (FP.dmul 4602678819172646912 (fz_sHg lim dR (k + 28 * rw))))) (fz_root (FP.dadd (dR (k + 28 * rw + 1)) (FP.dmul 4602678819172646912 (fz_sHg lim dR (k + 28 * rw)))))) (fz_reach (FP.ddiv (FP.dsub (mR (k + 28 * rw + 2)) (FP.dmul 4602678819172646912 (fz_sMg lim dR mR (k + 28 * rw + 1)))) (FP.dsub (dR (k + 28 * rw + 2)) (FP.dmul 4602678819172646912 (fz_sHg lim dR (k + 28 * rw + 1))))) (fz_root (FP.dsub (dR (k + 28 * rw + 2)) (FP.dmul 4602678819172646912 (fz_sHg lim dR (k + 28 * rw + 1))))))) ((hok.2.2.2.2.2.1 rfl).2.2.1) ?_
  refine lv_dstore (lv' := [(8, .double (fz_gtrC (fz_reach (FP.ddiv (FP.dadd (mR (k + 28 * rw + 1)) (FP.dmul 4602678819172646912 (fz_sMg lim dR mR (k + 28 * rw)))) (FP.dadd (dR (k + 28 * rw + 1)) (FP.dmul 4602678819172646912 (fz_sHg lim dR (k + 28 * rw))))) (fz_root (FP.dadd (dR (k + 28 * rw + 1)) (FP.dmul 4602678819172646912 (fz_sHg lim dR (k + 28 * rw)))))) (fz_reach (FP.ddiv (FP.dsub (mR (k + 28 * rw + 2)) (FP.dmul 4602678819172646912 (fz_sMg lim dR mR (k + 28 * rw + 1)))) (FP.dsub (dR (k + 28 * rw + 2)) (FP.dmul 4602678819172646912 (fz_sHg lim dR (k + 28 * rw + 1))))) (fz_root (FP.dsub (dR (k + 28 * rw + 2)) (FP.dmul 4602678819172646912 (fz_sHg lim dR (k + 28 * rw + 1)))))))), (6, .double (fz_mflux (FP.dsub (dR (k + 28 * rw + 2)) (FP.dmul 4602678819172646912 (fz_sHg lim dR (k + 28 * rw + 1)))) (FP.dsub (mR (k + 28 * rw + 2)) (FP.dmul 4602678819172646912 (fz_sMg lim dR mR (k + 28 * rw + 1)))) (FP.ddiv (FP.dsub (mR (k + 28 * rw + 2)) (FP.dmul 4602678819172646912 (fz_sMg lim dR mR (k + 28 * rw + 1)))) (FP.dsub (dR (k + 28 * rw + 2)) (FP.dmul 4602678819172646912 (fz_sHg lim dR (k + 28 * rw + 1))))))), (4, .double (fz_mflux (FP.dadd (dR (k + 28 * rw + 1)) (FP.dmul 4602678819172646912 (fz_sHg lim dR (k + 28 * rw)))) (FP.dadd (mR (k + 28 * rw + 1)) (FP.dmul 4602678819172646912 (fz_sMg lim dR mR (k + 28 * rw)))) (FP.ddiv (FP.dadd (mR (k + 28 * rw + 1)) (FP.dmul 4602678819172646912 (fz_sMg lim dR mR (k + 28 * rw)))) (FP.dadd (dR (k + 28 * rw + 1)) (FP.dmul 4602678819172646912 (fz_sHg lim dR (k + 28 * rw))))))), (3, .int (nI (k + 28 * rw + 2))), (0, .ref o), (1, .int (nI rw)), (2, .int (nI k))]) hx hb dX4_face_159 hl (by decide) rfl (fun ls hl => ?_)
  refine lv_aload_n hx hb dX4_face_161 rfl (lv_at hl 4 rfl) ?_
  refine lv_aload_n hx hb dX4_face_162 rfl (lv_at hl 4 rfl) ?_
  refine va_get (D := D) (ci := 4) (v := .double (FP.dadd (mR (k + 28 * rw + 1)) (FP.dmul 4602678819172646912 (fz_sMg lim dR mR (k + 28 * rw))))) (C := RX4) (T := TX4) (N := 20) hx hb hts hin_X4 hown hK hP 0 rfl rfl 15 (by decide) hw_fieldLink_RX4_95_FlowGridModel_leftM_D (fun _ h9 => h9) rfl dX4_face_163 ?_
  refine lv_aload_n hx hb dX4_face_166 rfl (lv_at hl 4 rfl) ?_
  refine va_get (D := D) (ci := 4) (v := .double (FP.dsub (mR (k + 28 * rw + 2)) (FP.dmul 4602678819172646912 (fz_sMg lim dR mR (k + 28 * rw + 1))))) (C := RX4) (T := TX4) (N := 20) hx hb hts hin_X4 hown hK hP 0 rfl rfl 17 (by decide) hw_fieldLink_RX4_101_FlowGridModel_rightM_D (fun _ h9 => h9) rfl dX4_face_167 ?_
  refine lv_dload hx hb dX4_face_170 (lv_at hl 0 rfl) ?_
  refine lv_aload_n hx hb dX4_face_172 rfl (lv_at hl 4 rfl) ?_
  refine va_get (D := D) (ci := 4) (v := .double (FP.dadd (dR (k + 28 * rw + 1)) (FP.dmul 4602678819172646912 (fz_sHg lim dR (k + 28 * rw))))) (C := RX4) (T := TX4) (N := 20) hx hb hts hin_X4 hown hK hP 0 rfl rfl 14 (by decide) hw_fieldLink_RX4_92_FlowGridModel_leftH_D (fun _ h9 => h9) rfl dX4_face_173 ?_
  refine lv_aload_n hx hb dX4_face_176 rfl (lv_at hl 4 rfl) ?_
  refine va_get (D := D) (ci := 4) (v := .double (FP.dsub (dR (k + 28 * rw + 2)) (FP.dmul 4602678819172646912 (fz_sHg lim dR (k + 28 * rw + 1))))) (C := RX4) (T := TX4) (N := 20) hx hb hts hin_X4 hown hK hP 0 rfl rfl 16 (by decide) hw_fieldLink_RX4_98_FlowGridModel_rightH_D (fun _ h9 => h9) rfl dX4_face_177 ?_
  refine fz_callS (ws' := [(o, .inr (4, [.int thr, .int (nI n), .int (nI kd), .int (nI lim), .int (nI 0), .int (nI ord), .double tm, .int cst, .int cfl, .int crf, .ref dp, .ref mp, .double (fz_sHg lim dR (k + 28 * rw + 1)), .double (fz_sMg lim dR mR (k + 28 * rw + 1)), .double (FP.dadd (dR (k + 28 * rw + 1)) (FP.dmul 4602678819172646912 (fz_sHg lim dR (k + 28 * rw)))), .double (FP.dadd (mR (k + 28 * rw + 1)) (FP.dmul 4602678819172646912 (fz_sMg lim dR mR (k + 28 * rw)))), .double (FP.dsub (dR (k + 28 * rw + 2)) (FP.dmul 4602678819172646912 (fz_sHg lim dR (k + 28 * rw + 1)))), .double (FP.dsub (mR (k + 28 * rw + 2)) (FP.dmul 4602678819172646912 (fz_sMg lim dR mR (k + 28 * rw + 1)))), .double v6, .double v7])), (dp, fz_da cD 84 dR), (mp, fz_da cD 84 mR)]) (wr := [(o, .inr (4, [.int thr, .int (nI n), .int (nI kd), .int (nI lim), .int (nI 0), .int (nI ord), .double tm, .int cst, .int cfl, .int crf, .ref dp, .ref mp, .double (fz_sHg lim dR (k + 28 * rw + 1)), .double (fz_sMg lim dR mR (k + 28 * rw + 1)), .double (FP.dadd (dR (k + 28 * rw + 1)) (FP.dmul 4602678819172646912 (fz_sHg lim dR (k + 28 * rw)))), .double (FP.dadd (mR (k + 28 * rw + 1)) (FP.dmul 4602678819172646912 (fz_sMg lim dR mR (k + 28 * rw)))), .double (FP.dsub (dR (k + 28 * rw + 2)) (FP.dmul 4602678819172646912 (fz_sHg lim dR (k + 28 * rw + 1)))), .double (FP.dsub (mR (k + 28 * rw + 2)) (FP.dmul 4602678819172646912 (fz_sMg lim dR mR (k + 28 * rw + 1)))), .double v6, .double v7])), (dp, fz_da cD 84 dR), (mp, fz_da cD 84 mR)]) (As := [.double (FP.dadd (mR (k + 28 * rw + 1)) (FP.dmul 4602678819172646912 (fz_sMg lim dR mR (k + 28 * rw)))), .double (FP.dsub (mR (k + 28 * rw + 2)) (FP.dmul 4602678819172646912 (fz_sMg lim dR mR (k + 28 * rw + 1)))), .double (fz_gtrC (fz_reach (FP.ddiv (FP.dadd (mR (k + 28 * rw + 1)) (FP.dmul 4602678819172646912 (fz_sMg lim dR mR (k + 28 * rw)))) (FP.dadd (dR (k + 28 * rw + 1)) (FP.dmul 4602678819172646912 (fz_sHg lim dR (k + 28 * rw))))) (fz_root (FP.dadd (dR (k + 28 * rw + 1)) (FP.dmul 4602678819172646912 (fz_sHg lim dR (k + 28 * rw)))))) (fz_reach (FP.ddiv (FP.dsub (mR (k + 28 * rw + 2)) (FP.dmul 4602678819172646912 (fz_sMg lim dR mR (k + 28 * rw + 1)))) (FP.dsub (dR (k + 28 * rw + 2)) (FP.dmul 4602678819172646912 (fz_sHg lim dR (k + 28 * rw + 1))))) (fz_root (FP.dsub (dR (k + 28 * rw + 2)) (FP.dmul 4602678819172646912 (fz_sHg lim dR (k + 28 * rw + 1))))))), .double (FP.dadd (dR (k + 28 * rw + 1)) (FP.dmul 4602678819172646912 (fz_sHg lim dR (k + 28 * rw)))), .double (FP.dsub (dR (k + 28 * rw + 2)) (FP.dmul 4602678819172646912 (fz_sHg lim dR (k + 28 * rw + 1))))]) (rest := [.ref o]) ⟨hx, hb, hml, hown, hts⟩ (c_X4_broad l D cD (FP.dadd (mR (k + 28 * rw + 1)) (FP.dmul 4602678819172646912 (fz_sMg lim dR mR (k + 28 * rw)))) (FP.dsub (mR (k + 28 * rw + 2)) (FP.dmul 4602678819172646912 (fz_sMg lim dR mR (k + 28 * rw + 1)))) (fz_gtrC (fz_reach (FP.ddiv (FP.dadd (mR (k + 28 * rw + 1)) (FP.dmul 4602678819172646912 (fz_sMg lim dR mR (k + 28 * rw)))) (FP.dadd (dR (k + 28 * rw + 1)) (FP.dmul 4602678819172646912 (fz_sHg lim dR (k + 28 * rw))))) (fz_root (FP.dadd (dR (k + 28 * rw + 1)) (FP.dmul 4602678819172646912 (fz_sHg lim dR (k + 28 * rw)))))) (fz_reach (FP.ddiv (FP.dsub (mR (k + 28 * rw + 2)) (FP.dmul 4602678819172646912 (fz_sMg lim dR mR (k + 28 * rw + 1)))) (FP.dsub (dR (k + 28 * rw + 2)) (FP.dmul 4602678819172646912 (fz_sHg lim dR (k + 28 * rw + 1))))) (fz_root (FP.dsub (dR (k + 28 * rw + 2)) (FP.dmul 4602678819172646912 (fz_sHg lim dR (k + 28 * rw + 1))))))) (FP.dadd (dR (k + 28 * rw + 1)) (FP.dmul 4602678819172646912 (fz_sHg lim dR (k + 28 * rw)))) (FP.dsub (dR (k + 28 * rw + 2)) (FP.dmul 4602678819172646912 (fz_sHg lim dR (k + 28 * rw + 1)))) ((hok.2.2.2.2.2.1 rfl).2.2.2.1)) (va_cwS 5 hts gX4_face_X4_broad rfl rfl rfl (by decide +kernel) ⟨Nat.le_of_ble_eq_true rfl, Nat.le_of_ble_eq_true rfl⟩) hK hNW hP hD hS hA [] [0, 1, 2] [0, 1, 2] rfl rfl rfl rfl (by decide) rfl rfl rfl hl.1 rfl (Nat.le_of_ble_eq_true rfl) dX4_face_180 ⟨Nat.zero_le _, Nat.zero_le _⟩ (fun H locs hP hD hS => ?_)
  refine va_put (D := D) (ci := 4) (v := .double (fz_brd (fz_gtrC (fz_reach (FP.ddiv (FP.dadd (mR (k + 28 * rw + 1)) (FP.dmul 4602678819172646912 (fz_sMg lim dR mR (k + 28 * rw)))) (FP.dadd (dR (k + 28 * rw + 1)) (FP.dmul 4602678819172646912 (fz_sHg lim dR (k + 28 * rw))))) (fz_root (FP.dadd (dR (k + 28 * rw + 1)) (FP.dmul 4602678819172646912 (fz_sHg lim dR (k + 28 * rw)))))) (fz_reach (FP.ddiv (FP.dsub (mR (k + 28 * rw + 2)) (FP.dmul 4602678819172646912 (fz_sMg lim dR mR (k + 28 * rw + 1)))) (FP.dsub (dR (k + 28 * rw + 2)) (FP.dmul 4602678819172646912 (fz_sHg lim dR (k + 28 * rw + 1))))) (fz_root (FP.dsub (dR (k + 28 * rw + 2)) (FP.dmul 4602678819172646912 (fz_sHg lim dR (k + 28 * rw + 1))))))) (FP.dadd (mR (k + 28 * rw + 1)) (FP.dmul 4602678819172646912 (fz_sMg lim dR mR (k + 28 * rw)))) (FP.dsub (mR (k + 28 * rw + 2)) (FP.dmul 4602678819172646912 (fz_sMg lim dR mR (k + 28 * rw + 1)))) (FP.dadd (dR (k + 28 * rw + 1)) (FP.dmul 4602678819172646912 (fz_sHg lim dR (k + 28 * rw)))) (FP.dsub (dR (k + 28 * rw + 2)) (FP.dmul 4602678819172646912 (fz_sHg lim dR (k + 28 * rw + 1)))))) (ty := .double) (C := RX4) (T := TX4) (N := 20) hx hb hts hin_X4 tyX4 tyX4_ok nmX4 hown hK hP hD hS 0 rfl rfl 18 (by decide) hw_fieldLink_RX4_117_FlowGridModel_fluxH_D (fun _ h9 => h9) rfl (by decide +kernel) rfl rfl (Nat.le_of_ble_eq_true rfl) dX4_face_183 (fun H locs hP hD hS => ?_)
  have hP : va_P D vwCl [(o, .inr (4, [.int thr, .int (nI n), .int (nI kd), .int (nI lim), .int (nI 0), .int (nI ord), .double tm, .int cst, .int cfl, .int crf, .ref dp, .ref mp, .double (fz_sHg lim dR (k + 28 * rw + 1)), .double (fz_sMg lim dR mR (k + 28 * rw + 1)), .double (FP.dadd (dR (k + 28 * rw + 1)) (FP.dmul 4602678819172646912 (fz_sHg lim dR (k + 28 * rw)))), .double (FP.dadd (mR (k + 28 * rw + 1)) (FP.dmul 4602678819172646912 (fz_sMg lim dR mR (k + 28 * rw)))), .double (FP.dsub (dR (k + 28 * rw + 2)) (FP.dmul 4602678819172646912 (fz_sHg lim dR (k + 28 * rw + 1)))), .double (FP.dsub (mR (k + 28 * rw + 2)) (FP.dmul 4602678819172646912 (fz_sMg lim dR mR (k + 28 * rw + 1)))), .double (fz_brd (fz_gtrC (fz_reach (FP.ddiv (FP.dadd (mR (k + 28 * rw + 1)) (FP.dmul 4602678819172646912 (fz_sMg lim dR mR (k + 28 * rw)))) (FP.dadd (dR (k + 28 * rw + 1)) (FP.dmul 4602678819172646912 (fz_sHg lim dR (k + 28 * rw))))) (fz_root (FP.dadd (dR (k + 28 * rw + 1)) (FP.dmul 4602678819172646912 (fz_sHg lim dR (k + 28 * rw)))))) (fz_reach (FP.ddiv (FP.dsub (mR (k + 28 * rw + 2)) (FP.dmul 4602678819172646912 (fz_sMg lim dR mR (k + 28 * rw + 1)))) (FP.dsub (dR (k + 28 * rw + 2)) (FP.dmul 4602678819172646912 (fz_sHg lim dR (k + 28 * rw + 1))))) (fz_root (FP.dsub (dR (k + 28 * rw + 2)) (FP.dmul 4602678819172646912 (fz_sHg lim dR (k + 28 * rw + 1))))))) (FP.dadd (mR (k + 28 * rw + 1)) (FP.dmul 4602678819172646912 (fz_sMg lim dR mR (k + 28 * rw)))) (FP.dsub (mR (k + 28 * rw + 2)) (FP.dmul 4602678819172646912 (fz_sMg lim dR mR (k + 28 * rw + 1)))) (FP.dadd (dR (k + 28 * rw + 1)) (FP.dmul 4602678819172646912 (fz_sHg lim dR (k + 28 * rw)))) (FP.dsub (dR (k + 28 * rw + 2)) (FP.dmul 4602678819172646912 (fz_sHg lim dR (k + 28 * rw + 1))))), .double v7])), (dp, fz_da cD 84 dR), (mp, fz_da cD 84 mR)] H := hP
  have hD : va_D A [(o, .inr (4, [.int thr, .int (nI n), .int (nI kd), .int (nI lim), .int (nI 0), .int (nI ord), .double tm, .int cst, .int cfl, .int crf, .ref dp, .ref mp, .double (fz_sHg lim dR (k + 28 * rw + 1)), .double (fz_sMg lim dR mR (k + 28 * rw + 1)), .double (FP.dadd (dR (k + 28 * rw + 1)) (FP.dmul 4602678819172646912 (fz_sHg lim dR (k + 28 * rw)))), .double (FP.dadd (mR (k + 28 * rw + 1)) (FP.dmul 4602678819172646912 (fz_sMg lim dR mR (k + 28 * rw)))), .double (FP.dsub (dR (k + 28 * rw + 2)) (FP.dmul 4602678819172646912 (fz_sHg lim dR (k + 28 * rw + 1)))), .double (FP.dsub (mR (k + 28 * rw + 2)) (FP.dmul 4602678819172646912 (fz_sMg lim dR mR (k + 28 * rw + 1)))), .double (fz_brd (fz_gtrC (fz_reach (FP.ddiv (FP.dadd (mR (k + 28 * rw + 1)) (FP.dmul 4602678819172646912 (fz_sMg lim dR mR (k + 28 * rw)))) (FP.dadd (dR (k + 28 * rw + 1)) (FP.dmul 4602678819172646912 (fz_sHg lim dR (k + 28 * rw))))) (fz_root (FP.dadd (dR (k + 28 * rw + 1)) (FP.dmul 4602678819172646912 (fz_sHg lim dR (k + 28 * rw)))))) (fz_reach (FP.ddiv (FP.dsub (mR (k + 28 * rw + 2)) (FP.dmul 4602678819172646912 (fz_sMg lim dR mR (k + 28 * rw + 1)))) (FP.dsub (dR (k + 28 * rw + 2)) (FP.dmul 4602678819172646912 (fz_sHg lim dR (k + 28 * rw + 1))))) (fz_root (FP.dsub (dR (k + 28 * rw + 2)) (FP.dmul 4602678819172646912 (fz_sHg lim dR (k + 28 * rw + 1))))))) (FP.dadd (mR (k + 28 * rw + 1)) (FP.dmul 4602678819172646912 (fz_sMg lim dR mR (k + 28 * rw)))) (FP.dsub (mR (k + 28 * rw + 2)) (FP.dmul 4602678819172646912 (fz_sMg lim dR mR (k + 28 * rw + 1)))) (FP.dadd (dR (k + 28 * rw + 1)) (FP.dmul 4602678819172646912 (fz_sHg lim dR (k + 28 * rw)))) (FP.dsub (dR (k + 28 * rw + 2)) (FP.dmul 4602678819172646912 (fz_sHg lim dR (k + 28 * rw + 1))))), .double v7])), (dp, fz_da cD 84 dR), (mp, fz_da cD 84 mR)] := hD
  refine lv_aload_n hx hb dX4_face_186 rfl (lv_at hl 4 rfl) ?_
  refine lv_dload hx hb dX4_face_187 (lv_at hl 2 rfl) ?_
  refine lv_dload hx hb dX4_face_189 (lv_at hl 1 rfl) ?_
  refine lv_dload hx hb dX4_face_191 (lv_at hl 0 rfl) ?_
  refine lv_aload_n hx hb dX4_face_193 rfl (lv_at hl 4 rfl) ?_
  refine va_get (D := D) (ci := 4) (v := .double (FP.dadd (mR (k + 28 * rw + 1)) (FP.dmul 4602678819172646912 (fz_sMg lim dR mR (k + 28 * rw))))) (C := RX4) (T := TX4) (N := 20) hx hb hts hin_X4 hown hK hP 0 rfl rfl 15 (by decide) hw_fieldLink_RX4_95_FlowGridModel_leftM_D (fun _ h9 => h9) rfl dX4_face_194 ?_
  refine lv_aload_n hx hb dX4_face_197 rfl (lv_at hl 4 rfl) ?_
  refine va_get (D := D) (ci := 4) (v := .double (FP.dsub (mR (k + 28 * rw + 2)) (FP.dmul 4602678819172646912 (fz_sMg lim dR mR (k + 28 * rw + 1))))) (C := RX4) (T := TX4) (N := 20) hx hb hts hin_X4 hown hK hP 0 rfl rfl 17 (by decide) hw_fieldLink_RX4_101_FlowGridModel_rightM_D (fun _ h9 => h9) rfl dX4_face_198 ?_
  refine fz_callS (ws' := [(o, .inr (4, [.int thr, .int (nI n), .int (nI kd), .int (nI lim), .int (nI 0), .int (nI ord), .double tm, .int cst, .int cfl, .int crf, .ref dp, .ref mp, .double (fz_sHg lim dR (k + 28 * rw + 1)), .double (fz_sMg lim dR mR (k + 28 * rw + 1)), .double (FP.dadd (dR (k + 28 * rw + 1)) (FP.dmul 4602678819172646912 (fz_sHg lim dR (k + 28 * rw)))), .double (FP.dadd (mR (k + 28 * rw + 1)) (FP.dmul 4602678819172646912 (fz_sMg lim dR mR (k + 28 * rw)))), .double (FP.dsub (dR (k + 28 * rw + 2)) (FP.dmul 4602678819172646912 (fz_sHg lim dR (k + 28 * rw + 1)))), .double (FP.dsub (mR (k + 28 * rw + 2)) (FP.dmul 4602678819172646912 (fz_sMg lim dR mR (k + 28 * rw + 1)))), .double (fz_brd (fz_gtrC (fz_reach (FP.ddiv (FP.dadd (mR (k + 28 * rw + 1)) (FP.dmul 4602678819172646912 (fz_sMg lim dR mR (k + 28 * rw)))) (FP.dadd (dR (k + 28 * rw + 1)) (FP.dmul 4602678819172646912 (fz_sHg lim dR (k + 28 * rw))))) (fz_root (FP.dadd (dR (k + 28 * rw + 1)) (FP.dmul 4602678819172646912 (fz_sHg lim dR (k + 28 * rw)))))) (fz_reach (FP.ddiv (FP.dsub (mR (k + 28 * rw + 2)) (FP.dmul 4602678819172646912 (fz_sMg lim dR mR (k + 28 * rw + 1)))) (FP.dsub (dR (k + 28 * rw + 2)) (FP.dmul 4602678819172646912 (fz_sHg lim dR (k + 28 * rw + 1))))) (fz_root (FP.dsub (dR (k + 28 * rw + 2)) (FP.dmul 4602678819172646912 (fz_sHg lim dR (k + 28 * rw + 1))))))) (FP.dadd (mR (k + 28 * rw + 1)) (FP.dmul 4602678819172646912 (fz_sMg lim dR mR (k + 28 * rw)))) (FP.dsub (mR (k + 28 * rw + 2)) (FP.dmul 4602678819172646912 (fz_sMg lim dR mR (k + 28 * rw + 1)))) (FP.dadd (dR (k + 28 * rw + 1)) (FP.dmul 4602678819172646912 (fz_sHg lim dR (k + 28 * rw)))) (FP.dsub (dR (k + 28 * rw + 2)) (FP.dmul 4602678819172646912 (fz_sHg lim dR (k + 28 * rw + 1))))), .double v7])), (dp, fz_da cD 84 dR), (mp, fz_da cD 84 mR)]) (wr := [(o, .inr (4, [.int thr, .int (nI n), .int (nI kd), .int (nI lim), .int (nI 0), .int (nI ord), .double tm, .int cst, .int cfl, .int crf, .ref dp, .ref mp, .double (fz_sHg lim dR (k + 28 * rw + 1)), .double (fz_sMg lim dR mR (k + 28 * rw + 1)), .double (FP.dadd (dR (k + 28 * rw + 1)) (FP.dmul 4602678819172646912 (fz_sHg lim dR (k + 28 * rw)))), .double (FP.dadd (mR (k + 28 * rw + 1)) (FP.dmul 4602678819172646912 (fz_sMg lim dR mR (k + 28 * rw)))), .double (FP.dsub (dR (k + 28 * rw + 2)) (FP.dmul 4602678819172646912 (fz_sHg lim dR (k + 28 * rw + 1)))), .double (FP.dsub (mR (k + 28 * rw + 2)) (FP.dmul 4602678819172646912 (fz_sMg lim dR mR (k + 28 * rw + 1)))), .double (fz_brd (fz_gtrC (fz_reach (FP.ddiv (FP.dadd (mR (k + 28 * rw + 1)) (FP.dmul 4602678819172646912 (fz_sMg lim dR mR (k + 28 * rw)))) (FP.dadd (dR (k + 28 * rw + 1)) (FP.dmul 4602678819172646912 (fz_sHg lim dR (k + 28 * rw))))) (fz_root (FP.dadd (dR (k + 28 * rw + 1)) (FP.dmul 4602678819172646912 (fz_sHg lim dR (k + 28 * rw)))))) (fz_reach (FP.ddiv (FP.dsub (mR (k + 28 * rw + 2)) (FP.dmul 4602678819172646912 (fz_sMg lim dR mR (k + 28 * rw + 1)))) (FP.dsub (dR (k + 28 * rw + 2)) (FP.dmul 4602678819172646912 (fz_sHg lim dR (k + 28 * rw + 1))))) (fz_root (FP.dsub (dR (k + 28 * rw + 2)) (FP.dmul 4602678819172646912 (fz_sHg lim dR (k + 28 * rw + 1))))))) (FP.dadd (mR (k + 28 * rw + 1)) (FP.dmul 4602678819172646912 (fz_sMg lim dR mR (k + 28 * rw)))) (FP.dsub (mR (k + 28 * rw + 2)) (FP.dmul 4602678819172646912 (fz_sMg lim dR mR (k + 28 * rw + 1)))) (FP.dadd (dR (k + 28 * rw + 1)) (FP.dmul 4602678819172646912 (fz_sHg lim dR (k + 28 * rw)))) (FP.dsub (dR (k + 28 * rw + 2)) (FP.dmul 4602678819172646912 (fz_sHg lim dR (k + 28 * rw + 1))))), .double v7])), (dp, fz_da cD 84 dR), (mp, fz_da cD 84 mR)]) (As := [.double (fz_mflux (FP.dadd (dR (k + 28 * rw + 1)) (FP.dmul 4602678819172646912 (fz_sHg lim dR (k + 28 * rw)))) (FP.dadd (mR (k + 28 * rw + 1)) (FP.dmul 4602678819172646912 (fz_sMg lim dR mR (k + 28 * rw)))) (FP.ddiv (FP.dadd (mR (k + 28 * rw + 1)) (FP.dmul 4602678819172646912 (fz_sMg lim dR mR (k + 28 * rw)))) (FP.dadd (dR (k + 28 * rw + 1)) (FP.dmul 4602678819172646912 (fz_sHg lim dR (k + 28 * rw)))))), .double (fz_mflux (FP.dsub (dR (k + 28 * rw + 2)) (FP.dmul 4602678819172646912 (fz_sHg lim dR (k + 28 * rw + 1)))) (FP.dsub (mR (k + 28 * rw + 2)) (FP.dmul 4602678819172646912 (fz_sMg lim dR mR (k + 28 * rw + 1)))) (FP.ddiv (FP.dsub (mR (k + 28 * rw + 2)) (FP.dmul 4602678819172646912 (fz_sMg lim dR mR (k + 28 * rw + 1)))) (FP.dsub (dR (k + 28 * rw + 2)) (FP.dmul 4602678819172646912 (fz_sHg lim dR (k + 28 * rw + 1)))))), .double (fz_gtrC (fz_reach (FP.ddiv (FP.dadd (mR (k + 28 * rw + 1)) (FP.dmul 4602678819172646912 (fz_sMg lim dR mR (k + 28 * rw)))) (FP.dadd (dR (k + 28 * rw + 1)) (FP.dmul 4602678819172646912 (fz_sHg lim dR (k + 28 * rw))))) (fz_root (FP.dadd (dR (k + 28 * rw + 1)) (FP.dmul 4602678819172646912 (fz_sHg lim dR (k + 28 * rw)))))) (fz_reach (FP.ddiv (FP.dsub (mR (k + 28 * rw + 2)) (FP.dmul 4602678819172646912 (fz_sMg lim dR mR (k + 28 * rw + 1)))) (FP.dsub (dR (k + 28 * rw + 2)) (FP.dmul 4602678819172646912 (fz_sHg lim dR (k + 28 * rw + 1))))) (fz_root (FP.dsub (dR (k + 28 * rw + 2)) (FP.dmul 4602678819172646912 (fz_sHg lim dR (k + 28 * rw + 1))))))), .double (FP.dadd (mR (k + 28 * rw + 1)) (FP.dmul 4602678819172646912 (fz_sMg lim dR mR (k + 28 * rw)))), .double (FP.dsub (mR (k + 28 * rw + 2)) (FP.dmul 4602678819172646912 (fz_sMg lim dR mR (k + 28 * rw + 1))))]) (rest := [.ref o]) ⟨hx, hb, hml, hown, hts⟩ (c_X4_broad l D cD (fz_mflux (FP.dadd (dR (k + 28 * rw + 1)) (FP.dmul 4602678819172646912 (fz_sHg lim dR (k + 28 * rw)))) (FP.dadd (mR (k + 28 * rw + 1)) (FP.dmul 4602678819172646912 (fz_sMg lim dR mR (k + 28 * rw)))) (FP.ddiv (FP.dadd (mR (k + 28 * rw + 1)) (FP.dmul 4602678819172646912 (fz_sMg lim dR mR (k + 28 * rw)))) (FP.dadd (dR (k + 28 * rw + 1)) (FP.dmul 4602678819172646912 (fz_sHg lim dR (k + 28 * rw)))))) (fz_mflux (FP.dsub (dR (k + 28 * rw + 2)) (FP.dmul 4602678819172646912 (fz_sHg lim dR (k + 28 * rw + 1)))) (FP.dsub (mR (k + 28 * rw + 2)) (FP.dmul 4602678819172646912 (fz_sMg lim dR mR (k + 28 * rw + 1)))) (FP.ddiv (FP.dsub (mR (k + 28 * rw + 2)) (FP.dmul 4602678819172646912 (fz_sMg lim dR mR (k + 28 * rw + 1)))) (FP.dsub (dR (k + 28 * rw + 2)) (FP.dmul 4602678819172646912 (fz_sHg lim dR (k + 28 * rw + 1)))))) (fz_gtrC (fz_reach (FP.ddiv (FP.dadd (mR (k + 28 * rw + 1)) (FP.dmul 4602678819172646912 (fz_sMg lim dR mR (k + 28 * rw)))) (FP.dadd (dR (k + 28 * rw + 1)) (FP.dmul 4602678819172646912 (fz_sHg lim dR (k + 28 * rw))))) (fz_root (FP.dadd (dR (k + 28 * rw + 1)) (FP.dmul 4602678819172646912 (fz_sHg lim dR (k + 28 * rw)))))) (fz_reach (FP.ddiv (FP.dsub (mR (k + 28 * rw + 2)) (FP.dmul 4602678819172646912 (fz_sMg lim dR mR (k + 28 * rw + 1)))) (FP.dsub (dR (k + 28 * rw + 2)) (FP.dmul 4602678819172646912 (fz_sHg lim dR (k + 28 * rw + 1))))) (fz_root (FP.dsub (dR (k + 28 * rw + 2)) (FP.dmul 4602678819172646912 (fz_sHg lim dR (k + 28 * rw + 1))))))) (FP.dadd (mR (k + 28 * rw + 1)) (FP.dmul 4602678819172646912 (fz_sMg lim dR mR (k + 28 * rw)))) (FP.dsub (mR (k + 28 * rw + 2)) (FP.dmul 4602678819172646912 (fz_sMg lim dR mR (k + 28 * rw + 1)))) ((hok.2.2.2.2.2.1 rfl).2.2.2.2)) (va_cwS 5 hts gX4_face_X4_broad rfl rfl rfl (by decide +kernel) ⟨Nat.le_of_ble_eq_true rfl, Nat.le_of_ble_eq_true rfl⟩) hK hNW hP hD hS hA [] [0, 1, 2] [0, 1, 2] rfl rfl rfl rfl (by decide) rfl rfl rfl hl.1 rfl (Nat.le_of_ble_eq_true rfl) dX4_face_201 ⟨Nat.zero_le _, Nat.zero_le _⟩ (fun H locs hP hD hS => ?_)
  refine va_put (D := D) (ci := 4) (v := .double (fz_brd (fz_gtrC (fz_reach (FP.ddiv (FP.dadd (mR (k + 28 * rw + 1)) (FP.dmul 4602678819172646912 (fz_sMg lim dR mR (k + 28 * rw)))) (FP.dadd (dR (k + 28 * rw + 1)) (FP.dmul 4602678819172646912 (fz_sHg lim dR (k + 28 * rw))))) (fz_root (FP.dadd (dR (k + 28 * rw + 1)) (FP.dmul 4602678819172646912 (fz_sHg lim dR (k + 28 * rw)))))) (fz_reach (FP.ddiv (FP.dsub (mR (k + 28 * rw + 2)) (FP.dmul 4602678819172646912 (fz_sMg lim dR mR (k + 28 * rw + 1)))) (FP.dsub (dR (k + 28 * rw + 2)) (FP.dmul 4602678819172646912 (fz_sHg lim dR (k + 28 * rw + 1))))) (fz_root (FP.dsub (dR (k + 28 * rw + 2)) (FP.dmul 4602678819172646912 (fz_sHg lim dR (k + 28 * rw + 1))))))) (fz_mflux (FP.dadd (dR (k + 28 * rw + 1)) (FP.dmul 4602678819172646912 (fz_sHg lim dR (k + 28 * rw)))) (FP.dadd (mR (k + 28 * rw + 1)) (FP.dmul 4602678819172646912 (fz_sMg lim dR mR (k + 28 * rw)))) (FP.ddiv (FP.dadd (mR (k + 28 * rw + 1)) (FP.dmul 4602678819172646912 (fz_sMg lim dR mR (k + 28 * rw)))) (FP.dadd (dR (k + 28 * rw + 1)) (FP.dmul 4602678819172646912 (fz_sHg lim dR (k + 28 * rw)))))) (fz_mflux (FP.dsub (dR (k + 28 * rw + 2)) (FP.dmul 4602678819172646912 (fz_sHg lim dR (k + 28 * rw + 1)))) (FP.dsub (mR (k + 28 * rw + 2)) (FP.dmul 4602678819172646912 (fz_sMg lim dR mR (k + 28 * rw + 1)))) (FP.ddiv (FP.dsub (mR (k + 28 * rw + 2)) (FP.dmul 4602678819172646912 (fz_sMg lim dR mR (k + 28 * rw + 1)))) (FP.dsub (dR (k + 28 * rw + 2)) (FP.dmul 4602678819172646912 (fz_sHg lim dR (k + 28 * rw + 1)))))) (FP.dadd (mR (k + 28 * rw + 1)) (FP.dmul 4602678819172646912 (fz_sMg lim dR mR (k + 28 * rw)))) (FP.dsub (mR (k + 28 * rw + 2)) (FP.dmul 4602678819172646912 (fz_sMg lim dR mR (k + 28 * rw + 1)))))) (ty := .double) (C := RX4) (T := TX4) (N := 20) hx hb hts hin_X4 tyX4 tyX4_ok nmX4 hown hK hP hD hS 0 rfl rfl 19 (by decide) hw_fieldLink_RX4_120_FlowGridModel_fluxM_D (fun _ h9 => h9) rfl (by decide +kernel) rfl rfl (Nat.le_of_ble_eq_true rfl) dX4_face_204 (fun H locs hP hD hS => ?_)
  have hP : va_P D vwCl [(o, .inr (4, [.int thr, .int (nI n), .int (nI kd), .int (nI lim), .int (nI 0), .int (nI ord), .double tm, .int cst, .int cfl, .int crf, .ref dp, .ref mp, .double (fz_sHg lim dR (k + 28 * rw + 1)), .double (fz_sMg lim dR mR (k + 28 * rw + 1)), .double (FP.dadd (dR (k + 28 * rw + 1)) (FP.dmul 4602678819172646912 (fz_sHg lim dR (k + 28 * rw)))), .double (FP.dadd (mR (k + 28 * rw + 1)) (FP.dmul 4602678819172646912 (fz_sMg lim dR mR (k + 28 * rw)))), .double (FP.dsub (dR (k + 28 * rw + 2)) (FP.dmul 4602678819172646912 (fz_sHg lim dR (k + 28 * rw + 1)))), .double (FP.dsub (mR (k + 28 * rw + 2)) (FP.dmul 4602678819172646912 (fz_sMg lim dR mR (k + 28 * rw + 1)))), .double (fz_brd (fz_gtrC (fz_reach (FP.ddiv (FP.dadd (mR (k + 28 * rw + 1)) (FP.dmul 4602678819172646912 (fz_sMg lim dR mR (k + 28 * rw)))) (FP.dadd (dR (k + 28 * rw + 1)) (FP.dmul 4602678819172646912 (fz_sHg lim dR (k + 28 * rw))))) (fz_root (FP.dadd (dR (k + 28 * rw + 1)) (FP.dmul 4602678819172646912 (fz_sHg lim dR (k + 28 * rw)))))) (fz_reach (FP.ddiv (FP.dsub (mR (k + 28 * rw + 2)) (FP.dmul 4602678819172646912 (fz_sMg lim dR mR (k + 28 * rw + 1)))) (FP.dsub (dR (k + 28 * rw + 2)) (FP.dmul 4602678819172646912 (fz_sHg lim dR (k + 28 * rw + 1))))) (fz_root (FP.dsub (dR (k + 28 * rw + 2)) (FP.dmul 4602678819172646912 (fz_sHg lim dR (k + 28 * rw + 1))))))) (FP.dadd (mR (k + 28 * rw + 1)) (FP.dmul 4602678819172646912 (fz_sMg lim dR mR (k + 28 * rw)))) (FP.dsub (mR (k + 28 * rw + 2)) (FP.dmul 4602678819172646912 (fz_sMg lim dR mR (k + 28 * rw + 1)))) (FP.dadd (dR (k + 28 * rw + 1)) (FP.dmul 4602678819172646912 (fz_sHg lim dR (k + 28 * rw)))) (FP.dsub (dR (k + 28 * rw + 2)) (FP.dmul 4602678819172646912 (fz_sHg lim dR (k + 28 * rw + 1))))), .double (fz_brd (fz_gtrC (fz_reach (FP.ddiv (FP.dadd (mR (k + 28 * rw + 1)) (FP.dmul 4602678819172646912 (fz_sMg lim dR mR (k + 28 * rw)))) (FP.dadd (dR (k + 28 * rw + 1)) (FP.dmul 4602678819172646912 (fz_sHg lim dR (k + 28 * rw))))) (fz_root (FP.dadd (dR (k + 28 * rw + 1)) (FP.dmul 4602678819172646912 (fz_sHg lim dR (k + 28 * rw)))))) (fz_reach (FP.ddiv (FP.dsub (mR (k + 28 * rw + 2)) (FP.dmul 4602678819172646912 (fz_sMg lim dR mR (k + 28 * rw + 1)))) (FP.dsub (dR (k + 28 * rw + 2)) (FP.dmul 4602678819172646912 (fz_sHg lim dR (k + 28 * rw + 1))))) (fz_root (FP.dsub (dR (k + 28 * rw + 2)) (FP.dmul 4602678819172646912 (fz_sHg lim dR (k + 28 * rw + 1))))))) (fz_mflux (FP.dadd (dR (k + 28 * rw + 1)) (FP.dmul 4602678819172646912 (fz_sHg lim dR (k + 28 * rw)))) (FP.dadd (mR (k + 28 * rw + 1)) (FP.dmul 4602678819172646912 (fz_sMg lim dR mR (k + 28 * rw)))) (FP.ddiv (FP.dadd (mR (k + 28 * rw + 1)) (FP.dmul 4602678819172646912 (fz_sMg lim dR mR (k + 28 * rw)))) (FP.dadd (dR (k + 28 * rw + 1)) (FP.dmul 4602678819172646912 (fz_sHg lim dR (k + 28 * rw)))))) (fz_mflux (FP.dsub (dR (k + 28 * rw + 2)) (FP.dmul 4602678819172646912 (fz_sHg lim dR (k + 28 * rw + 1)))) (FP.dsub (mR (k + 28 * rw + 2)) (FP.dmul 4602678819172646912 (fz_sMg lim dR mR (k + 28 * rw + 1)))) (FP.ddiv (FP.dsub (mR (k + 28 * rw + 2)) (FP.dmul 4602678819172646912 (fz_sMg lim dR mR (k + 28 * rw + 1)))) (FP.dsub (dR (k + 28 * rw + 2)) (FP.dmul 4602678819172646912 (fz_sHg lim dR (k + 28 * rw + 1)))))) (FP.dadd (mR (k + 28 * rw + 1)) (FP.dmul 4602678819172646912 (fz_sMg lim dR mR (k + 28 * rw)))) (FP.dsub (mR (k + 28 * rw + 2)) (FP.dmul 4602678819172646912 (fz_sMg lim dR mR (k + 28 * rw + 1)))))])), (dp, fz_da cD 84 dR), (mp, fz_da cD 84 mR)] H := hP
  have hD : va_D A [(o, .inr (4, [.int thr, .int (nI n), .int (nI kd), .int (nI lim), .int (nI 0), .int (nI ord), .double tm, .int cst, .int cfl, .int crf, .ref dp, .ref mp, .double (fz_sHg lim dR (k + 28 * rw + 1)), .double (fz_sMg lim dR mR (k + 28 * rw + 1)), .double (FP.dadd (dR (k + 28 * rw + 1)) (FP.dmul 4602678819172646912 (fz_sHg lim dR (k + 28 * rw)))), .double (FP.dadd (mR (k + 28 * rw + 1)) (FP.dmul 4602678819172646912 (fz_sMg lim dR mR (k + 28 * rw)))), .double (FP.dsub (dR (k + 28 * rw + 2)) (FP.dmul 4602678819172646912 (fz_sHg lim dR (k + 28 * rw + 1)))), .double (FP.dsub (mR (k + 28 * rw + 2)) (FP.dmul 4602678819172646912 (fz_sMg lim dR mR (k + 28 * rw + 1)))), .double (fz_brd (fz_gtrC (fz_reach (FP.ddiv (FP.dadd (mR (k + 28 * rw + 1)) (FP.dmul 4602678819172646912 (fz_sMg lim dR mR (k + 28 * rw)))) (FP.dadd (dR (k + 28 * rw + 1)) (FP.dmul 4602678819172646912 (fz_sHg lim dR (k + 28 * rw))))) (fz_root (FP.dadd (dR (k + 28 * rw + 1)) (FP.dmul 4602678819172646912 (fz_sHg lim dR (k + 28 * rw)))))) (fz_reach (FP.ddiv (FP.dsub (mR (k + 28 * rw + 2)) (FP.dmul 4602678819172646912 (fz_sMg lim dR mR (k + 28 * rw + 1)))) (FP.dsub (dR (k + 28 * rw + 2)) (FP.dmul 4602678819172646912 (fz_sHg lim dR (k + 28 * rw + 1))))) (fz_root (FP.dsub (dR (k + 28 * rw + 2)) (FP.dmul 4602678819172646912 (fz_sHg lim dR (k + 28 * rw + 1))))))) (FP.dadd (mR (k + 28 * rw + 1)) (FP.dmul 4602678819172646912 (fz_sMg lim dR mR (k + 28 * rw)))) (FP.dsub (mR (k + 28 * rw + 2)) (FP.dmul 4602678819172646912 (fz_sMg lim dR mR (k + 28 * rw + 1)))) (FP.dadd (dR (k + 28 * rw + 1)) (FP.dmul 4602678819172646912 (fz_sHg lim dR (k + 28 * rw)))) (FP.dsub (dR (k + 28 * rw + 2)) (FP.dmul 4602678819172646912 (fz_sHg lim dR (k + 28 * rw + 1))))), .double (fz_brd (fz_gtrC (fz_reach (FP.ddiv (FP.dadd (mR (k + 28 * rw + 1)) (FP.dmul 4602678819172646912 (fz_sMg lim dR mR (k + 28 * rw)))) (FP.dadd (dR (k + 28 * rw + 1)) (FP.dmul 4602678819172646912 (fz_sHg lim dR (k + 28 * rw))))) (fz_root (FP.dadd (dR (k + 28 * rw + 1)) (FP.dmul 4602678819172646912 (fz_sHg lim dR (k + 28 * rw)))))) (fz_reach (FP.ddiv (FP.dsub (mR (k + 28 * rw + 2)) (FP.dmul 4602678819172646912 (fz_sMg lim dR mR (k + 28 * rw + 1)))) (FP.dsub (dR (k + 28 * rw + 2)) (FP.dmul 4602678819172646912 (fz_sHg lim dR (k + 28 * rw + 1))))) (fz_root (FP.dsub (dR (k + 28 * rw + 2)) (FP.dmul 4602678819172646912 (fz_sHg lim dR (k + 28 * rw + 1))))))) (fz_mflux (FP.dadd (dR (k + 28 * rw + 1)) (FP.dmul 4602678819172646912 (fz_sHg lim dR (k + 28 * rw)))) (FP.dadd (mR (k + 28 * rw + 1)) (FP.dmul 4602678819172646912 (fz_sMg lim dR mR (k + 28 * rw)))) (FP.ddiv (FP.dadd (mR (k + 28 * rw + 1)) (FP.dmul 4602678819172646912 (fz_sMg lim dR mR (k + 28 * rw)))) (FP.dadd (dR (k + 28 * rw + 1)) (FP.dmul 4602678819172646912 (fz_sHg lim dR (k + 28 * rw)))))) (fz_mflux (FP.dsub (dR (k + 28 * rw + 2)) (FP.dmul 4602678819172646912 (fz_sHg lim dR (k + 28 * rw + 1)))) (FP.dsub (mR (k + 28 * rw + 2)) (FP.dmul 4602678819172646912 (fz_sMg lim dR mR (k + 28 * rw + 1)))) (FP.ddiv (FP.dsub (mR (k + 28 * rw + 2)) (FP.dmul 4602678819172646912 (fz_sMg lim dR mR (k + 28 * rw + 1)))) (FP.dsub (dR (k + 28 * rw + 2)) (FP.dmul 4602678819172646912 (fz_sHg lim dR (k + 28 * rw + 1)))))) (FP.dadd (mR (k + 28 * rw + 1)) (FP.dmul 4602678819172646912 (fz_sMg lim dR mR (k + 28 * rw)))) (FP.dsub (mR (k + 28 * rw + 2)) (FP.dmul 4602678819172646912 (fz_sMg lim dR mR (k + 28 * rw + 1)))))])), (dp, fz_da cD 84 dR), (mp, fz_da cD 84 mR)] := hD
  exact fz_vretE hx hb hr hlocks ⟨fz_sHg lim dR (k + 28 * rw + 1), fz_sMg lim dR mR (k + 28 * rw + 1), FP.dadd (dR (k + 28 * rw + 1)) (FP.dmul 4602678819172646912 (fz_sHg lim dR (k + 28 * rw))), FP.dadd (mR (k + 28 * rw + 1)) (FP.dmul 4602678819172646912 (fz_sMg lim dR mR (k + 28 * rw))), FP.dsub (dR (k + 28 * rw + 2)) (FP.dmul 4602678819172646912 (fz_sHg lim dR (k + 28 * rw + 1))), FP.dsub (mR (k + 28 * rw + 2)) (FP.dmul 4602678819172646912 (fz_sMg lim dR mR (k + 28 * rw + 1))), rfl, by rw [fz_FHi0, fz_FMi0]; rfl⟩ hP hK hD hS dX4_face_207

set_option maxHeartbeats 4000000 in
set_option maxRecDepth 100000 in
theorem c_X4_face1 (l : Launch) (D : va_G) (cD : ClassId) (o dp mp n kd lim ord : Nat) (dR mR : Nat → UInt64) (thr : Int32) (tm v0 v1 v2 v3 v4 v5 v6 v7 : UInt64) (cst cfl crf : Int32) (rw k : Nat) (hrw : rw ≤ 1) (hk : k ≤ 24) (hlim : lim ≤ 3) (hok : fz_fcOk lim 1 dR mR (k + 28 * rw)) : fz_E l D [(cD, .double)] yX4_face wsX4_face ({ frames := 4, cells := 0, slots := 0, locals := 120 }) [.ref o, .int (nI rw), .int (nI k)] [(o, .inr (4, [.int thr, .int (nI n), .int (nI kd), .int (nI lim), .int (nI 1), .int (nI ord), .double tm, .int cst, .int cfl, .int crf, .ref dp, .ref mp, .double v0, .double v1, .double v2, .double v3, .double v4, .double v5, .double v6, .double v7])), (dp, fz_da cD 84 dR), (mp, fz_da cD 84 mR)] (fun ov wo => ∃ (x0 x1 x2 x3 x4 x5 : UInt64), ov = none ∧ wo = [(o, .inr (4, [.int thr, .int (nI n), .int (nI kd), .int (nI lim), .int (nI 1), .int (nI ord), .double tm, .int cst, .int cfl, .int crf, .ref dp, .ref mp, .double x0, .double x1, .double x2, .double x3, .double x4, .double x5, .double (fz_FHi lim 1 dR mR (k + 28 * rw)), .double (fz_FMi lim 1 dR mR (k + 28 * rw))])), (dp, fz_da cD 84 dR), (mp, fz_da cD 84 mR)]) := by
  refine fz_startE (cc := cX4_face) (maxL := 20) (ret := none) (by decide) rfl (Nat.le_of_ble_eq_true rfl) ?_
  intro p e s m below meth c A hx hb hr hlocks hml hown hts hK hA hNW H locs hP hD hS ls hl
  have hl : lv_has ls 20 [(0, .ref o), (1, .int (nI rw)), (2, .int (nI k))] := hl
  have hown : s.vm.findClass RX4 = some m.cls := hown
  have hw_fieldLink_RX4_7_FlowGridModel_depth_D := hts (.fieldLink RX4 7 "FlowGridModel" "depth" "[D") (by decide +kernel)
  have hin_X4 : ∀ w ∈ u_ws RX4 TX4 20, w ∈ wsX4_face := by decide +kernel
  have hw_constantDouble_RX4_63_4602678819172646912 := hts (.constantDouble RX4 63 (4602678819172646912)) (by decide +kernel)
  have hw_fieldLink_RX4_81_FlowGridModel_slopeH_D := hts (.fieldLink RX4 81 "FlowGridModel" "slopeH" "D") (by decide +kernel)
  have hw_fieldLink_RX4_92_FlowGridModel_leftH_D := hts (.fieldLink RX4 92 "FlowGridModel" "leftH" "D") (by decide +kernel)
  have hw_fieldLink_RX4_13_FlowGridModel_momentum_D := hts (.fieldLink RX4 13 "FlowGridModel" "momentum" "[D") (by decide +kernel)
  have hw_fieldLink_RX4_84_FlowGridModel_slopeM_D := hts (.fieldLink RX4 84 "FlowGridModel" "slopeM" "D") (by decide +kernel)
  have hw_fieldLink_RX4_95_FlowGridModel_leftM_D := hts (.fieldLink RX4 95 "FlowGridModel" "leftM" "D") (by decide +kernel)
  have hw_fieldLink_RX4_98_FlowGridModel_rightH_D := hts (.fieldLink RX4 98 "FlowGridModel" "rightH" "D") (by decide +kernel)
  have hw_fieldLink_RX4_101_FlowGridModel_rightM_D := hts (.fieldLink RX4 101 "FlowGridModel" "rightM" "D") (by decide +kernel)
  have hw_fieldLink_RX4_48_FlowGridModel_solver_I := hts (.fieldLink RX4 48 "FlowGridModel" "solver" "I") (by decide +kernel)
  have hw_fieldLink_RX4_117_FlowGridModel_fluxH_D := hts (.fieldLink RX4 117 "FlowGridModel" "fluxH" "D") (by decide +kernel)
  have hw_fieldLink_RX4_120_FlowGridModel_fluxM_D := hts (.fieldLink RX4 120 "FlowGridModel" "fluxM" "D") (by decide +kernel)
  refine lv_bipush (v := nI 28) hx hb dX4_face_0 (by decide) ?_
  refine lv_iload_n hx hb dX4_face_2 rfl (lv_at hl 1 rfl) ?_
  refine fz_imulN hx hb dX4_face_3 ?_
  refine fz_topn (b := 28 * rw) (by omega) ?_
  refine lv_iload_n hx hb dX4_face_4 rfl (lv_at hl 2 rfl) ?_
  refine fz_iaddN hx hb dX4_face_5 ?_
  refine fz_topn (b := k + 28 * rw) (by omega) ?_
  refine lv_iconst (v := nI 2) hx hb dX4_face_6 (by decide) ?_
  refine fz_iaddN hx hb dX4_face_7 ?_
  refine fz_topn (b := k + 28 * rw + 2) (by omega) ?_
  refine lv_istore_n (lv' := [(3, .int (nI (k + 28 * rw + 2))), (0, .ref o), (1, .int (nI rw)), (2, .int (nI k))]) hx hb dX4_face_8 rfl hl (by decide) rfl (fun ls hl => ?_)
  refine lv_aload_n hx hb dX4_face_9 rfl (lv_at hl 1 rfl) ?_
  refine lv_iload_n hx hb dX4_face_10 rfl (lv_at hl 0 rfl) ?_
  refine lv_iconst (v := nI 1) hx hb dX4_face_11 (by decide) ?_
  refine fz_isubN hx hb (by omega) dX4_face_12 ?_
  refine fz_topn (b := k + 28 * rw + 1) (by omega) ?_
  refine fz_callV (ws' := [(o, .inr (4, [.int thr, .int (nI n), .int (nI kd), .int (nI lim), .int (nI 1), .int (nI ord), .double tm, .int cst, .int cfl, .int crf, .ref dp, .ref mp, .double (fz_sHg lim dR (k + 28 * rw)), .double (fz_sMg lim dR mR (k + 28 * rw)), .double v2, .double v3, .double v4, .double v5, .double v6, .double v7])), (dp, fz_da cD 84 dR), (mp, fz_da cD 84 mR)]) (wr := []) (As := [.int (nI (k + 28 * rw + 1))]) (rest := []) ⟨hx, hb, hml, hown, hts⟩ (c_X4_slopes l D cD o dp mp n kd lim 1 ord dR mR thr tm v0 v1 v2 v3 v4 v5 v6 v7 cst cfl crf (k + 28 * rw) (by omega) hlim (hok.1)) (cwV 1 hts gX4_face_X4_slopes rfl rfl rfl (by decide +kernel) ⟨Nat.le_of_ble_eq_true rfl, Nat.le_of_ble_eq_true rfl⟩) hK hNW hP hD hS hA [0, 1, 2] [] [0, 1, 2] rfl rfl rfl rfl (by decide) rfl rfl (q0 := 0) (ci := 4) rfl rfl rfl rfl hl.1 rfl (Nat.le_of_ble_eq_true rfl) dX4_face_13 ⟨Nat.zero_le _, Nat.zero_le _⟩ (fun H locs hP hD hS => ?_)
  refine lv_aload_n hx hb dX4_face_16 rfl (lv_at hl 1 rfl) ?_
  refine lv_aload_n hx hb dX4_face_17 rfl (lv_at hl 1 rfl) ?_
  refine va_get (D := D) (ci := 4) (v := .ref dp) (C := RX4) (T := TX4) (N := 20) hx hb hts hin_X4 hown hK hP 0 rfl rfl 10 (by decide) hw_fieldLink_RX4_7_FlowGridModel_depth_D (fun _ h9 => h9) rfl dX4_face_18 ?_
  refine lv_iload_n hx hb dX4_face_21 rfl (lv_at hl 0 rfl) ?_
  refine lv_iconst (v := nI 1) hx hb dX4_face_22 (by decide) ?_
  refine fz_isubN hx hb (by omega) dX4_face_23 ?_
  refine fz_topn (b := k + 28 * rw + 1) (by omega) ?_
  refine fz_dald (i := k + 28 * rw + 1) hx hb hK hP 1 0 rfl rfl (by omega) (by decide) dX4_face_24 ?_
  refine lv_ldc2d hx hb hown hw_constantDouble_RX4_63_4602678819172646912 dX4_face_25 ?_
  refine lv_aload_n hx hb dX4_face_28 rfl (lv_at hl 1 rfl) ?_
  refine va_get (D := D) (ci := 4) (v := .double (fz_sHg lim dR (k + 28 * rw))) (C := RX4) (T := TX4) (N := 20) hx hb hts hin_X4 hown hK hP 0 rfl rfl 12 (by decide) hw_fieldLink_RX4_81_FlowGridModel_slopeH_D (fun _ h9 => h9) rfl dX4_face_29 ?_
  refine lv_dmul hx hb dX4_face_32 (hok.2.2.1.1) ?_
  refine lv_dadd hx hb dX4_face_33 (hok.2.2.1.2.1) ?_
  refine va_put (D := D) (ci := 4) (v := .double (FP.dadd (dR (k + 28 * rw + 1)) (FP.dmul 4602678819172646912 (fz_sHg lim dR (k + 28 * rw))))) (ty := .double) (C := RX4) (T := TX4) (N := 20) hx hb hts hin_X4 tyX4 tyX4_ok nmX4 hown hK hP hD hS 0 rfl rfl 14 (by decide) hw_fieldLink_RX4_92_FlowGridModel_leftH_D (fun _ h9 => h9) rfl (by decide +kernel) rfl rfl (Nat.le_of_ble_eq_true rfl) dX4_face_34 (fun H locs hP hD hS => ?_)
  have hP : va_P D vwCl [(o, .inr (4, [.int thr, .int (nI n), .int (nI kd), .int (nI lim), .int (nI 1), .int (nI ord), .double tm, .int cst, .int cfl, .int crf, .ref dp, .ref mp, .double (fz_sHg lim dR (k + 28 * rw)), .double (fz_sMg lim dR mR (k + 28 * rw)), .double (FP.dadd (dR (k + 28 * rw + 1)) (FP.dmul 4602678819172646912 (fz_sHg lim dR (k + 28 * rw)))), .double v3, .double v4, .double v5, .double v6, .double v7])), (dp, fz_da cD 84 dR), (mp, fz_da cD 84 mR)] H := hP
  have hD : va_D A [(o, .inr (4, [.int thr, .int (nI n), .int (nI kd), .int (nI lim), .int (nI 1), .int (nI ord), .double tm, .int cst, .int cfl, .int crf, .ref dp, .ref mp, .double (fz_sHg lim dR (k + 28 * rw)), .double (fz_sMg lim dR mR (k + 28 * rw)), .double (FP.dadd (dR (k + 28 * rw + 1)) (FP.dmul 4602678819172646912 (fz_sHg lim dR (k + 28 * rw)))), .double v3, .double v4, .double v5, .double v6, .double v7])), (dp, fz_da cD 84 dR), (mp, fz_da cD 84 mR)] := hD
  refine lv_aload_n hx hb dX4_face_37 rfl (lv_at hl 1 rfl) ?_
  refine lv_aload_n hx hb dX4_face_38 rfl (lv_at hl 1 rfl) ?_
  refine va_get (D := D) (ci := 4) (v := .ref mp) (C := RX4) (T := TX4) (N := 20) hx hb hts hin_X4 hown hK hP 0 rfl rfl 11 (by decide) hw_fieldLink_RX4_13_FlowGridModel_momentum_D (fun _ h9 => h9) rfl dX4_face_39 ?_
  refine lv_iload_n hx hb dX4_face_42 rfl (lv_at hl 0 rfl) ?_
  refine lv_iconst (v := nI 1) hx hb dX4_face_43 (by decide) ?_
  refine fz_isubN hx hb (by omega) dX4_face_44 ?_
  refine fz_topn (b := k + 28 * rw + 1) (by omega) ?_
  refine fz_dald (i := k + 28 * rw + 1) hx hb hK hP 2 0 rfl rfl (by omega) (by decide) dX4_face_45 ?_
  refine lv_ldc2d hx hb hown hw_constantDouble_RX4_63_4602678819172646912 dX4_face_46 ?_
  refine lv_aload_n hx hb dX4_face_49 rfl (lv_at hl 1 rfl) ?_
  refine va_get (D := D) (ci := 4) (v := .double (fz_sMg lim dR mR (k + 28 * rw))) (C := RX4) (T := TX4) (N := 20) hx hb hts hin_X4 hown hK hP 0 rfl rfl 13 (by decide) hw_fieldLink_RX4_84_FlowGridModel_slopeM_D (fun _ h9 => h9) rfl dX4_face_50 ?_
  refine lv_dmul hx hb dX4_face_53 (hok.2.2.1.2.2.1) ?_
  refine lv_dadd hx hb dX4_face_54 (hok.2.2.1.2.2.2.1) ?_
  refine va_put (D := D) (ci := 4) (v := .double (FP.dadd (mR (k + 28 * rw + 1)) (FP.dmul 4602678819172646912 (fz_sMg lim dR mR (k + 28 * rw))))) (ty := .double) (C := RX4) (T := TX4) (N := 20) hx hb hts hin_X4 tyX4 tyX4_ok nmX4 hown hK hP hD hS 0 rfl rfl 15 (by decide) hw_fieldLink_RX4_95_FlowGridModel_leftM_D (fun _ h9 => h9) rfl (by decide +kernel) rfl rfl (Nat.le_of_ble_eq_true rfl) dX4_face_55 (fun H locs hP hD hS => ?_)
  have hP : va_P D vwCl [(o, .inr (4, [.int thr, .int (nI n), .int (nI kd), .int (nI lim), .int (nI 1), .int (nI ord), .double tm, .int cst, .int cfl, .int crf, .ref dp, .ref mp, .double (fz_sHg lim dR (k + 28 * rw)), .double (fz_sMg lim dR mR (k + 28 * rw)), .double (FP.dadd (dR (k + 28 * rw + 1)) (FP.dmul 4602678819172646912 (fz_sHg lim dR (k + 28 * rw)))), .double (FP.dadd (mR (k + 28 * rw + 1)) (FP.dmul 4602678819172646912 (fz_sMg lim dR mR (k + 28 * rw)))), .double v4, .double v5, .double v6, .double v7])), (dp, fz_da cD 84 dR), (mp, fz_da cD 84 mR)] H := hP
  have hD : va_D A [(o, .inr (4, [.int thr, .int (nI n), .int (nI kd), .int (nI lim), .int (nI 1), .int (nI ord), .double tm, .int cst, .int cfl, .int crf, .ref dp, .ref mp, .double (fz_sHg lim dR (k + 28 * rw)), .double (fz_sMg lim dR mR (k + 28 * rw)), .double (FP.dadd (dR (k + 28 * rw + 1)) (FP.dmul 4602678819172646912 (fz_sHg lim dR (k + 28 * rw)))), .double (FP.dadd (mR (k + 28 * rw + 1)) (FP.dmul 4602678819172646912 (fz_sMg lim dR mR (k + 28 * rw)))), .double v4, .double v5, .double v6, .double v7])), (dp, fz_da cD 84 dR), (mp, fz_da cD 84 mR)] := hD
  refine lv_aload_n hx hb dX4_face_58 rfl (lv_at hl 1 rfl) ?_
  refine lv_iload_n hx hb dX4_face_59 rfl (lv_at hl 0 rfl) ?_
  refine fz_callV (ws' := [(o, .inr (4, [.int thr, .int (nI n), .int (nI kd), .int (nI lim), .int (nI 1), .int (nI ord), .double tm, .int cst, .int cfl, .int crf, .ref dp, .ref mp, .double (fz_sHg lim dR (k + 28 * rw + 1)), .double (fz_sMg lim dR mR (k + 28 * rw + 1)), .double (FP.dadd (dR (k + 28 * rw + 1)) (FP.dmul 4602678819172646912 (fz_sHg lim dR (k + 28 * rw)))), .double (FP.dadd (mR (k + 28 * rw + 1)) (FP.dmul 4602678819172646912 (fz_sMg lim dR mR (k + 28 * rw)))), .double v4, .double v5, .double v6, .double v7])), (dp, fz_da cD 84 dR), (mp, fz_da cD 84 mR)]) (wr := []) (As := [.int (nI (k + 28 * rw + 2))]) (rest := []) ⟨hx, hb, hml, hown, hts⟩ (c_X4_slopes l D cD o dp mp n kd lim 1 ord dR mR thr tm (fz_sHg lim dR (k + 28 * rw)) (fz_sMg lim dR mR (k + 28 * rw)) (FP.dadd (dR (k + 28 * rw + 1)) (FP.dmul 4602678819172646912 (fz_sHg lim dR (k + 28 * rw)))) (FP.dadd (mR (k + 28 * rw + 1)) (FP.dmul 4602678819172646912 (fz_sMg lim dR mR (k + 28 * rw)))) v4 v5 v6 v7 cst cfl crf (k + 28 * rw + 1) (by omega) hlim (hok.2.1)) (cwV 1 hts gX4_face_X4_slopes rfl rfl rfl (by decide +kernel) ⟨Nat.le_of_ble_eq_true rfl, Nat.le_of_ble_eq_true rfl⟩) hK hNW hP hD hS hA [0, 1, 2] [] [0, 1, 2] rfl rfl rfl rfl (by decide) rfl rfl (q0 := 0) (ci := 4) rfl rfl rfl rfl hl.1 rfl (Nat.le_of_ble_eq_true rfl) dX4_face_60 ⟨Nat.zero_le _, Nat.zero_le _⟩ (fun H locs hP hD hS => ?_)
  refine lv_aload_n hx hb dX4_face_63 rfl (lv_at hl 1 rfl) ?_
  refine lv_aload_n hx hb dX4_face_64 rfl (lv_at hl 1 rfl) ?_
  refine va_get (D := D) (ci := 4) (v := .ref dp) (C := RX4) (T := TX4) (N := 20) hx hb hts hin_X4 hown hK hP 0 rfl rfl 10 (by decide) hw_fieldLink_RX4_7_FlowGridModel_depth_D (fun _ h9 => h9) rfl dX4_face_65 ?_
  refine lv_iload_n hx hb dX4_face_68 rfl (lv_at hl 0 rfl) ?_
  refine fz_dald (i := k + 28 * rw + 2) hx hb hK hP 1 0 rfl rfl (by omega) (by decide) dX4_face_69 ?_
  refine lv_ldc2d hx hb hown hw_constantDouble_RX4_63_4602678819172646912 dX4_face_70 ?_
  refine lv_aload_n hx hb dX4_face_73 rfl (lv_at hl 1 rfl) ?_
  refine va_get (D := D) (ci := 4) (v := .double (fz_sHg lim dR (k + 28 * rw + 1))) (C := RX4) (T := TX4) (N := 20) hx hb hts hin_X4 hown hK hP 0 rfl rfl 12 (by decide) hw_fieldLink_RX4_81_FlowGridModel_slopeH_D (fun _ h9 => h9) rfl dX4_face_74 ?_
  refine lv_dmul hx hb dX4_face_77 (hok.2.2.1.2.2.2.2.1) ?_
  refine lv_dsub hx hb dX4_face_78 (hok.2.2.1.2.2.2.2.2.1) ?_
  refine va_put (D := D) (ci := 4) (v := .double (FP.dsub (dR (k + 28 * rw + 2)) (FP.dmul 4602678819172646912 (fz_sHg lim dR (k + 28 * rw + 1))))) (ty := .double) (C := RX4) (T := TX4) (N := 20) hx hb hts hin_X4 tyX4 tyX4_ok nmX4 hown hK hP hD hS 0 rfl rfl 16 (by decide) hw_fieldLink_RX4_98_FlowGridModel_rightH_D (fun _ h9 => h9) rfl (by decide +kernel) rfl rfl (Nat.le_of_ble_eq_true rfl) dX4_face_79 (fun H locs hP hD hS => ?_)
  have hP : va_P D vwCl [(o, .inr (4, [.int thr, .int (nI n), .int (nI kd), .int (nI lim), .int (nI 1), .int (nI ord), .double tm, .int cst, .int cfl, .int crf, .ref dp, .ref mp, .double (fz_sHg lim dR (k + 28 * rw + 1)), .double (fz_sMg lim dR mR (k + 28 * rw + 1)), .double (FP.dadd (dR (k + 28 * rw + 1)) (FP.dmul 4602678819172646912 (fz_sHg lim dR (k + 28 * rw)))), .double (FP.dadd (mR (k + 28 * rw + 1)) (FP.dmul 4602678819172646912 (fz_sMg lim dR mR (k + 28 * rw)))), .double (FP.dsub (dR (k + 28 * rw + 2)) (FP.dmul 4602678819172646912 (fz_sHg lim dR (k + 28 * rw + 1)))), .double v5, .double v6, .double v7])), (dp, fz_da cD 84 dR), (mp, fz_da cD 84 mR)] H := hP
  have hD : va_D A [(o, .inr (4, [.int thr, .int (nI n), .int (nI kd), .int (nI lim), .int (nI 1), .int (nI ord), .double tm, .int cst, .int cfl, .int crf, .ref dp, .ref mp, .double (fz_sHg lim dR (k + 28 * rw + 1)), .double (fz_sMg lim dR mR (k + 28 * rw + 1)), .double (FP.dadd (dR (k + 28 * rw + 1)) (FP.dmul 4602678819172646912 (fz_sHg lim dR (k + 28 * rw)))), .double (FP.dadd (mR (k + 28 * rw + 1)) (FP.dmul 4602678819172646912 (fz_sMg lim dR mR (k + 28 * rw)))), .double (FP.dsub (dR (k + 28 * rw + 2)) (FP.dmul 4602678819172646912 (fz_sHg lim dR (k + 28 * rw + 1)))), .double v5, .double v6, .double v7])), (dp, fz_da cD 84 dR), (mp, fz_da cD 84 mR)] := hD
  refine lv_aload_n hx hb dX4_face_82 rfl (lv_at hl 1 rfl) ?_
  refine lv_aload_n hx hb dX4_face_83 rfl (lv_at hl 1 rfl) ?_
  refine va_get (D := D) (ci := 4) (v := .ref mp) (C := RX4) (T := TX4) (N := 20) hx hb hts hin_X4 hown hK hP 0 rfl rfl 11 (by decide) hw_fieldLink_RX4_13_FlowGridModel_momentum_D (fun _ h9 => h9) rfl dX4_face_84 ?_
  refine lv_iload_n hx hb dX4_face_87 rfl (lv_at hl 0 rfl) ?_
  refine fz_dald (i := k + 28 * rw + 2) hx hb hK hP 2 0 rfl rfl (by omega) (by decide) dX4_face_88 ?_
  refine lv_ldc2d hx hb hown hw_constantDouble_RX4_63_4602678819172646912 dX4_face_89 ?_
  refine lv_aload_n hx hb dX4_face_92 rfl (lv_at hl 1 rfl) ?_
  refine va_get (D := D) (ci := 4) (v := .double (fz_sMg lim dR mR (k + 28 * rw + 1))) (C := RX4) (T := TX4) (N := 20) hx hb hts hin_X4 hown hK hP 0 rfl rfl 13 (by decide) hw_fieldLink_RX4_84_FlowGridModel_slopeM_D (fun _ h9 => h9) rfl dX4_face_93 ?_
  refine lv_dmul hx hb dX4_face_96 (hok.2.2.1.2.2.2.2.2.2.1) ?_
  refine lv_dsub hx hb dX4_face_97 (hok.2.2.1.2.2.2.2.2.2.2.1) ?_
  refine va_put (D := D) (ci := 4) (v := .double (FP.dsub (mR (k + 28 * rw + 2)) (FP.dmul 4602678819172646912 (fz_sMg lim dR mR (k + 28 * rw + 1))))) (ty := .double) (C := RX4) (T := TX4) (N := 20) hx hb hts hin_X4 tyX4 tyX4_ok nmX4 hown hK hP hD hS 0 rfl rfl 17 (by decide) hw_fieldLink_RX4_101_FlowGridModel_rightM_D (fun _ h9 => h9) rfl (by decide +kernel) rfl rfl (Nat.le_of_ble_eq_true rfl) dX4_face_98 (fun H locs hP hD hS => ?_)
  have hP : va_P D vwCl [(o, .inr (4, [.int thr, .int (nI n), .int (nI kd), .int (nI lim), .int (nI 1), .int (nI ord), .double tm, .int cst, .int cfl, .int crf, .ref dp, .ref mp, .double (fz_sHg lim dR (k + 28 * rw + 1)), .double (fz_sMg lim dR mR (k + 28 * rw + 1)), .double (FP.dadd (dR (k + 28 * rw + 1)) (FP.dmul 4602678819172646912 (fz_sHg lim dR (k + 28 * rw)))), .double (FP.dadd (mR (k + 28 * rw + 1)) (FP.dmul 4602678819172646912 (fz_sMg lim dR mR (k + 28 * rw)))), .double (FP.dsub (dR (k + 28 * rw + 2)) (FP.dmul 4602678819172646912 (fz_sHg lim dR (k + 28 * rw + 1)))), .double (FP.dsub (mR (k + 28 * rw + 2)) (FP.dmul 4602678819172646912 (fz_sMg lim dR mR (k + 28 * rw + 1)))), .double v6, .double v7])), (dp, fz_da cD 84 dR), (mp, fz_da cD 84 mR)] H := hP
  have hD : va_D A [(o, .inr (4, [.int thr, .int (nI n), .int (nI kd), .int (nI lim), .int (nI 1), .int (nI ord), .double tm, .int cst, .int cfl, .int crf, .ref dp, .ref mp, .double (fz_sHg lim dR (k + 28 * rw + 1)), .double (fz_sMg lim dR mR (k + 28 * rw + 1)), .double (FP.dadd (dR (k + 28 * rw + 1)) (FP.dmul 4602678819172646912 (fz_sHg lim dR (k + 28 * rw)))), .double (FP.dadd (mR (k + 28 * rw + 1)) (FP.dmul 4602678819172646912 (fz_sMg lim dR mR (k + 28 * rw)))), .double (FP.dsub (dR (k + 28 * rw + 2)) (FP.dmul 4602678819172646912 (fz_sHg lim dR (k + 28 * rw + 1)))), .double (FP.dsub (mR (k + 28 * rw + 2)) (FP.dmul 4602678819172646912 (fz_sMg lim dR mR (k + 28 * rw + 1)))), .double v6, .double v7])), (dp, fz_da cD 84 dR), (mp, fz_da cD 84 mR)] := hD
  refine lv_aload_n hx hb dX4_face_101 rfl (lv_at hl 1 rfl) ?_
  refine va_get (D := D) (ci := 4) (v := .double (FP.dadd (dR (k + 28 * rw + 1)) (FP.dmul 4602678819172646912 (fz_sHg lim dR (k + 28 * rw))))) (C := RX4) (T := TX4) (N := 20) hx hb hts hin_X4 hown hK hP 0 rfl rfl 14 (by decide) hw_fieldLink_RX4_92_FlowGridModel_leftH_D (fun _ h9 => h9) rfl dX4_face_102 ?_
  refine lv_aload_n hx hb dX4_face_105 rfl (lv_at hl 1 rfl) ?_
  refine va_get (D := D) (ci := 4) (v := .double (FP.dadd (mR (k + 28 * rw + 1)) (FP.dmul 4602678819172646912 (fz_sMg lim dR mR (k + 28 * rw))))) (C := RX4) (T := TX4) (N := 20) hx hb hts hin_X4 hown hK hP 0 rfl rfl 15 (by decide) hw_fieldLink_RX4_95_FlowGridModel_leftM_D (fun _ h9 => h9) rfl dX4_face_106 ?_
  refine fz_callS (ws' := [(o, .inr (4, [.int thr, .int (nI n), .int (nI kd), .int (nI lim), .int (nI 1), .int (nI ord), .double tm, .int cst, .int cfl, .int crf, .ref dp, .ref mp, .double (fz_sHg lim dR (k + 28 * rw + 1)), .double (fz_sMg lim dR mR (k + 28 * rw + 1)), .double (FP.dadd (dR (k + 28 * rw + 1)) (FP.dmul 4602678819172646912 (fz_sHg lim dR (k + 28 * rw)))), .double (FP.dadd (mR (k + 28 * rw + 1)) (FP.dmul 4602678819172646912 (fz_sMg lim dR mR (k + 28 * rw)))), .double (FP.dsub (dR (k + 28 * rw + 2)) (FP.dmul 4602678819172646912 (fz_sHg lim dR (k + 28 * rw + 1)))), .double (FP.dsub (mR (k + 28 * rw + 2)) (FP.dmul 4602678819172646912 (fz_sMg lim dR mR (k + 28 * rw + 1)))), .double v6, .double v7])), (dp, fz_da cD 84 dR), (mp, fz_da cD 84 mR)]) (wr := [(o, .inr (4, [.int thr, .int (nI n), .int (nI kd), .int (nI lim), .int (nI 1), .int (nI ord), .double tm, .int cst, .int cfl, .int crf, .ref dp, .ref mp, .double (fz_sHg lim dR (k + 28 * rw + 1)), .double (fz_sMg lim dR mR (k + 28 * rw + 1)), .double (FP.dadd (dR (k + 28 * rw + 1)) (FP.dmul 4602678819172646912 (fz_sHg lim dR (k + 28 * rw)))), .double (FP.dadd (mR (k + 28 * rw + 1)) (FP.dmul 4602678819172646912 (fz_sMg lim dR mR (k + 28 * rw)))), .double (FP.dsub (dR (k + 28 * rw + 2)) (FP.dmul 4602678819172646912 (fz_sHg lim dR (k + 28 * rw + 1)))), .double (FP.dsub (mR (k + 28 * rw + 2)) (FP.dmul 4602678819172646912 (fz_sMg lim dR mR (k + 28 * rw + 1)))), .double v6, .double v7])), (dp, fz_da cD 84 dR), (mp, fz_da cD 84 mR)]) (As := [.double (FP.dadd (dR (k + 28 * rw + 1)) (FP.dmul 4602678819172646912 (fz_sHg lim dR (k + 28 * rw)))), .double (FP.dadd (mR (k + 28 * rw + 1)) (FP.dmul 4602678819172646912 (fz_sMg lim dR mR (k + 28 * rw))))]) (rest := []) ⟨hx, hb, hml, hown, hts⟩ (c_X4_force l D cD (FP.dadd (dR (k + 28 * rw + 1)) (FP.dmul 4602678819172646912 (fz_sHg lim dR (k + 28 * rw)))) (FP.dadd (mR (k + 28 * rw + 1)) (FP.dmul 4602678819172646912 (fz_sMg lim dR mR (k + 28 * rw)))) (hok.2.2.1.2.2.2.2.2.2.2.2.1.2.1) (hok.2.2.2.1)) (va_cwS 2 hts gX4_face_X4_force rfl rfl rfl (by decide +kernel) ⟨Nat.le_of_ble_eq_true rfl, Nat.le_of_ble_eq_true rfl⟩) hK hNW hP hD hS hA [] [0, 1, 2] [0, 1, 2] rfl rfl rfl rfl (by decide) rfl rfl rfl hl.1 rfl (Nat.le_of_ble_eq_true rfl) dX4_face_109 ⟨Nat.zero_le _, Nat.zero_le _⟩ (fun H locs hP hD hS => ?_)
  refine lv_dstore (lv' := [(4, .double (fz_mflux (FP.dadd (dR (k + 28 * rw + 1)) (FP.dmul 4602678819172646912 (fz_sHg lim dR (k + 28 * rw)))) (FP.dadd (mR (k + 28 * rw + 1)) (FP.dmul 4602678819172646912 (fz_sMg lim dR mR (k + 28 * rw)))) (FP.ddiv (FP.dadd (mR (k + 28 * rw + 1)) (FP.dmul 4602678819172646912 (fz_sMg lim dR mR (k + 28 * rw)))) (FP.dadd (dR (k + 28 * rw + 1)) (FP.dmul 4602678819172646912 (fz_sHg lim dR (k + 28 * rw))))))), (3, .int (nI (k + 28 * rw + 2))), (0, .ref o), (1, .int (nI rw)), (2, .int (nI k))]) hx hb dX4_face_112 hl (by decide) rfl (fun ls hl => ?_)
  refine lv_aload_n hx hb dX4_face_114 rfl (lv_at hl 2 rfl) ?_
  refine va_get (D := D) (ci := 4) (v := .double (FP.dsub (dR (k + 28 * rw + 2)) (FP.dmul 4602678819172646912 (fz_sHg lim dR (k + 28 * rw + 1))))) (C := RX4) (T := TX4) (N := 20) hx hb hts hin_X4 hown hK hP 0 rfl rfl 16 (by decide) hw_fieldLink_RX4_98_FlowGridModel_rightH_D (fun _ h9 => h9) rfl dX4_face_115 ?_
  refine lv_aload_n hx hb dX4_face_118 rfl (lv_at hl 2 rfl) ?_
  refine va_get (D := D) (ci := 4) (v := .double (FP.dsub (mR (k + 28 * rw + 2)) (FP.dmul 4602678819172646912 (fz_sMg lim dR mR (k + 28 * rw + 1))))) (C := RX4) (T := TX4) (N := 20) hx hb hts hin_X4 hown hK hP 0 rfl rfl 17 (by decide) hw_fieldLink_RX4_101_FlowGridModel_rightM_D (fun _ h9 => h9) rfl dX4_face_119 ?_
  refine fz_callS (ws' := [(o, .inr (4, [.int thr, .int (nI n), .int (nI kd), .int (nI lim), .int (nI 1), .int (nI ord), .double tm, .int cst, .int cfl, .int crf, .ref dp, .ref mp, .double (fz_sHg lim dR (k + 28 * rw + 1)), .double (fz_sMg lim dR mR (k + 28 * rw + 1)), .double (FP.dadd (dR (k + 28 * rw + 1)) (FP.dmul 4602678819172646912 (fz_sHg lim dR (k + 28 * rw)))), .double (FP.dadd (mR (k + 28 * rw + 1)) (FP.dmul 4602678819172646912 (fz_sMg lim dR mR (k + 28 * rw)))), .double (FP.dsub (dR (k + 28 * rw + 2)) (FP.dmul 4602678819172646912 (fz_sHg lim dR (k + 28 * rw + 1)))), .double (FP.dsub (mR (k + 28 * rw + 2)) (FP.dmul 4602678819172646912 (fz_sMg lim dR mR (k + 28 * rw + 1)))), .double v6, .double v7])), (dp, fz_da cD 84 dR), (mp, fz_da cD 84 mR)]) (wr := [(o, .inr (4, [.int thr, .int (nI n), .int (nI kd), .int (nI lim), .int (nI 1), .int (nI ord), .double tm, .int cst, .int cfl, .int crf, .ref dp, .ref mp, .double (fz_sHg lim dR (k + 28 * rw + 1)), .double (fz_sMg lim dR mR (k + 28 * rw + 1)), .double (FP.dadd (dR (k + 28 * rw + 1)) (FP.dmul 4602678819172646912 (fz_sHg lim dR (k + 28 * rw)))), .double (FP.dadd (mR (k + 28 * rw + 1)) (FP.dmul 4602678819172646912 (fz_sMg lim dR mR (k + 28 * rw)))), .double (FP.dsub (dR (k + 28 * rw + 2)) (FP.dmul 4602678819172646912 (fz_sHg lim dR (k + 28 * rw + 1)))), .double (FP.dsub (mR (k + 28 * rw + 2)) (FP.dmul 4602678819172646912 (fz_sMg lim dR mR (k + 28 * rw + 1)))), .double v6, .double v7])), (dp, fz_da cD 84 dR), (mp, fz_da cD 84 mR)]) (As := [.double (FP.dsub (dR (k + 28 * rw + 2)) (FP.dmul 4602678819172646912 (fz_sHg lim dR (k + 28 * rw + 1)))), .double (FP.dsub (mR (k + 28 * rw + 2)) (FP.dmul 4602678819172646912 (fz_sMg lim dR mR (k + 28 * rw + 1))))]) (rest := []) ⟨hx, hb, hml, hown, hts⟩ (c_X4_force l D cD (FP.dsub (dR (k + 28 * rw + 2)) (FP.dmul 4602678819172646912 (fz_sHg lim dR (k + 28 * rw + 1)))) (FP.dsub (mR (k + 28 * rw + 2)) (FP.dmul 4602678819172646912 (fz_sMg lim dR mR (k + 28 * rw + 1)))) (hok.2.2.1.2.2.2.2.2.2.2.2.2.2.1) (hok.2.2.2.2.1)) (va_cwS 2 hts gX4_face_X4_force rfl rfl rfl (by decide +kernel) ⟨Nat.le_of_ble_eq_true rfl, Nat.le_of_ble_eq_true rfl⟩) hK hNW hP hD hS hA [] [0, 1, 2] [0, 1, 2] rfl rfl rfl rfl (by decide) rfl rfl rfl hl.1 rfl (Nat.le_of_ble_eq_true rfl) dX4_face_122 ⟨Nat.zero_le _, Nat.zero_le _⟩ (fun H locs hP hD hS => ?_)
  refine lv_dstore (lv' := [(6, .double (fz_mflux (FP.dsub (dR (k + 28 * rw + 2)) (FP.dmul 4602678819172646912 (fz_sHg lim dR (k + 28 * rw + 1)))) (FP.dsub (mR (k + 28 * rw + 2)) (FP.dmul 4602678819172646912 (fz_sMg lim dR mR (k + 28 * rw + 1)))) (FP.ddiv (FP.dsub (mR (k + 28 * rw + 2)) (FP.dmul 4602678819172646912 (fz_sMg lim dR mR (k + 28 * rw + 1)))) (FP.dsub (dR (k + 28 * rw + 2)) (FP.dmul 4602678819172646912 (fz_sHg lim dR (k + 28 * rw + 1))))))), (4, .double (fz_mflux (FP.dadd (dR (k + 28 * rw + 1)) (FP.dmul 4602678819172646912 (fz_sHg lim dR (k + 28 * rw)))) (FP.dadd (mR (k + 28 * rw + 1)) (FP.dmul 4602678819172646912 (fz_sMg lim dR mR (k + 28 * rw)))) (FP.ddiv (FP.dadd (mR (k + 28 * rw + 1)) (FP.dmul 4602678819172646912 (fz_sMg lim dR mR (k + 28 * rw)))) (FP.dadd (dR (k + 28 * rw + 1)) (FP.dmul 4602678819172646912 (fz_sHg lim dR (k + 28 * rw))))))), (3, .int (nI (k + 28 * rw + 2))), (0, .ref o), (1, .int (nI rw)), (2, .int (nI k))]) hx hb dX4_face_125 hl (by decide) rfl (fun ls hl => ?_)
  refine lv_aload_n hx hb dX4_face_127 rfl (lv_at hl 3 rfl) ?_
  refine va_get (D := D) (ci := 4) (v := .int (nI 1)) (C := RX4) (T := TX4) (N := 20) hx hb hts hin_X4 hown hK hP 0 rfl rfl 4 (by decide) hw_fieldLink_RX4_48_FlowGridModel_solver_I (fun _ h9 => h9) rfl dX4_face_128 ?_
  refine lv_if_ne (tgt := 208) hx hb dX4_face_131 (by decide) (fun c131 => ?_) (fun c131 => absurd c131 (by decide))
  refine lv_aload_n hx hb dX4_face_208 rfl (lv_at hl 3 rfl) ?_
  refine va_get (D := D) (ci := 4) (v := .double (FP.dadd (mR (k + 28 * rw + 1)) (FP.dmul 4602678819172646912 (fz_sMg lim dR mR (k + 28 * rw))))) (C := RX4) (T := TX4) (N := 20) hx hb hts hin_X4 hown hK hP 0 rfl rfl 15 (by decide) hw_fieldLink_RX4_95_FlowGridModel_leftM_D (fun _ h9 => h9) rfl dX4_face_209 ?_
  refine lv_aload_n hx hb dX4_face_212 rfl (lv_at hl 3 rfl) ?_
  refine va_get (D := D) (ci := 4) (v := .double (FP.dadd (dR (k + 28 * rw + 1)) (FP.dmul 4602678819172646912 (fz_sHg lim dR (k + 28 * rw))))) (C := RX4) (T := TX4) (N := 20) hx hb hts hin_X4 hown hK hP 0 rfl rfl 14 (by decide) hw_fieldLink_RX4_92_FlowGridModel_leftH_D (fun _ h9 => h9) rfl dX4_face_213 ?_
  refine lv_ddiv hx hb dX4_face_216 (hok.2.2.1.2.2.2.2.2.2.2.2.1.2.1) ?_
  refine lv_dstore (lv' := [(8, .double (FP.ddiv (FP.dadd (mR (k + 28 * rw + 1)) (FP.dmul 4602678819172646912 (fz_sMg lim dR mR (k + 28 * rw)))) (FP.dadd (dR (k + 28 * rw + 1)) (FP.dmul 4602678819172646912 (fz_sHg lim dR (k + 28 * rw)))))), (6, .double (fz_mflux (FP.dsub (dR (k + 28 * rw + 2)) (FP.dmul 4602678819172646912 (fz_sHg lim dR (k + 28 * rw + 1)))) (FP.dsub (mR (k + 28 * rw + 2)) (FP.dmul 4602678819172646912 (fz_sMg lim dR mR (k + 28 * rw + 1)))) (FP.ddiv (FP.dsub (mR (k + 28 * rw + 2)) (FP.dmul 4602678819172646912 (fz_sMg lim dR mR (k + 28 * rw + 1)))) (FP.dsub (dR (k + 28 * rw + 2)) (FP.dmul 4602678819172646912 (fz_sHg lim dR (k + 28 * rw + 1))))))), (4, .double (fz_mflux (FP.dadd (dR (k + 28 * rw + 1)) (FP.dmul 4602678819172646912 (fz_sHg lim dR (k + 28 * rw)))) (FP.dadd (mR (k + 28 * rw + 1)) (FP.dmul 4602678819172646912 (fz_sMg lim dR mR (k + 28 * rw)))) (FP.ddiv (FP.dadd (mR (k + 28 * rw + 1)) (FP.dmul 4602678819172646912 (fz_sMg lim dR mR (k + 28 * rw)))) (FP.dadd (dR (k + 28 * rw + 1)) (FP.dmul 4602678819172646912 (fz_sHg lim dR (k + 28 * rw))))))), (3, .int (nI (k + 28 * rw + 2))), (0, .ref o), (1, .int (nI rw)), (2, .int (nI k))]) hx hb dX4_face_217 hl (by decide) rfl (fun ls hl => ?_)
  refine lv_aload_n hx hb dX4_face_219 rfl (lv_at hl 4 rfl) ?_
  refine va_get (D := D) (ci := 4) (v := .double (FP.dsub (mR (k + 28 * rw + 2)) (FP.dmul 4602678819172646912 (fz_sMg lim dR mR (k + 28 * rw + 1))))) (C := RX4) (T := TX4) (N := 20) hx hb hts hin_X4 hown hK hP 0 rfl rfl 17 (by decide) hw_fieldLink_RX4_101_FlowGridModel_rightM_D (fun _ h9 => h9) rfl dX4_face_220 ?_
  refine lv_aload_n hx hb dX4_face_223 rfl (lv_at hl 4 rfl) ?_
  refine va_get (D := D) (ci := 4) (v := .double (FP.dsub (dR (k + 28 * rw + 2)) (FP.dmul 4602678819172646912 (fz_sHg lim dR (k + 28 * rw + 1))))) (C := RX4) (T := TX4) (N := 20) hx hb hts hin_X4 hown hK hP 0 rfl rfl 16 (by decide) hw_fieldLink_RX4_98_FlowGridModel_rightH_D (fun _ h9 => h9) rfl dX4_face_224 ?_
  refine lv_ddiv hx hb dX4_face_227 (hok.2.2.1.2.2.2.2.2.2.2.2.2.2.1) ?_
  refine lv_dstore (lv' := [(10, .double (FP.ddiv (FP.dsub (mR (k + 28 * rw + 2)) (FP.dmul 4602678819172646912 (fz_sMg lim dR mR (k + 28 * rw + 1)))) (FP.dsub (dR (k + 28 * rw + 2)) (FP.dmul 4602678819172646912 (fz_sHg lim dR (k + 28 * rw + 1)))))), (8, .double (FP.ddiv (FP.dadd (mR (k + 28 * rw + 1)) (FP.dmul 4602678819172646912 (fz_sMg lim dR mR (k + 28 * rw)))) (FP.dadd (dR (k + 28 * rw + 1)) (FP.dmul 4602678819172646912 (fz_sHg lim dR (k + 28 * rw)))))), (6, .double (fz_mflux (FP.dsub (dR (k + 28 * rw + 2)) (FP.dmul 4602678819172646912 (fz_sHg lim dR (k + 28 * rw + 1)))) (FP.dsub (mR (k + 28 * rw + 2)) (FP.dmul 4602678819172646912 (fz_sMg lim dR mR (k + 28 * rw + 1)))) (FP.ddiv (FP.dsub (mR (k + 28 * rw + 2)) (FP.dmul 4602678819172646912 (fz_sMg lim dR mR (k + 28 * rw + 1)))) (FP.dsub (dR (k + 28 * rw + 2)) (FP.dmul 4602678819172646912 (fz_sHg lim dR (k + 28 * rw + 1))))))), (4, .double (fz_mflux (FP.dadd (dR (k + 28 * rw + 1)) (FP.dmul 4602678819172646912 (fz_sHg lim dR (k + 28 * rw)))) (FP.dadd (mR (k + 28 * rw + 1)) (FP.dmul 4602678819172646912 (fz_sMg lim dR mR (k + 28 * rw)))) (FP.ddiv (FP.dadd (mR (k + 28 * rw + 1)) (FP.dmul 4602678819172646912 (fz_sMg lim dR mR (k + 28 * rw)))) (FP.dadd (dR (k + 28 * rw + 1)) (FP.dmul 4602678819172646912 (fz_sHg lim dR (k + 28 * rw))))))), (3, .int (nI (k + 28 * rw + 2))), (0, .ref o), (1, .int (nI rw)), (2, .int (nI k))]) hx hb dX4_face_228 hl (by decide) rfl (fun ls hl => ?_)
  refine lv_aload_n hx hb dX4_face_230 rfl (lv_at hl 5 rfl) ?_
  refine va_get (D := D) (ci := 4) (v := .double (FP.dadd (dR (k + 28 * rw + 1)) (FP.dmul 4602678819172646912 (fz_sHg lim dR (k + 28 * rw))))) (C := RX4) (T := TX4) (N := 20) hx hb hts hin_X4 hown hK hP 0 rfl rfl 14 (by decide) hw_fieldLink_RX4_92_FlowGridModel_leftH_D (fun _ h9 => h9) rfl dX4_face_231 ?_
  refine fz_callS (ws' := [(o, .inr (4, [.int thr, .int (nI n), .int (nI kd), .int (nI lim), .int (nI 1), .int (nI ord), .double tm, .int cst, .int cfl, .int crf, .ref dp, .ref mp, .double (fz_sHg lim dR (k + 28 * rw + 1)), .double (fz_sMg lim dR mR (k + 28 * rw + 1)), .double (FP.dadd (dR (k + 28 * rw + 1)) (FP.dmul 4602678819172646912 (fz_sHg lim dR (k + 28 * rw)))), .double (FP.dadd (mR (k + 28 * rw + 1)) (FP.dmul 4602678819172646912 (fz_sMg lim dR mR (k + 28 * rw)))), .double (FP.dsub (dR (k + 28 * rw + 2)) (FP.dmul 4602678819172646912 (fz_sHg lim dR (k + 28 * rw + 1)))), .double (FP.dsub (mR (k + 28 * rw + 2)) (FP.dmul 4602678819172646912 (fz_sMg lim dR mR (k + 28 * rw + 1)))), .double v6, .double v7])), (dp, fz_da cD 84 dR), (mp, fz_da cD 84 mR)]) (wr := [(o, .inr (4, [.int thr, .int (nI n), .int (nI kd), .int (nI lim), .int (nI 1), .int (nI ord), .double tm, .int cst, .int cfl, .int crf, .ref dp, .ref mp, .double (fz_sHg lim dR (k + 28 * rw + 1)), .double (fz_sMg lim dR mR (k + 28 * rw + 1)), .double (FP.dadd (dR (k + 28 * rw + 1)) (FP.dmul 4602678819172646912 (fz_sHg lim dR (k + 28 * rw)))), .double (FP.dadd (mR (k + 28 * rw + 1)) (FP.dmul 4602678819172646912 (fz_sMg lim dR mR (k + 28 * rw)))), .double (FP.dsub (dR (k + 28 * rw + 2)) (FP.dmul 4602678819172646912 (fz_sHg lim dR (k + 28 * rw + 1)))), .double (FP.dsub (mR (k + 28 * rw + 2)) (FP.dmul 4602678819172646912 (fz_sMg lim dR mR (k + 28 * rw + 1)))), .double v6, .double v7])), (dp, fz_da cD 84 dR), (mp, fz_da cD 84 mR)]) (As := [.double (FP.dadd (dR (k + 28 * rw + 1)) (FP.dmul 4602678819172646912 (fz_sHg lim dR (k + 28 * rw))))]) (rest := []) ⟨hx, hb, hml, hown, hts⟩ (c_X4_root l D cD (FP.dadd (dR (k + 28 * rw + 1)) (FP.dmul 4602678819172646912 (fz_sHg lim dR (k + 28 * rw)))) (hok.2.2.1.2.2.2.2.2.2.2.2.1.2.2)) (va_cwS 1 hts gX4_face_X4_root rfl rfl rfl (by decide +kernel) ⟨Nat.le_of_ble_eq_true rfl, Nat.le_of_ble_eq_true rfl⟩) hK hNW hP hD hS hA [] [0, 1, 2] [0, 1, 2] rfl rfl rfl rfl (by decide) rfl rfl rfl hl.1 rfl (Nat.le_of_ble_eq_true rfl) dX4_face_234 ⟨Nat.zero_le _, Nat.zero_le _⟩ (fun H locs hP hD hS => ?_)
  refine lv_dstore (lv' := [(12, .double (fz_root (FP.dadd (dR (k + 28 * rw + 1)) (FP.dmul 4602678819172646912 (fz_sHg lim dR (k + 28 * rw)))))), (10, .double (FP.ddiv (FP.dsub (mR (k + 28 * rw + 2)) (FP.dmul 4602678819172646912 (fz_sMg lim dR mR (k + 28 * rw + 1)))) (FP.dsub (dR (k + 28 * rw + 2)) (FP.dmul 4602678819172646912 (fz_sHg lim dR (k + 28 * rw + 1)))))), (8, .double (FP.ddiv (FP.dadd (mR (k + 28 * rw + 1)) (FP.dmul 4602678819172646912 (fz_sMg lim dR mR (k + 28 * rw)))) (FP.dadd (dR (k + 28 * rw + 1)) (FP.dmul 4602678819172646912 (fz_sHg lim dR (k + 28 * rw)))))), (6, .double (fz_mflux (FP.dsub (dR (k + 28 * rw + 2)) (FP.dmul 4602678819172646912 (fz_sHg lim dR (k + 28 * rw + 1)))) (FP.dsub (mR (k + 28 * rw + 2)) (FP.dmul 4602678819172646912 (fz_sMg lim dR mR (k + 28 * rw + 1)))) (FP.ddiv (FP.dsub (mR (k + 28 * rw + 2)) (FP.dmul 4602678819172646912 (fz_sMg lim dR mR (k + 28 * rw + 1)))) (FP.dsub (dR (k + 28 * rw + 2)) (FP.dmul 4602678819172646912 (fz_sHg lim dR (k + 28 * rw + 1))))))), (4, .double (fz_mflux (FP.dadd (dR (k + 28 * rw + 1)) (FP.dmul 4602678819172646912 (fz_sHg lim dR (k + 28 * rw)))) (FP.dadd (mR (k + 28 * rw + 1)) (FP.dmul 4602678819172646912 (fz_sMg lim dR mR (k + 28 * rw)))) (FP.ddiv (FP.dadd (mR (k + 28 * rw + 1)) (FP.dmul 4602678819172646912 (fz_sMg lim dR mR (k + 28 * rw)))) (FP.dadd (dR (k + 28 * rw + 1)) (FP.dmul 4602678819172646912 (fz_sHg lim dR (k + 28 * rw))))))), (3, .int (nI (k + 28 * rw + 2))), (0, .ref o), (1, .int (nI rw)), (2, .int (nI k))]) hx hb dX4_face_237 hl (by decide) rfl (fun ls hl => ?_)
  refine lv_aload_n hx hb dX4_face_239 rfl (lv_at hl 6 rfl) ?_
  refine va_get (D := D) (ci := 4) (v := .double (FP.dsub (dR (k + 28 * rw + 2)) (FP.dmul 4602678819172646912 (fz_sHg lim dR (k + 28 * rw + 1))))) (C := RX4) (T := TX4) (N := 20) hx hb hts hin_X4 hown hK hP 0 rfl rfl 16 (by decide) hw_fieldLink_RX4_98_FlowGridModel_rightH_D (fun _ h9 => h9) rfl dX4_face_240 ?_
  refine fz_callS (ws' := [(o, .inr (4, [.int thr, .int (nI n), .int (nI kd), .int (nI lim), .int (nI 1), .int (nI ord), .double tm, .int cst, .int cfl, .int crf, .ref dp, .ref mp, .double (fz_sHg lim dR (k + 28 * rw + 1)), .double (fz_sMg lim dR mR (k + 28 * rw + 1)), .double (FP.dadd (dR (k + 28 * rw + 1)) (FP.dmul 4602678819172646912 (fz_sHg lim dR (k + 28 * rw)))), .double (FP.dadd (mR (k + 28 * rw + 1)) (FP.dmul 4602678819172646912 (fz_sMg lim dR mR (k + 28 * rw)))), .double (FP.dsub (dR (k + 28 * rw + 2)) (FP.dmul 4602678819172646912 (fz_sHg lim dR (k + 28 * rw + 1)))), .double (FP.dsub (mR (k + 28 * rw + 2)) (FP.dmul 4602678819172646912 (fz_sMg lim dR mR (k + 28 * rw + 1)))), .double v6, .double v7])), (dp, fz_da cD 84 dR), (mp, fz_da cD 84 mR)]) (wr := [(o, .inr (4, [.int thr, .int (nI n), .int (nI kd), .int (nI lim), .int (nI 1), .int (nI ord), .double tm, .int cst, .int cfl, .int crf, .ref dp, .ref mp, .double (fz_sHg lim dR (k + 28 * rw + 1)), .double (fz_sMg lim dR mR (k + 28 * rw + 1)), .double (FP.dadd (dR (k + 28 * rw + 1)) (FP.dmul 4602678819172646912 (fz_sHg lim dR (k + 28 * rw)))), .double (FP.dadd (mR (k + 28 * rw + 1)) (FP.dmul 4602678819172646912 (fz_sMg lim dR mR (k + 28 * rw)))), .double (FP.dsub (dR (k + 28 * rw + 2)) (FP.dmul 4602678819172646912 (fz_sHg lim dR (k + 28 * rw + 1)))), .double (FP.dsub (mR (k + 28 * rw + 2)) (FP.dmul 4602678819172646912 (fz_sMg lim dR mR (k + 28 * rw + 1)))), .double v6, .double v7])), (dp, fz_da cD 84 dR), (mp, fz_da cD 84 mR)]) (As := [.double (FP.dsub (dR (k + 28 * rw + 2)) (FP.dmul 4602678819172646912 (fz_sHg lim dR (k + 28 * rw + 1))))]) (rest := []) ⟨hx, hb, hml, hown, hts⟩ (c_X4_root l D cD (FP.dsub (dR (k + 28 * rw + 2)) (FP.dmul 4602678819172646912 (fz_sHg lim dR (k + 28 * rw + 1)))) (hok.2.2.1.2.2.2.2.2.2.2.2.2.2.2)) (va_cwS 1 hts gX4_face_X4_root rfl rfl rfl (by decide +kernel) ⟨Nat.le_of_ble_eq_true rfl, Nat.le_of_ble_eq_true rfl⟩) hK hNW hP hD hS hA [] [0, 1, 2] [0, 1, 2] rfl rfl rfl rfl (by decide) rfl rfl rfl hl.1 rfl (Nat.le_of_ble_eq_true rfl) dX4_face_243 ⟨Nat.zero_le _, Nat.zero_le _⟩ (fun H locs hP hD hS => ?_)
  refine lv_dstore (lv' := [(14, .double (fz_root (FP.dsub (dR (k + 28 * rw + 2)) (FP.dmul 4602678819172646912 (fz_sHg lim dR (k + 28 * rw + 1)))))), (12, .double (fz_root (FP.dadd (dR (k + 28 * rw + 1)) (FP.dmul 4602678819172646912 (fz_sHg lim dR (k + 28 * rw)))))), (10, .double (FP.ddiv (FP.dsub (mR (k + 28 * rw + 2)) (FP.dmul 4602678819172646912 (fz_sMg lim dR mR (k + 28 * rw + 1)))) (FP.dsub (dR (k + 28 * rw + 2)) (FP.dmul 4602678819172646912 (fz_sHg lim dR (k + 28 * rw + 1)))))), (8, .double (FP.ddiv (FP.dadd (mR (k + 28 * rw + 1)) (FP.dmul 4602678819172646912 (fz_sMg lim dR mR (k + 28 * rw)))) (FP.dadd (dR (k + 28 * rw + 1)) (FP.dmul 4602678819172646912 (fz_sHg lim dR (k + 28 * rw)))))), (6, .double (fz_mflux (FP.dsub (dR (k + 28 * rw + 2)) (FP.dmul 4602678819172646912 (fz_sHg lim dR (k + 28 * rw + 1)))) (FP.dsub (mR (k + 28 * rw + 2)) (FP.dmul 4602678819172646912 (fz_sMg lim dR mR (k + 28 * rw + 1)))) (FP.ddiv (FP.dsub (mR (k + 28 * rw + 2)) (FP.dmul 4602678819172646912 (fz_sMg lim dR mR (k + 28 * rw + 1)))) (FP.dsub (dR (k + 28 * rw + 2)) (FP.dmul 4602678819172646912 (fz_sHg lim dR (k + 28 * rw + 1))))))), (4, .double (fz_mflux (FP.dadd (dR (k + 28 * rw + 1)) (FP.dmul 4602678819172646912 (fz_sHg lim dR (k + 28 * rw)))) (FP.dadd (mR (k + 28 * rw + 1)) (FP.dmul 4602678819172646912 (fz_sMg lim dR mR (k + 28 * rw)))) (FP.ddiv (FP.dadd (mR (k + 28 * rw + 1)) (FP.dmul 4602678819172646912 (fz_sMg lim dR mR (k + 28 * rw)))) (FP.dadd (dR (k + 28 * rw + 1)) (FP.dmul 4602678819172646912 (fz_sHg lim dR (k + 28 * rw))))))), (3, .int (nI (k + 28 * rw + 2))), (0, .ref o), (1, .int (nI rw)), (2, .int (nI k))]) hx hb dX4_face_246 hl (by decide) rfl (fun ls hl => ?_)
  refine lv_dload hx hb dX4_face_248 (lv_at hl 3 rfl) ?_
  refine lv_dload hx hb dX4_face_250 (lv_at hl 1 rfl) ?_
  refine lv_dsub hx hb dX4_face_252 ((hok.2.2.2.2.2.2 rfl).1) ?_
  refine lv_dload hx hb dX4_face_253 (lv_at hl 2 rfl) ?_
  refine lv_dload hx hb dX4_face_255 (lv_at hl 0 rfl) ?_
  refine lv_dsub hx hb dX4_face_257 ((hok.2.2.2.2.2.2 rfl).2.1) ?_
  refine fz_callS (ws' := [(o, .inr (4, [.int thr, .int (nI n), .int (nI kd), .int (nI lim), .int (nI 1), .int (nI ord), .double tm, .int cst, .int cfl, .int crf, .ref dp, .ref mp, .double (fz_sHg lim dR (k + 28 * rw + 1)), .double (fz_sMg lim dR mR (k + 28 * rw + 1)), .double (FP.dadd (dR (k + 28 * rw + 1)) (FP.dmul 4602678819172646912 (fz_sHg lim dR (k + 28 * rw)))), .double (FP.dadd (mR (k + 28 * rw + 1)) (FP.dmul 4602678819172646912 (fz_sMg lim dR mR (k + 28 * rw)))), .double (FP.dsub (dR (k + 28 * rw + 2)) (FP.dmul 4602678819172646912 (fz_sHg lim dR (k + 28 * rw + 1)))), .double (FP.dsub (mR (k + 28 * rw + 2)) (FP.dmul 4602678819172646912 (fz_sMg lim dR mR (k + 28 * rw + 1)))), .double v6, .double v7])), (dp, fz_da cD 84 dR), (mp, fz_da cD 84 mR)]) (wr := [(o, .inr (4, [.int thr, .int (nI n), .int (nI kd), .int (nI lim), .int (nI 1), .int (nI ord), .double tm, .int cst, .int cfl, .int crf, .ref dp, .ref mp, .double (fz_sHg lim dR (k + 28 * rw + 1)), .double (fz_sMg lim dR mR (k + 28 * rw + 1)), .double (FP.dadd (dR (k + 28 * rw + 1)) (FP.dmul 4602678819172646912 (fz_sHg lim dR (k + 28 * rw)))), .double (FP.dadd (mR (k + 28 * rw + 1)) (FP.dmul 4602678819172646912 (fz_sMg lim dR mR (k + 28 * rw)))), .double (FP.dsub (dR (k + 28 * rw + 2)) (FP.dmul 4602678819172646912 (fz_sHg lim dR (k + 28 * rw + 1)))), .double (FP.dsub (mR (k + 28 * rw + 2)) (FP.dmul 4602678819172646912 (fz_sMg lim dR mR (k + 28 * rw + 1)))), .double v6, .double v7])), (dp, fz_da cD 84 dR), (mp, fz_da cD 84 mR)]) (As := [.double (FP.dsub (FP.ddiv (FP.dadd (mR (k + 28 * rw + 1)) (FP.dmul 4602678819172646912 (fz_sMg lim dR mR (k + 28 * rw)))) (FP.dadd (dR (k + 28 * rw + 1)) (FP.dmul 4602678819172646912 (fz_sHg lim dR (k + 28 * rw))))) (fz_root (FP.dadd (dR (k + 28 * rw + 1)) (FP.dmul 4602678819172646912 (fz_sHg lim dR (k + 28 * rw)))))), .double (FP.dsub (FP.ddiv (FP.dsub (mR (k + 28 * rw + 2)) (FP.dmul 4602678819172646912 (fz_sMg lim dR mR (k + 28 * rw + 1)))) (FP.dsub (dR (k + 28 * rw + 2)) (FP.dmul 4602678819172646912 (fz_sHg lim dR (k + 28 * rw + 1))))) (fz_root (FP.dsub (dR (k + 28 * rw + 2)) (FP.dmul 4602678819172646912 (fz_sHg lim dR (k + 28 * rw + 1))))))]) (rest := []) ⟨hx, hb, hml, hown, hts⟩ (c_X4_lesser l D cD (FP.dsub (FP.ddiv (FP.dadd (mR (k + 28 * rw + 1)) (FP.dmul 4602678819172646912 (fz_sMg lim dR mR (k + 28 * rw)))) (FP.dadd (dR (k + 28 * rw + 1)) (FP.dmul 4602678819172646912 (fz_sHg lim dR (k + 28 * rw))))) (fz_root (FP.dadd (dR (k + 28 * rw + 1)) (FP.dmul 4602678819172646912 (fz_sHg lim dR (k + 28 * rw)))))) (FP.dsub (FP.ddiv (FP.dsub (mR (k + 28 * rw + 2)) (FP.dmul 4602678819172646912 (fz_sMg lim dR mR (k + 28 * rw + 1)))) (FP.dsub (dR (k + 28 * rw + 2)) (FP.dmul 4602678819172646912 (fz_sHg lim dR (k + 28 * rw + 1))))) (fz_root (FP.dsub (dR (k + 28 * rw + 2)) (FP.dmul 4602678819172646912 (fz_sHg lim dR (k + 28 * rw + 1))))))) (va_cwS 2 hts gX4_face_X4_lesser rfl rfl rfl (by decide +kernel) ⟨Nat.le_of_ble_eq_true rfl, Nat.le_of_ble_eq_true rfl⟩) hK hNW hP hD hS hA [] [0, 1, 2] [0, 1, 2] rfl rfl rfl rfl (by decide) rfl rfl rfl hl.1 rfl (Nat.le_of_ble_eq_true rfl) dX4_face_258 ⟨Nat.zero_le _, Nat.zero_le _⟩ (fun H locs hP hD hS => ?_)
  refine lv_dstore (lv' := [(16, .double (fz_lesM (FP.dsub (FP.ddiv (FP.dadd (mR (k + 28 * rw + 1)) (FP.dmul 4602678819172646912 (fz_sMg lim dR mR (k + 28 * rw)))) (FP.dadd (dR (k + 28 * rw + 1)) (FP.dmul 4602678819172646912 (fz_sHg lim dR (k + 28 * rw))))) (fz_root (FP.dadd (dR (k + 28 * rw + 1)) (FP.dmul 4602678819172646912 (fz_sHg lim dR (k + 28 * rw)))))) (FP.dsub (FP.ddiv (FP.dsub (mR (k + 28 * rw + 2)) (FP.dmul 4602678819172646912 (fz_sMg lim dR mR (k + 28 * rw + 1)))) (FP.dsub (dR (k + 28 * rw + 2)) (FP.dmul 4602678819172646912 (fz_sHg lim dR (k + 28 * rw + 1))))) (fz_root (FP.dsub (dR (k + 28 * rw + 2)) (FP.dmul 4602678819172646912 (fz_sHg lim dR (k + 28 * rw + 1)))))))), (14, .double (fz_root (FP.dsub (dR (k + 28 * rw + 2)) (FP.dmul 4602678819172646912 (fz_sHg lim dR (k + 28 * rw + 1)))))), (12, .double (fz_root (FP.dadd (dR (k + 28 * rw + 1)) (FP.dmul 4602678819172646912 (fz_sHg lim dR (k + 28 * rw)))))), (10, .double (FP.ddiv (FP.dsub (mR (k + 28 * rw + 2)) (FP.dmul 4602678819172646912 (fz_sMg lim dR mR (k + 28 * rw + 1)))) (FP.dsub (dR (k + 28 * rw + 2)) (FP.dmul 4602678819172646912 (fz_sHg lim dR (k + 28 * rw + 1)))))), (8, .double (FP.ddiv (FP.dadd (mR (k + 28 * rw + 1)) (FP.dmul 4602678819172646912 (fz_sMg lim dR mR (k + 28 * rw)))) (FP.dadd (dR (k + 28 * rw + 1)) (FP.dmul 4602678819172646912 (fz_sHg lim dR (k + 28 * rw)))))), (6, .double (fz_mflux (FP.dsub (dR (k + 28 * rw + 2)) (FP.dmul 4602678819172646912 (fz_sHg lim dR (k + 28 * rw + 1)))) (FP.dsub (mR (k + 28 * rw + 2)) (FP.dmul 4602678819172646912 (fz_sMg lim dR mR (k + 28 * rw + 1)))) (FP.ddiv (FP.dsub (mR (k + 28 * rw + 2)) (FP.dmul 4602678819172646912 (fz_sMg lim dR mR (k + 28 * rw + 1)))) (FP.dsub (dR (k + 28 * rw + 2)) (FP.dmul 4602678819172646912 (fz_sHg lim dR (k + 28 * rw + 1))))))), (4, .double (fz_mflux (FP.dadd (dR (k + 28 * rw + 1)) (FP.dmul 4602678819172646912 (fz_sHg lim dR (k + 28 * rw)))) (FP.dadd (mR (k + 28 * rw + 1)) (FP.dmul 4602678819172646912 (fz_sMg lim dR mR (k + 28 * rw)))) (FP.ddiv (FP.dadd (mR (k + 28 * rw + 1)) (FP.dmul 4602678819172646912 (fz_sMg lim dR mR (k + 28 * rw)))) (FP.dadd (dR (k + 28 * rw + 1)) (FP.dmul 4602678819172646912 (fz_sHg lim dR (k + 28 * rw))))))), (3, .int (nI (k + 28 * rw + 2))), (0, .ref o), (1, .int (nI rw)), (2, .int (nI k))]) hx hb dX4_face_261 hl (by decide) rfl (fun ls hl => ?_)
  refine lv_dload hx hb dX4_face_263 (lv_at hl 4 rfl) ?_
  refine lv_dload hx hb dX4_face_265 (lv_at hl 2 rfl) ?_
  refine lv_dadd hx hb dX4_face_267 ((hok.2.2.2.2.2.2 rfl).2.2.1) ?_
  refine lv_dload hx hb dX4_face_268 (lv_at hl 3 rfl) ?_
  refine lv_dload hx hb dX4_face_270 (lv_at hl 1 rfl) ?_
  refine lv_dadd hx hb dX4_face_272 ((hok.2.2.2.2.2.2 rfl).2.2.2.1) ?_
  refine fz_callS (ws' := [(o, .inr (4, [.int thr, .int (nI n), .int (nI kd), .int (nI lim), .int (nI 1), .int (nI ord), .double tm, .int cst, .int cfl, .int crf, .ref dp, .ref mp, .double (fz_sHg lim dR (k + 28 * rw + 1)), .double (fz_sMg lim dR mR (k + 28 * rw + 1)), .double (FP.dadd (dR (k + 28 * rw + 1)) (FP.dmul 4602678819172646912 (fz_sHg lim dR (k + 28 * rw)))), .double (FP.dadd (mR (k + 28 * rw + 1)) (FP.dmul 4602678819172646912 (fz_sMg lim dR mR (k + 28 * rw)))), .double (FP.dsub (dR (k + 28 * rw + 2)) (FP.dmul 4602678819172646912 (fz_sHg lim dR (k + 28 * rw + 1)))), .double (FP.dsub (mR (k + 28 * rw + 2)) (FP.dmul 4602678819172646912 (fz_sMg lim dR mR (k + 28 * rw + 1)))), .double v6, .double v7])), (dp, fz_da cD 84 dR), (mp, fz_da cD 84 mR)]) (wr := [(o, .inr (4, [.int thr, .int (nI n), .int (nI kd), .int (nI lim), .int (nI 1), .int (nI ord), .double tm, .int cst, .int cfl, .int crf, .ref dp, .ref mp, .double (fz_sHg lim dR (k + 28 * rw + 1)), .double (fz_sMg lim dR mR (k + 28 * rw + 1)), .double (FP.dadd (dR (k + 28 * rw + 1)) (FP.dmul 4602678819172646912 (fz_sHg lim dR (k + 28 * rw)))), .double (FP.dadd (mR (k + 28 * rw + 1)) (FP.dmul 4602678819172646912 (fz_sMg lim dR mR (k + 28 * rw)))), .double (FP.dsub (dR (k + 28 * rw + 2)) (FP.dmul 4602678819172646912 (fz_sHg lim dR (k + 28 * rw + 1)))), .double (FP.dsub (mR (k + 28 * rw + 2)) (FP.dmul 4602678819172646912 (fz_sMg lim dR mR (k + 28 * rw + 1)))), .double v6, .double v7])), (dp, fz_da cD 84 dR), (mp, fz_da cD 84 mR)]) (As := [.double (FP.dadd (FP.ddiv (FP.dadd (mR (k + 28 * rw + 1)) (FP.dmul 4602678819172646912 (fz_sMg lim dR mR (k + 28 * rw)))) (FP.dadd (dR (k + 28 * rw + 1)) (FP.dmul 4602678819172646912 (fz_sHg lim dR (k + 28 * rw))))) (fz_root (FP.dadd (dR (k + 28 * rw + 1)) (FP.dmul 4602678819172646912 (fz_sHg lim dR (k + 28 * rw)))))), .double (FP.dadd (FP.ddiv (FP.dsub (mR (k + 28 * rw + 2)) (FP.dmul 4602678819172646912 (fz_sMg lim dR mR (k + 28 * rw + 1)))) (FP.dsub (dR (k + 28 * rw + 2)) (FP.dmul 4602678819172646912 (fz_sHg lim dR (k + 28 * rw + 1))))) (fz_root (FP.dsub (dR (k + 28 * rw + 2)) (FP.dmul 4602678819172646912 (fz_sHg lim dR (k + 28 * rw + 1))))))]) (rest := []) ⟨hx, hb, hml, hown, hts⟩ (c_X4_greater l D cD (FP.dadd (FP.ddiv (FP.dadd (mR (k + 28 * rw + 1)) (FP.dmul 4602678819172646912 (fz_sMg lim dR mR (k + 28 * rw)))) (FP.dadd (dR (k + 28 * rw + 1)) (FP.dmul 4602678819172646912 (fz_sHg lim dR (k + 28 * rw))))) (fz_root (FP.dadd (dR (k + 28 * rw + 1)) (FP.dmul 4602678819172646912 (fz_sHg lim dR (k + 28 * rw)))))) (FP.dadd (FP.ddiv (FP.dsub (mR (k + 28 * rw + 2)) (FP.dmul 4602678819172646912 (fz_sMg lim dR mR (k + 28 * rw + 1)))) (FP.dsub (dR (k + 28 * rw + 2)) (FP.dmul 4602678819172646912 (fz_sHg lim dR (k + 28 * rw + 1))))) (fz_root (FP.dsub (dR (k + 28 * rw + 2)) (FP.dmul 4602678819172646912 (fz_sHg lim dR (k + 28 * rw + 1))))))) (va_cwS 2 hts gX4_face_X4_greater rfl rfl rfl (by decide +kernel) ⟨Nat.le_of_ble_eq_true rfl, Nat.le_of_ble_eq_true rfl⟩) hK hNW hP hD hS hA [] [0, 1, 2] [0, 1, 2] rfl rfl rfl rfl (by decide) rfl rfl rfl hl.1 rfl (Nat.le_of_ble_eq_true rfl) dX4_face_273 ⟨Nat.zero_le _, Nat.zero_le _⟩ (fun H locs hP hD hS => ?_)
  refine lv_dstore (lv' := [(18, .double (fz_gtrM (FP.dadd (FP.ddiv (FP.dadd (mR (k + 28 * rw + 1)) (FP.dmul 4602678819172646912 (fz_sMg lim dR mR (k + 28 * rw)))) (FP.dadd (dR (k + 28 * rw + 1)) (FP.dmul 4602678819172646912 (fz_sHg lim dR (k + 28 * rw))))) (fz_root (FP.dadd (dR (k + 28 * rw + 1)) (FP.dmul 4602678819172646912 (fz_sHg lim dR (k + 28 * rw)))))) (FP.dadd (FP.ddiv (FP.dsub (mR (k + 28 * rw + 2)) (FP.dmul 4602678819172646912 (fz_sMg lim dR mR (k + 28 * rw + 1)))) (FP.dsub (dR (k + 28 * rw + 2)) (FP.dmul 4602678819172646912 (fz_sHg lim dR (k + 28 * rw + 1))))) (fz_root (FP.dsub (dR (k + 28 * rw + 2)) (FP.dmul 4602678819172646912 (fz_sHg lim dR (k + 28 * rw + 1)))))))), (16, .double (fz_lesM (FP.dsub (FP.ddiv (FP.dadd (mR (k + 28 * rw + 1)) (FP.dmul 4602678819172646912 (fz_sMg lim dR mR (k + 28 * rw)))) (FP.dadd (dR (k + 28 * rw + 1)) (FP.dmul 4602678819172646912 (fz_sHg lim dR (k + 28 * rw))))) (fz_root (FP.dadd (dR (k + 28 * rw + 1)) (FP.dmul 4602678819172646912 (fz_sHg lim dR (k + 28 * rw)))))) (FP.dsub (FP.ddiv (FP.dsub (mR (k + 28 * rw + 2)) (FP.dmul 4602678819172646912 (fz_sMg lim dR mR (k + 28 * rw + 1)))) (FP.dsub (dR (k + 28 * rw + 2)) (FP.dmul 4602678819172646912 (fz_sHg lim dR (k + 28 * rw + 1))))) (fz_root (FP.dsub (dR (k + 28 * rw + 2)) (FP.dmul 4602678819172646912 (fz_sHg lim dR (k + 28 * rw + 1)))))))), (14, .double (fz_root (FP.dsub (dR (k + 28 * rw + 2)) (FP.dmul 4602678819172646912 (fz_sHg lim dR (k + 28 * rw + 1)))))), (12, .double (fz_root (FP.dadd (dR (k + 28 * rw + 1)) (FP.dmul 4602678819172646912 (fz_sHg lim dR (k + 28 * rw)))))), (10, .double (FP.ddiv (FP.dsub (mR (k + 28 * rw + 2)) (FP.dmul 4602678819172646912 (fz_sMg lim dR mR (k + 28 * rw + 1)))) (FP.dsub (dR (k + 28 * rw + 2)) (FP.dmul 4602678819172646912 (fz_sHg lim dR (k + 28 * rw + 1)))))), (8, .double (FP.ddiv (FP.dadd (mR (k + 28 * rw + 1)) (FP.dmul 4602678819172646912 (fz_sMg lim dR mR (k + 28 * rw)))) (FP.dadd (dR (k + 28 * rw + 1)) (FP.dmul 4602678819172646912 (fz_sHg lim dR (k + 28 * rw)))))), (6, .double (fz_mflux (FP.dsub (dR (k + 28 * rw + 2)) (FP.dmul 4602678819172646912 (fz_sHg lim dR (k + 28 * rw + 1)))) (FP.dsub (mR (k + 28 * rw + 2)) (FP.dmul 4602678819172646912 (fz_sMg lim dR mR (k + 28 * rw + 1)))) (FP.ddiv (FP.dsub (mR (k + 28 * rw + 2)) (FP.dmul 4602678819172646912 (fz_sMg lim dR mR (k + 28 * rw + 1)))) (FP.dsub (dR (k + 28 * rw + 2)) (FP.dmul 4602678819172646912 (fz_sHg lim dR (k + 28 * rw + 1))))))), (4, .double (fz_mflux (FP.dadd (dR (k + 28 * rw + 1)) (FP.dmul 4602678819172646912 (fz_sHg lim dR (k + 28 * rw)))) (FP.dadd (mR (k + 28 * rw + 1)) (FP.dmul 4602678819172646912 (fz_sMg lim dR mR (k + 28 * rw)))) (FP.ddiv (FP.dadd (mR (k + 28 * rw + 1)) (FP.dmul 4602678819172646912 (fz_sMg lim dR mR (k + 28 * rw)))) (FP.dadd (dR (k + 28 * rw + 1)) (FP.dmul 4602678819172646912 (fz_sHg lim dR (k + 28 * rw))))))), (3, .int (nI (k + 28 * rw + 2))), (0, .ref o), (1, .int (nI rw)), (2, .int (nI k))]) hx hb dX4_face_276 hl (by decide) rfl (fun ls hl => ?_)
  refine lv_aload_n hx hb dX4_face_278 rfl (lv_at hl 9 rfl) ?_
  refine lv_aload_n hx hb dX4_face_279 rfl (lv_at hl 9 rfl) ?_
  refine va_get (D := D) (ci := 4) (v := .double (FP.dadd (mR (k + 28 * rw + 1)) (FP.dmul 4602678819172646912 (fz_sMg lim dR mR (k + 28 * rw))))) (C := RX4) (T := TX4) (N := 20) hx hb hts hin_X4 hown hK hP 0 rfl rfl 15 (by decide) hw_fieldLink_RX4_95_FlowGridModel_leftM_D (fun _ h9 => h9) rfl dX4_face_280 ?_
  refine lv_aload_n hx hb dX4_face_283 rfl (lv_at hl 9 rfl) ?_
  refine va_get (D := D) (ci := 4) (v := .double (FP.dsub (mR (k + 28 * rw + 2)) (FP.dmul 4602678819172646912 (fz_sMg lim dR mR (k + 28 * rw + 1))))) (C := RX4) (T := TX4) (N := 20) hx hb hts hin_X4 hown hK hP 0 rfl rfl 17 (by decide) hw_fieldLink_RX4_101_FlowGridModel_rightM_D (fun _ h9 => h9) rfl dX4_face_284 ?_
  refine lv_dload hx hb dX4_face_287 (lv_at hl 1 rfl) ?_
  refine lv_dload hx hb dX4_face_289 (lv_at hl 0 rfl) ?_
  refine lv_aload_n hx hb dX4_face_291 rfl (lv_at hl 9 rfl) ?_
  refine va_get (D := D) (ci := 4) (v := .double (FP.dadd (dR (k + 28 * rw + 1)) (FP.dmul 4602678819172646912 (fz_sHg lim dR (k + 28 * rw))))) (C := RX4) (T := TX4) (N := 20) hx hb hts hin_X4 hown hK hP 0 rfl rfl 14 (by decide) hw_fieldLink_RX4_92_FlowGridModel_leftH_D (fun _ h9 => h9) rfl dX4_face_292 ?_
  refine lv_aload_n hx hb dX4_face_295 rfl (lv_at hl 9 rfl) ?_
  refine va_get (D := D) (ci := 4) (v := .double (FP.dsub (dR (k + 28 * rw + 2)) (FP.dmul 4602678819172646912 (fz_sHg lim dR (k + 28 * rw + 1))))) (C := RX4) (T := TX4) (N := 20) hx hb hts hin_X4 hown hK hP 0 rfl rfl 16 (by decide) hw_fieldLink_RX4_98_FlowGridModel_rightH_D (fun _ h9 => h9) rfl dX4_face_296 ?_
  refine fz_callS (ws' := [(o, .inr (4, [.int thr, .int (nI n), .int (nI kd), .int (nI lim), .int (nI 1), .int (nI ord), .double tm, .int cst, .int cfl, .int crf, .ref dp, .ref mp, .double (fz_sHg lim dR (k + 28 * rw + 1)), .double (fz_sMg lim dR mR (k + 28 * rw + 1)), .double (FP.dadd (dR (k + 28 * rw + 1)) (FP.dmul 4602678819172646912 (fz_sHg lim dR (k + 28 * rw)))), .double (FP.dadd (mR (k + 28 * rw + 1)) (FP.dmul 4602678819172646912 (fz_sMg lim dR mR (k + 28 * rw)))), .double (FP.dsub (dR (k + 28 * rw + 2)) (FP.dmul 4602678819172646912 (fz_sHg lim dR (k + 28 * rw + 1)))), .double (FP.dsub (mR (k + 28 * rw + 2)) (FP.dmul 4602678819172646912 (fz_sMg lim dR mR (k + 28 * rw + 1)))), .double v6, .double v7])), (dp, fz_da cD 84 dR), (mp, fz_da cD 84 mR)]) (wr := [(o, .inr (4, [.int thr, .int (nI n), .int (nI kd), .int (nI lim), .int (nI 1), .int (nI ord), .double tm, .int cst, .int cfl, .int crf, .ref dp, .ref mp, .double (fz_sHg lim dR (k + 28 * rw + 1)), .double (fz_sMg lim dR mR (k + 28 * rw + 1)), .double (FP.dadd (dR (k + 28 * rw + 1)) (FP.dmul 4602678819172646912 (fz_sHg lim dR (k + 28 * rw)))), .double (FP.dadd (mR (k + 28 * rw + 1)) (FP.dmul 4602678819172646912 (fz_sMg lim dR mR (k + 28 * rw)))), .double (FP.dsub (dR (k + 28 * rw + 2)) (FP.dmul 4602678819172646912 (fz_sHg lim dR (k + 28 * rw + 1)))), .double (FP.dsub (mR (k + 28 * rw + 2)) (FP.dmul 4602678819172646912 (fz_sMg lim dR mR (k + 28 * rw + 1)))), .double v6, .double v7])), (dp, fz_da cD 84 dR), (mp, fz_da cD 84 mR)]) (As := [.double (FP.dadd (mR (k + 28 * rw + 1)) (FP.dmul 4602678819172646912 (fz_sMg lim dR mR (k + 28 * rw)))), .double (FP.dsub (mR (k + 28 * rw + 2)) (FP.dmul 4602678819172646912 (fz_sMg lim dR mR (k + 28 * rw + 1)))), .double (fz_lesM (FP.dsub (FP.ddiv (FP.dadd (mR (k + 28 * rw + 1)) (FP.dmul 4602678819172646912 (fz_sMg lim dR mR (k + 28 * rw)))) (FP.dadd (dR (k + 28 * rw + 1)) (FP.dmul 4602678819172646912 (fz_sHg lim dR (k + 28 * rw))))) (fz_root (FP.dadd (dR (k + 28 * rw + 1)) (FP.dmul 4602678819172646912 (fz_sHg lim dR (k + 28 * rw)))))) (FP.dsub (FP.ddiv (FP.dsub (mR (k + 28 * rw + 2)) (FP.dmul 4602678819172646912 (fz_sMg lim dR mR (k + 28 * rw + 1)))) (FP.dsub (dR (k + 28 * rw + 2)) (FP.dmul 4602678819172646912 (fz_sHg lim dR (k + 28 * rw + 1))))) (fz_root (FP.dsub (dR (k + 28 * rw + 2)) (FP.dmul 4602678819172646912 (fz_sHg lim dR (k + 28 * rw + 1))))))), .double (fz_gtrM (FP.dadd (FP.ddiv (FP.dadd (mR (k + 28 * rw + 1)) (FP.dmul 4602678819172646912 (fz_sMg lim dR mR (k + 28 * rw)))) (FP.dadd (dR (k + 28 * rw + 1)) (FP.dmul 4602678819172646912 (fz_sHg lim dR (k + 28 * rw))))) (fz_root (FP.dadd (dR (k + 28 * rw + 1)) (FP.dmul 4602678819172646912 (fz_sHg lim dR (k + 28 * rw)))))) (FP.dadd (FP.ddiv (FP.dsub (mR (k + 28 * rw + 2)) (FP.dmul 4602678819172646912 (fz_sMg lim dR mR (k + 28 * rw + 1)))) (FP.dsub (dR (k + 28 * rw + 2)) (FP.dmul 4602678819172646912 (fz_sHg lim dR (k + 28 * rw + 1))))) (fz_root (FP.dsub (dR (k + 28 * rw + 2)) (FP.dmul 4602678819172646912 (fz_sHg lim dR (k + 28 * rw + 1))))))), .double (FP.dadd (dR (k + 28 * rw + 1)) (FP.dmul 4602678819172646912 (fz_sHg lim dR (k + 28 * rw)))), .double (FP.dsub (dR (k + 28 * rw + 2)) (FP.dmul 4602678819172646912 (fz_sHg lim dR (k + 28 * rw + 1))))]) (rest := [.ref o]) ⟨hx, hb, hml, hown, hts⟩ (c_X4_narrow l D cD (FP.dadd (mR (k + 28 * rw + 1)) (FP.dmul 4602678819172646912 (fz_sMg lim dR mR (k + 28 * rw)))) (FP.dsub (mR (k + 28 * rw + 2)) (FP.dmul 4602678819172646912 (fz_sMg lim dR mR (k + 28 * rw + 1)))) (fz_lesM (FP.dsub (FP.ddiv (FP.dadd (mR (k + 28 * rw + 1)) (FP.dmul 4602678819172646912 (fz_sMg lim dR mR (k + 28 * rw)))) (FP.dadd (dR (k + 28 * rw + 1)) (FP.dmul 4602678819172646912 (fz_sHg lim dR (k + 28 * rw))))) (fz_root (FP.dadd (dR (k + 28 * rw + 1)) (FP.dmul 4602678819172646912 (fz_sHg lim dR (k + 28 * rw)))))) (FP.dsub (FP.ddiv (FP.dsub (mR (k + 28 * rw + 2)) (FP.dmul 4602678819172646912 (fz_sMg lim dR mR (k + 28 * rw + 1)))) (FP.dsub (dR (k + 28 * rw + 2)) (FP.dmul 4602678819172646912 (fz_sHg lim dR (k + 28 * rw + 1))))) (fz_root (FP.dsub (dR (k + 28 * rw + 2)) (FP.dmul 4602678819172646912 (fz_sHg lim dR (k + 28 * rw + 1))))))) (fz_gtrM (FP.dadd (FP.ddiv (FP.dadd (mR (k + 28 * rw + 1)) (FP.dmul 4602678819172646912 (fz_sMg lim dR mR (k + 28 * rw)))) (FP.dadd (dR (k + 28 * rw + 1)) (FP.dmul 4602678819172646912 (fz_sHg lim dR (k + 28 * rw))))) (fz_root (FP.dadd (dR (k + 28 * rw + 1)) (FP.dmul 4602678819172646912 (fz_sHg lim dR (k + 28 * rw)))))) (FP.dadd (FP.ddiv (FP.dsub (mR (k + 28 * rw + 2)) (FP.dmul 4602678819172646912 (fz_sMg lim dR mR (k + 28 * rw + 1)))) (FP.dsub (dR (k + 28 * rw + 2)) (FP.dmul 4602678819172646912 (fz_sHg lim dR (k + 28 * rw + 1))))) (fz_root (FP.dsub (dR (k + 28 * rw + 2)) (FP.dmul 4602678819172646912 (fz_sHg lim dR (k + 28 * rw + 1))))))) (FP.dadd (dR (k + 28 * rw + 1)) (FP.dmul 4602678819172646912 (fz_sHg lim dR (k + 28 * rw)))) (FP.dsub (dR (k + 28 * rw + 2)) (FP.dmul 4602678819172646912 (fz_sHg lim dR (k + 28 * rw + 1)))) ((hok.2.2.2.2.2.2 rfl).2.2.2.2.1) ((hok.2.2.2.2.2.2 rfl).2.2.2.2.2.2.1)) (va_cwS 6 hts gX4_face_X4_narrow rfl rfl rfl (by decide +kernel) ⟨Nat.le_of_ble_eq_true rfl, Nat.le_of_ble_eq_true rfl⟩) hK hNW hP hD hS hA [] [0, 1, 2] [0, 1, 2] rfl rfl rfl rfl (by decide) rfl rfl rfl hl.1 rfl (Nat.le_of_ble_eq_true rfl) dX4_face_299 ⟨Nat.zero_le _, Nat.zero_le _⟩ (fun H locs hP hD hS => ?_)
  refine fz_topdq (y := fz_bld (fz_lesC (FP.dsub (FP.ddiv (FP.dadd (mR (k + 28 * rw + 1)) (FP.dmul 4602678819172646912 (fz_sMg lim dR mR (k + 28 * rw)))) (FP.dadd (dR (k + 28 * rw + 1)) (FP.dmul 4602678819172646912 (fz_sHg lim dR (k + 28 * rw))))) (fz_root (FP.dadd (dR (k + 28 * rw + 1)) (FP.dmul 4602678819172646912 (fz_sHg lim dR (k + 28 * rw)))))) (FP.dsub (FP.ddiv (FP.dsub (mR (k + 28 * rw + 2)) (FP.dmul 4602678819172646912 (fz_sMg lim dR mR (k + 28 * rw + 1)))) (FP.dsub (dR (k + 28 * rw + 2)) (FP.dmul 4602678819172646912 (fz_sHg lim dR (k + 28 * rw + 1))))) (fz_root (FP.dsub (dR (k + 28 * rw + 2)) (FP.dmul 4602678819172646912 (fz_sHg lim dR (k + 28 * rw + 1))))))) (fz_gtrC (FP.dadd (FP.ddiv (FP.dadd (mR (k + 28 * rw + 1)) (FP.dmul 4602678819172646912 (fz_sMg lim dR mR (k + 28 * rw)))) (FP.dadd (dR (k + 28 * rw + 1)) (FP.dmul 4602678819172646912 (fz_sHg lim dR (k + 28 * rw))))) (fz_root (FP.dadd (dR (k + 28 * rw + 1)) (FP.dmul 4602678819172646912 (fz_sHg lim dR (k + 28 * rw)))))) (FP.dadd (FP.ddiv (FP.dsub (mR (k + 28 * rw + 2)) (FP.dmul 4602678819172646912 (fz_sMg lim dR mR (k + 28 * rw + 1)))) (FP.dsub (dR (k + 28 * rw + 2)) (FP.dmul 4602678819172646912 (fz_sHg lim dR (k + 28 * rw + 1))))) (fz_root (FP.dsub (dR (k + 28 * rw + 2)) (FP.dmul 4602678819172646912 (fz_sHg lim dR (k + 28 * rw + 1))))))) (FP.dadd (mR (k + 28 * rw + 1)) (FP.dmul 4602678819172646912 (fz_sMg lim dR mR (k + 28 * rw)))) (FP.dsub (mR (k + 28 * rw + 2)) (FP.dmul 4602678819172646912 (fz_sMg lim dR mR (k + 28 * rw + 1)))) (FP.dsub (FP.dsub (dR (k + 28 * rw + 2)) (FP.dmul 4602678819172646912 (fz_sHg lim dR (k + 28 * rw + 1)))) (FP.dadd (dR (k + 28 * rw + 1)) (FP.dmul 4602678819172646912 (fz_sHg lim dR (k + 28 * rw)))))) ((hok.2.2.2.2.2.2 rfl).2.2.2.2.2.2.2.2.1) ?_
  refine va_put (D := D) (ci := 4) (v := .double (fz_bld (fz_lesC (FP.dsub (FP.ddiv (FP.dadd (mR (k + 28 * rw + 1)) (FP.dmul 4602678819172646912 (fz_sMg lim dR mR (k + 28 * rw)))) (FP.dadd (dR (k + 28 * rw + 1)) (FP.dmul 4602678819172646912 (fz_sHg lim dR (k + 28 * rw))))) (fz_root (FP.dadd (dR (k + 28 * rw + 1)) (FP.dmul 4602678819172646912 (fz_sHg lim dR (k + 28 * rw)))))) (FP.dsub (FP.ddiv (FP.dsub (mR (k + 28 * rw + 2)) (FP.dmul 4602678819172646912 (fz_sMg lim dR mR (k + 28 * rw + 1)))) (FP.dsub (dR (k + 28 * rw + 2)) (FP.dmul 4602678819172646912 (fz_sHg lim dR (k + 28 * rw + 1))))) (fz_root (FP.dsub (dR (k + 28 * rw + 2)) (FP.dmul 4602678819172646912 (fz_sHg lim dR (k + 28 * rw + 1))))))) (fz_gtrC (FP.dadd (FP.ddiv (FP.dadd (mR (k + 28 * rw + 1)) (FP.dmul 4602678819172646912 (fz_sMg lim dR mR (k + 28 * rw)))) (FP.dadd (dR (k + 28 * rw + 1)) (FP.dmul 4602678819172646912 (fz_sHg lim dR (k + 28 * rw))))) (fz_root (FP.dadd (dR (k + 28 * rw + 1)) (FP.dmul 4602678819172646912 (fz_sHg lim dR (k + 28 * rw)))))) (FP.dadd (FP.ddiv (FP.dsub (mR (k + 28 * rw + 2)) (FP.dmul 4602678819172646912 (fz_sMg lim dR mR (k + 28 * rw + 1)))) (FP.dsub (dR (k + 28 * rw + 2)) (FP.dmul 4602678819172646912 (fz_sHg lim dR (k + 28 * rw + 1))))) (fz_root (FP.dsub (dR (k + 28 * rw + 2)) (FP.dmul 4602678819172646912 (fz_sHg lim dR (k + 28 * rw + 1))))))) (FP.dadd (mR (k + 28 * rw + 1)) (FP.dmul 4602678819172646912 (fz_sMg lim dR mR (k + 28 * rw)))) (FP.dsub (mR (k + 28 * rw + 2)) (FP.dmul 4602678819172646912 (fz_sMg lim dR mR (k + 28 * rw + 1)))) (FP.dsub (FP.dsub (dR (k + 28 * rw + 2)) (FP.dmul 4602678819172646912 (fz_sHg lim dR (k + 28 * rw + 1)))) (FP.dadd (dR (k + 28 * rw + 1)) (FP.dmul 4602678819172646912 (fz_sHg lim dR (k + 28 * rw))))))) (ty := .double) (C := RX4) (T := TX4) (N := 20) hx hb hts hin_X4 tyX4 tyX4_ok nmX4 hown hK hP hD hS 0 rfl rfl 18 (by decide) hw_fieldLink_RX4_117_FlowGridModel_fluxH_D (fun _ h9 => h9) rfl (by decide +kernel) rfl rfl (Nat.le_of_ble_eq_true rfl) dX4_face_302 (fun H locs hP hD hS => ?_)
  have hP : va_P D vwCl [(o, .inr (4, [.int thr, .int (nI n), .int (nI kd), .int (nI lim), .int (nI 1), .int (nI ord), .double tm, .int cst, .int cfl, .int crf, .ref dp, .ref mp, .double (fz_sHg lim dR (k + 28 * rw + 1)), .double (fz_sMg lim dR mR (k + 28 * rw + 1)), .double (FP.dadd (dR (k + 28 * rw + 1)) (FP.dmul 4602678819172646912 (fz_sHg lim dR (k + 28 * rw)))), .double (FP.dadd (mR (k + 28 * rw + 1)) (FP.dmul 4602678819172646912 (fz_sMg lim dR mR (k + 28 * rw)))), .double (FP.dsub (dR (k + 28 * rw + 2)) (FP.dmul 4602678819172646912 (fz_sHg lim dR (k + 28 * rw + 1)))), .double (FP.dsub (mR (k + 28 * rw + 2)) (FP.dmul 4602678819172646912 (fz_sMg lim dR mR (k + 28 * rw + 1)))), .double (fz_bld (fz_lesC (FP.dsub (FP.ddiv (FP.dadd (mR (k + 28 * rw + 1)) (FP.dmul 4602678819172646912 (fz_sMg lim dR mR (k + 28 * rw)))) (FP.dadd (dR (k + 28 * rw + 1)) (FP.dmul 4602678819172646912 (fz_sHg lim dR (k + 28 * rw))))) (fz_root (FP.dadd (dR (k + 28 * rw + 1)) (FP.dmul 4602678819172646912 (fz_sHg lim dR (k + 28 * rw)))))) (FP.dsub (FP.ddiv (FP.dsub (mR (k + 28 * rw + 2)) (FP.dmul 4602678819172646912 (fz_sMg lim dR mR (k + 28 * rw + 1)))) (FP.dsub (dR (k + 28 * rw + 2)) (FP.dmul 4602678819172646912 (fz_sHg lim dR (k + 28 * rw + 1))))) (fz_root (FP.dsub (dR (k + 28 * rw + 2)) (FP.dmul 4602678819172646912 (fz_sHg lim dR (k + 28 * rw + 1))))))) (fz_gtrC (FP.dadd (FP.ddiv (FP.dadd (mR (k + 28 * rw + 1)) (FP.dmul 4602678819172646912 (fz_sMg lim dR mR (k + 28 * rw)))) (FP.dadd (dR (k + 28 * rw + 1)) (FP.dmul 4602678819172646912 (fz_sHg lim dR (k + 28 * rw))))) (fz_root (FP.dadd (dR (k + 28 * rw + 1)) (FP.dmul 4602678819172646912 (fz_sHg lim dR (k + 28 * rw)))))) (FP.dadd (FP.ddiv (FP.dsub (mR (k + 28 * rw + 2)) (FP.dmul 4602678819172646912 (fz_sMg lim dR mR (k + 28 * rw + 1)))) (FP.dsub (dR (k + 28 * rw + 2)) (FP.dmul 4602678819172646912 (fz_sHg lim dR (k + 28 * rw + 1))))) (fz_root (FP.dsub (dR (k + 28 * rw + 2)) (FP.dmul 4602678819172646912 (fz_sHg lim dR (k + 28 * rw + 1))))))) (FP.dadd (mR (k + 28 * rw + 1)) (FP.dmul 4602678819172646912 (fz_sMg lim dR mR (k + 28 * rw)))) (FP.dsub (mR (k + 28 * rw + 2)) (FP.dmul 4602678819172646912 (fz_sMg lim dR mR (k + 28 * rw + 1)))) (FP.dsub (FP.dsub (dR (k + 28 * rw + 2)) (FP.dmul 4602678819172646912 (fz_sHg lim dR (k + 28 * rw + 1)))) (FP.dadd (dR (k + 28 * rw + 1)) (FP.dmul 4602678819172646912 (fz_sHg lim dR (k + 28 * rw)))))), .double v7])), (dp, fz_da cD 84 dR), (mp, fz_da cD 84 mR)] H := hP
  have hD : va_D A [(o, .inr (4, [.int thr, .int (nI n), .int (nI kd), .int (nI lim), .int (nI 1), .int (nI ord), .double tm, .int cst, .int cfl, .int crf, .ref dp, .ref mp, .double (fz_sHg lim dR (k + 28 * rw + 1)), .double (fz_sMg lim dR mR (k + 28 * rw + 1)), .double (FP.dadd (dR (k + 28 * rw + 1)) (FP.dmul 4602678819172646912 (fz_sHg lim dR (k + 28 * rw)))), .double (FP.dadd (mR (k + 28 * rw + 1)) (FP.dmul 4602678819172646912 (fz_sMg lim dR mR (k + 28 * rw)))), .double (FP.dsub (dR (k + 28 * rw + 2)) (FP.dmul 4602678819172646912 (fz_sHg lim dR (k + 28 * rw + 1)))), .double (FP.dsub (mR (k + 28 * rw + 2)) (FP.dmul 4602678819172646912 (fz_sMg lim dR mR (k + 28 * rw + 1)))), .double (fz_bld (fz_lesC (FP.dsub (FP.ddiv (FP.dadd (mR (k + 28 * rw + 1)) (FP.dmul 4602678819172646912 (fz_sMg lim dR mR (k + 28 * rw)))) (FP.dadd (dR (k + 28 * rw + 1)) (FP.dmul 4602678819172646912 (fz_sHg lim dR (k + 28 * rw))))) (fz_root (FP.dadd (dR (k + 28 * rw + 1)) (FP.dmul 4602678819172646912 (fz_sHg lim dR (k + 28 * rw)))))) (FP.dsub (FP.ddiv (FP.dsub (mR (k + 28 * rw + 2)) (FP.dmul 4602678819172646912 (fz_sMg lim dR mR (k + 28 * rw + 1)))) (FP.dsub (dR (k + 28 * rw + 2)) (FP.dmul 4602678819172646912 (fz_sHg lim dR (k + 28 * rw + 1))))) (fz_root (FP.dsub (dR (k + 28 * rw + 2)) (FP.dmul 4602678819172646912 (fz_sHg lim dR (k + 28 * rw + 1))))))) (fz_gtrC (FP.dadd (FP.ddiv (FP.dadd (mR (k + 28 * rw + 1)) (FP.dmul 4602678819172646912 (fz_sMg lim dR mR (k + 28 * rw)))) (FP.dadd (dR (k + 28 * rw + 1)) (FP.dmul 4602678819172646912 (fz_sHg lim dR (k + 28 * rw))))) (fz_root (FP.dadd (dR (k + 28 * rw + 1)) (FP.dmul 4602678819172646912 (fz_sHg lim dR (k + 28 * rw)))))) (FP.dadd (FP.ddiv (FP.dsub (mR (k + 28 * rw + 2)) (FP.dmul 4602678819172646912 (fz_sMg lim dR mR (k + 28 * rw + 1)))) (FP.dsub (dR (k + 28 * rw + 2)) (FP.dmul 4602678819172646912 (fz_sHg lim dR (k + 28 * rw + 1))))) (fz_root (FP.dsub (dR (k + 28 * rw + 2)) (FP.dmul 4602678819172646912 (fz_sHg lim dR (k + 28 * rw + 1))))))) (FP.dadd (mR (k + 28 * rw + 1)) (FP.dmul 4602678819172646912 (fz_sMg lim dR mR (k + 28 * rw)))) (FP.dsub (mR (k + 28 * rw + 2)) (FP.dmul 4602678819172646912 (fz_sMg lim dR mR (k + 28 * rw + 1)))) (FP.dsub (FP.dsub (dR (k + 28 * rw + 2)) (FP.dmul 4602678819172646912 (fz_sHg lim dR (k + 28 * rw + 1)))) (FP.dadd (dR (k + 28 * rw + 1)) (FP.dmul 4602678819172646912 (fz_sHg lim dR (k + 28 * rw)))))), .double v7])), (dp, fz_da cD 84 dR), (mp, fz_da cD 84 mR)] := hD
  refine lv_aload_n hx hb dX4_face_305 rfl (lv_at hl 9 rfl) ?_
  refine lv_dload hx hb dX4_face_306 (lv_at hl 7 rfl) ?_
  refine lv_dload hx hb dX4_face_308 (lv_at hl 6 rfl) ?_
  refine lv_dload hx hb dX4_face_310 (lv_at hl 1 rfl) ?_
  refine lv_dload hx hb dX4_face_312 (lv_at hl 0 rfl) ?_
  refine lv_aload_n hx hb dX4_face_314 rfl (lv_at hl 9 rfl) ?_
  refine va_get (D := D) (ci := 4) (v := .double (FP.dadd (mR (k + 28 * rw + 1)) (FP.dmul 4602678819172646912 (fz_sMg lim dR mR (k + 28 * rw))))) (C := RX4) (T := TX4) (N := 20) hx hb hts hin_X4 hown hK hP 0 rfl rfl 15 (by decide) hw_fieldLink_RX4_95_FlowGridModel_leftM_D (fun _ h9 => h9) rfl dX4_face_315 ?_
  refine lv_aload_n hx hb dX4_face_318 rfl (lv_at hl 9 rfl) ?_
  refine va_get (D := D) (ci := 4) (v := .double (FP.dsub (mR (k + 28 * rw + 2)) (FP.dmul 4602678819172646912 (fz_sMg lim dR mR (k + 28 * rw + 1))))) (C := RX4) (T := TX4) (N := 20) hx hb hts hin_X4 hown hK hP 0 rfl rfl 17 (by decide) hw_fieldLink_RX4_101_FlowGridModel_rightM_D (fun _ h9 => h9) rfl dX4_face_319 ?_
  refine fz_callS (ws' := [(o, .inr (4, [.int thr, .int (nI n), .int (nI kd), .int (nI lim), .int (nI 1), .int (nI ord), .double tm, .int cst, .int cfl, .int crf, .ref dp, .ref mp, .double (fz_sHg lim dR (k + 28 * rw + 1)), .double (fz_sMg lim dR mR (k + 28 * rw + 1)), .double (FP.dadd (dR (k + 28 * rw + 1)) (FP.dmul 4602678819172646912 (fz_sHg lim dR (k + 28 * rw)))), .double (FP.dadd (mR (k + 28 * rw + 1)) (FP.dmul 4602678819172646912 (fz_sMg lim dR mR (k + 28 * rw)))), .double (FP.dsub (dR (k + 28 * rw + 2)) (FP.dmul 4602678819172646912 (fz_sHg lim dR (k + 28 * rw + 1)))), .double (FP.dsub (mR (k + 28 * rw + 2)) (FP.dmul 4602678819172646912 (fz_sMg lim dR mR (k + 28 * rw + 1)))), .double (fz_bld (fz_lesC (FP.dsub (FP.ddiv (FP.dadd (mR (k + 28 * rw + 1)) (FP.dmul 4602678819172646912 (fz_sMg lim dR mR (k + 28 * rw)))) (FP.dadd (dR (k + 28 * rw + 1)) (FP.dmul 4602678819172646912 (fz_sHg lim dR (k + 28 * rw))))) (fz_root (FP.dadd (dR (k + 28 * rw + 1)) (FP.dmul 4602678819172646912 (fz_sHg lim dR (k + 28 * rw)))))) (FP.dsub (FP.ddiv (FP.dsub (mR (k + 28 * rw + 2)) (FP.dmul 4602678819172646912 (fz_sMg lim dR mR (k + 28 * rw + 1)))) (FP.dsub (dR (k + 28 * rw + 2)) (FP.dmul 4602678819172646912 (fz_sHg lim dR (k + 28 * rw + 1))))) (fz_root (FP.dsub (dR (k + 28 * rw + 2)) (FP.dmul 4602678819172646912 (fz_sHg lim dR (k + 28 * rw + 1))))))) (fz_gtrC (FP.dadd (FP.ddiv (FP.dadd (mR (k + 28 * rw + 1)) (FP.dmul 4602678819172646912 (fz_sMg lim dR mR (k + 28 * rw)))) (FP.dadd (dR (k + 28 * rw + 1)) (FP.dmul 4602678819172646912 (fz_sHg lim dR (k + 28 * rw))))) (fz_root (FP.dadd (dR (k + 28 * rw + 1)) (FP.dmul 4602678819172646912 (fz_sHg lim dR (k + 28 * rw)))))) (FP.dadd (FP.ddiv (FP.dsub (mR (k + 28 * rw + 2)) (FP.dmul 4602678819172646912 (fz_sMg lim dR mR (k + 28 * rw + 1)))) (FP.dsub (dR (k + 28 * rw + 2)) (FP.dmul 4602678819172646912 (fz_sHg lim dR (k + 28 * rw + 1))))) (fz_root (FP.dsub (dR (k + 28 * rw + 2)) (FP.dmul 4602678819172646912 (fz_sHg lim dR (k + 28 * rw + 1))))))) (FP.dadd (mR (k + 28 * rw + 1)) (FP.dmul 4602678819172646912 (fz_sMg lim dR mR (k + 28 * rw)))) (FP.dsub (mR (k + 28 * rw + 2)) (FP.dmul 4602678819172646912 (fz_sMg lim dR mR (k + 28 * rw + 1)))) (FP.dsub (FP.dsub (dR (k + 28 * rw + 2)) (FP.dmul 4602678819172646912 (fz_sHg lim dR (k + 28 * rw + 1)))) (FP.dadd (dR (k + 28 * rw + 1)) (FP.dmul 4602678819172646912 (fz_sHg lim dR (k + 28 * rw)))))), .double v7])), (dp, fz_da cD 84 dR), (mp, fz_da cD 84 mR)]) (wr := [(o, .inr (4, [.int thr, .int (nI n), .int (nI kd), .int (nI lim), .int (nI 1), .int (nI ord), .double tm, .int cst, .int cfl, .int crf, .ref dp, .ref mp, .double (fz_sHg lim dR (k + 28 * rw + 1)), .double (fz_sMg lim dR mR (k + 28 * rw + 1)), .double (FP.dadd (dR (k + 28 * rw + 1)) (FP.dmul 4602678819172646912 (fz_sHg lim dR (k + 28 * rw)))), .double (FP.dadd (mR (k + 28 * rw + 1)) (FP.dmul 4602678819172646912 (fz_sMg lim dR mR (k + 28 * rw)))), .double (FP.dsub (dR (k + 28 * rw + 2)) (FP.dmul 4602678819172646912 (fz_sHg lim dR (k + 28 * rw + 1)))), .double (FP.dsub (mR (k + 28 * rw + 2)) (FP.dmul 4602678819172646912 (fz_sMg lim dR mR (k + 28 * rw + 1)))), .double (fz_bld (fz_lesC (FP.dsub (FP.ddiv (FP.dadd (mR (k + 28 * rw + 1)) (FP.dmul 4602678819172646912 (fz_sMg lim dR mR (k + 28 * rw)))) (FP.dadd (dR (k + 28 * rw + 1)) (FP.dmul 4602678819172646912 (fz_sHg lim dR (k + 28 * rw))))) (fz_root (FP.dadd (dR (k + 28 * rw + 1)) (FP.dmul 4602678819172646912 (fz_sHg lim dR (k + 28 * rw)))))) (FP.dsub (FP.ddiv (FP.dsub (mR (k + 28 * rw + 2)) (FP.dmul 4602678819172646912 (fz_sMg lim dR mR (k + 28 * rw + 1)))) (FP.dsub (dR (k + 28 * rw + 2)) (FP.dmul 4602678819172646912 (fz_sHg lim dR (k + 28 * rw + 1))))) (fz_root (FP.dsub (dR (k + 28 * rw + 2)) (FP.dmul 4602678819172646912 (fz_sHg lim dR (k + 28 * rw + 1))))))) (fz_gtrC (FP.dadd (FP.ddiv (FP.dadd (mR (k + 28 * rw + 1)) (FP.dmul 4602678819172646912 (fz_sMg lim dR mR (k + 28 * rw)))) (FP.dadd (dR (k + 28 * rw + 1)) (FP.dmul 4602678819172646912 (fz_sHg lim dR (k + 28 * rw))))) (fz_root (FP.dadd (dR (k + 28 * rw + 1)) (FP.dmul 4602678819172646912 (fz_sHg lim dR (k + 28 * rw)))))) (FP.dadd (FP.ddiv (FP.dsub (mR (k + 28 * rw + 2)) (FP.dmul 4602678819172646912 (fz_sMg lim dR mR (k + 28 * rw + 1)))) (FP.dsub (dR (k + 28 * rw + 2)) (FP.dmul 4602678819172646912 (fz_sHg lim dR (k + 28 * rw + 1))))) (fz_root (FP.dsub (dR (k + 28 * rw + 2)) (FP.dmul 4602678819172646912 (fz_sHg lim dR (k + 28 * rw + 1))))))) (FP.dadd (mR (k + 28 * rw + 1)) (FP.dmul 4602678819172646912 (fz_sMg lim dR mR (k + 28 * rw)))) (FP.dsub (mR (k + 28 * rw + 2)) (FP.dmul 4602678819172646912 (fz_sMg lim dR mR (k + 28 * rw + 1)))) (FP.dsub (FP.dsub (dR (k + 28 * rw + 2)) (FP.dmul 4602678819172646912 (fz_sHg lim dR (k + 28 * rw + 1)))) (FP.dadd (dR (k + 28 * rw + 1)) (FP.dmul 4602678819172646912 (fz_sHg lim dR (k + 28 * rw)))))), .double v7])), (dp, fz_da cD 84 dR), (mp, fz_da cD 84 mR)]) (As := [.double (fz_mflux (FP.dadd (dR (k + 28 * rw + 1)) (FP.dmul 4602678819172646912 (fz_sHg lim dR (k + 28 * rw)))) (FP.dadd (mR (k + 28 * rw + 1)) (FP.dmul 4602678819172646912 (fz_sMg lim dR mR (k + 28 * rw)))) (FP.ddiv (FP.dadd (mR (k + 28 * rw + 1)) (FP.dmul 4602678819172646912 (fz_sMg lim dR mR (k + 28 * rw)))) (FP.dadd (dR (k + 28 * rw + 1)) (FP.dmul 4602678819172646912 (fz_sHg lim dR (k + 28 * rw)))))), .double (fz_mflux (FP.dsub (dR (k + 28 * rw + 2)) (FP.dmul 4602678819172646912 (fz_sHg lim dR (k + 28 * rw + 1)))) (FP.dsub (mR (k + 28 * rw + 2)) (FP.dmul 4602678819172646912 (fz_sMg lim dR mR (k + 28 * rw + 1)))) (FP.ddiv (FP.dsub (mR (k + 28 * rw + 2)) (FP.dmul 4602678819172646912 (fz_sMg lim dR mR (k + 28 * rw + 1)))) (FP.dsub (dR (k + 28 * rw + 2)) (FP.dmul 4602678819172646912 (fz_sHg lim dR (k + 28 * rw + 1)))))), .double (fz_lesM (FP.dsub (FP.ddiv (FP.dadd (mR (k + 28 * rw + 1)) (FP.dmul 4602678819172646912 (fz_sMg lim dR mR (k + 28 * rw)))) (FP.dadd (dR (k + 28 * rw + 1)) (FP.dmul 4602678819172646912 (fz_sHg lim dR (k + 28 * rw))))) (fz_root (FP.dadd (dR (k + 28 * rw + 1)) (FP.dmul 4602678819172646912 (fz_sHg lim dR (k + 28 * rw)))))) (FP.dsub (FP.ddiv (FP.dsub (mR (k + 28 * rw + 2)) (FP.dmul 4602678819172646912 (fz_sMg lim dR mR (k + 28 * rw + 1)))) (FP.dsub (dR (k + 28 * rw + 2)) (FP.dmul 4602678819172646912 (fz_sHg lim dR (k + 28 * rw + 1))))) (fz_root (FP.dsub (dR (k + 28 * rw + 2)) (FP.dmul 4602678819172646912 (fz_sHg lim dR (k + 28 * rw + 1))))))), .double (fz_gtrM (FP.dadd (FP.ddiv (FP.dadd (mR (k + 28 * rw + 1)) (FP.dmul 4602678819172646912 (fz_sMg lim dR mR (k + 28 * rw)))) (FP.dadd (dR (k + 28 * rw + 1)) (FP.dmul 4602678819172646912 (fz_sHg lim dR (k + 28 * rw))))) (fz_root (FP.dadd (dR (k + 28 * rw + 1)) (FP.dmul 4602678819172646912 (fz_sHg lim dR (k + 28 * rw)))))) (FP.dadd (FP.ddiv (FP.dsub (mR (k + 28 * rw + 2)) (FP.dmul 4602678819172646912 (fz_sMg lim dR mR (k + 28 * rw + 1)))) (FP.dsub (dR (k + 28 * rw + 2)) (FP.dmul 4602678819172646912 (fz_sHg lim dR (k + 28 * rw + 1))))) (fz_root (FP.dsub (dR (k + 28 * rw + 2)) (FP.dmul 4602678819172646912 (fz_sHg lim dR (k + 28 * rw + 1))))))), .double (FP.dadd (mR (k + 28 * rw + 1)) (FP.dmul 4602678819172646912 (fz_sMg lim dR mR (k + 28 * rw)))), .double (FP.dsub (mR (k + 28 * rw + 2)) (FP.dmul 4602678819172646912 (fz_sMg lim dR mR (k + 28 * rw + 1))))]) (rest := [.ref o]) ⟨hx, hb, hml, hown, hts⟩ (c_X4_narrow l D cD (fz_mflux (FP.dadd (dR (k + 28 * rw + 1)) (FP.dmul 4602678819172646912 (fz_sHg lim dR (k + 28 * rw)))) (FP.dadd (mR (k + 28 * rw + 1)) (FP.dmul 4602678819172646912 (fz_sMg lim dR mR (k + 28 * rw)))) (FP.ddiv (FP.dadd (mR (k + 28 * rw + 1)) (FP.dmul 4602678819172646912 (fz_sMg lim dR mR (k + 28 * rw)))) (FP.dadd (dR (k + 28 * rw + 1)) (FP.dmul 4602678819172646912 (fz_sHg lim dR (k + 28 * rw)))))) (fz_mflux (FP.dsub (dR (k + 28 * rw + 2)) (FP.dmul 4602678819172646912 (fz_sHg lim dR (k + 28 * rw + 1)))) (FP.dsub (mR (k + 28 * rw + 2)) (FP.dmul 4602678819172646912 (fz_sMg lim dR mR (k + 28 * rw + 1)))) (FP.ddiv (FP.dsub (mR (k + 28 * rw + 2)) (FP.dmul 4602678819172646912 (fz_sMg lim dR mR (k + 28 * rw + 1)))) (FP.dsub (dR (k + 28 * rw + 2)) (FP.dmul 4602678819172646912 (fz_sHg lim dR (k + 28 * rw + 1)))))) (fz_lesM (FP.dsub (FP.ddiv (FP.dadd (mR (k + 28 * rw + 1)) (FP.dmul 4602678819172646912 (fz_sMg lim dR mR (k + 28 * rw)))) (FP.dadd (dR (k + 28 * rw + 1)) (FP.dmul 4602678819172646912 (fz_sHg lim dR (k + 28 * rw))))) (fz_root (FP.dadd (dR (k + 28 * rw + 1)) (FP.dmul 4602678819172646912 (fz_sHg lim dR (k + 28 * rw)))))) (FP.dsub (FP.ddiv (FP.dsub (mR (k + 28 * rw + 2)) (FP.dmul 4602678819172646912 (fz_sMg lim dR mR (k + 28 * rw + 1)))) (FP.dsub (dR (k + 28 * rw + 2)) (FP.dmul 4602678819172646912 (fz_sHg lim dR (k + 28 * rw + 1))))) (fz_root (FP.dsub (dR (k + 28 * rw + 2)) (FP.dmul 4602678819172646912 (fz_sHg lim dR (k + 28 * rw + 1))))))) (fz_gtrM (FP.dadd (FP.ddiv (FP.dadd (mR (k + 28 * rw + 1)) (FP.dmul 4602678819172646912 (fz_sMg lim dR mR (k + 28 * rw)))) (FP.dadd (dR (k + 28 * rw + 1)) (FP.dmul 4602678819172646912 (fz_sHg lim dR (k + 28 * rw))))) (fz_root (FP.dadd (dR (k + 28 * rw + 1)) (FP.dmul 4602678819172646912 (fz_sHg lim dR (k + 28 * rw)))))) (FP.dadd (FP.ddiv (FP.dsub (mR (k + 28 * rw + 2)) (FP.dmul 4602678819172646912 (fz_sMg lim dR mR (k + 28 * rw + 1)))) (FP.dsub (dR (k + 28 * rw + 2)) (FP.dmul 4602678819172646912 (fz_sHg lim dR (k + 28 * rw + 1))))) (fz_root (FP.dsub (dR (k + 28 * rw + 2)) (FP.dmul 4602678819172646912 (fz_sHg lim dR (k + 28 * rw + 1))))))) (FP.dadd (mR (k + 28 * rw + 1)) (FP.dmul 4602678819172646912 (fz_sMg lim dR mR (k + 28 * rw)))) (FP.dsub (mR (k + 28 * rw + 2)) (FP.dmul 4602678819172646912 (fz_sMg lim dR mR (k + 28 * rw + 1)))) ((hok.2.2.2.2.2.2 rfl).2.2.2.2.2.1) ((hok.2.2.2.2.2.2 rfl).2.2.2.2.2.2.2.1)) (va_cwS 6 hts gX4_face_X4_narrow rfl rfl rfl (by decide +kernel) ⟨Nat.le_of_ble_eq_true rfl, Nat.le_of_ble_eq_true rfl⟩) hK hNW hP hD hS hA [] [0, 1, 2] [0, 1, 2] rfl rfl rfl rfl (by decide) rfl rfl rfl hl.1 rfl (Nat.le_of_ble_eq_true rfl) dX4_face_322 ⟨Nat.zero_le _, Nat.zero_le _⟩ (fun H locs hP hD hS => ?_)
  refine fz_topdq (y := fz_bld (fz_lesC (FP.dsub (FP.ddiv (FP.dadd (mR (k + 28 * rw + 1)) (FP.dmul 4602678819172646912 (fz_sMg lim dR mR (k + 28 * rw)))) (FP.dadd (dR (k + 28 * rw + 1)) (FP.dmul 4602678819172646912 (fz_sHg lim dR (k + 28 * rw))))) (fz_root (FP.dadd (dR (k + 28 * rw + 1)) (FP.dmul 4602678819172646912 (fz_sHg lim dR (k + 28 * rw)))))) (FP.dsub (FP.ddiv (FP.dsub (mR (k + 28 * rw + 2)) (FP.dmul 4602678819172646912 (fz_sMg lim dR mR (k + 28 * rw + 1)))) (FP.dsub (dR (k + 28 * rw + 2)) (FP.dmul 4602678819172646912 (fz_sHg lim dR (k + 28 * rw + 1))))) (fz_root (FP.dsub (dR (k + 28 * rw + 2)) (FP.dmul 4602678819172646912 (fz_sHg lim dR (k + 28 * rw + 1))))))) (fz_gtrC (FP.dadd (FP.ddiv (FP.dadd (mR (k + 28 * rw + 1)) (FP.dmul 4602678819172646912 (fz_sMg lim dR mR (k + 28 * rw)))) (FP.dadd (dR (k + 28 * rw + 1)) (FP.dmul 4602678819172646912 (fz_sHg lim dR (k + 28 * rw))))) (fz_root (FP.dadd (dR (k + 28 * rw + 1)) (FP.dmul 4602678819172646912 (fz_sHg lim dR (k + 28 * rw)))))) (FP.dadd (FP.ddiv (FP.dsub (mR (k + 28 * rw + 2)) (FP.dmul 4602678819172646912 (fz_sMg lim dR mR (k + 28 * rw + 1)))) (FP.dsub (dR (k + 28 * rw + 2)) (FP.dmul 4602678819172646912 (fz_sHg lim dR (k + 28 * rw + 1))))) (fz_root (FP.dsub (dR (k + 28 * rw + 2)) (FP.dmul 4602678819172646912 (fz_sHg lim dR (k + 28 * rw + 1))))))) (fz_mflux (FP.dadd (dR (k + 28 * rw + 1)) (FP.dmul 4602678819172646912 (fz_sHg lim dR (k + 28 * rw)))) (FP.dadd (mR (k + 28 * rw + 1)) (FP.dmul 4602678819172646912 (fz_sMg lim dR mR (k + 28 * rw)))) (FP.ddiv (FP.dadd (mR (k + 28 * rw + 1)) (FP.dmul 4602678819172646912 (fz_sMg lim dR mR (k + 28 * rw)))) (FP.dadd (dR (k + 28 * rw + 1)) (FP.dmul 4602678819172646912 (fz_sHg lim dR (k + 28 * rw)))))) (fz_mflux (FP.dsub (dR (k + 28 * rw + 2)) (FP.dmul 4602678819172646912 (fz_sHg lim dR (k + 28 * rw + 1)))) (FP.dsub (mR (k + 28 * rw + 2)) (FP.dmul 4602678819172646912 (fz_sMg lim dR mR (k + 28 * rw + 1)))) (FP.ddiv (FP.dsub (mR (k + 28 * rw + 2)) (FP.dmul 4602678819172646912 (fz_sMg lim dR mR (k + 28 * rw + 1)))) (FP.dsub (dR (k + 28 * rw + 2)) (FP.dmul 4602678819172646912 (fz_sHg lim dR (k + 28 * rw + 1)))))) (FP.dsub (FP.dsub (mR (k + 28 * rw + 2)) (FP.dmul 4602678819172646912 (fz_sMg lim dR mR (k + 28 * rw + 1)))) (FP.dadd (mR (k + 28 * rw + 1)) (FP.dmul 4602678819172646912 (fz_sMg lim dR mR (k + 28 * rw)))))) ((hok.2.2.2.2.2.2 rfl).2.2.2.2.2.2.2.2.2) ?_
  refine va_put (D := D) (ci := 4) (v := .double (fz_bld (fz_lesC (FP.dsub (FP.ddiv (FP.dadd (mR (k + 28 * rw + 1)) (FP.dmul 4602678819172646912 (fz_sMg lim dR mR (k + 28 * rw)))) (FP.dadd (dR (k + 28 * rw + 1)) (FP.dmul 4602678819172646912 (fz_sHg lim dR (k + 28 * rw))))) (fz_root (FP.dadd (dR (k + 28 * rw + 1)) (FP.dmul 4602678819172646912 (fz_sHg lim dR (k + 28 * rw)))))) (FP.dsub (FP.ddiv (FP.dsub (mR (k + 28 * rw + 2)) (FP.dmul 4602678819172646912 (fz_sMg lim dR mR (k + 28 * rw + 1)))) (FP.dsub (dR (k + 28 * rw + 2)) (FP.dmul 4602678819172646912 (fz_sHg lim dR (k + 28 * rw + 1))))) (fz_root (FP.dsub (dR (k + 28 * rw + 2)) (FP.dmul 4602678819172646912 (fz_sHg lim dR (k + 28 * rw + 1))))))) (fz_gtrC (FP.dadd (FP.ddiv (FP.dadd (mR (k + 28 * rw + 1)) (FP.dmul 4602678819172646912 (fz_sMg lim dR mR (k + 28 * rw)))) (FP.dadd (dR (k + 28 * rw + 1)) (FP.dmul 4602678819172646912 (fz_sHg lim dR (k + 28 * rw))))) (fz_root (FP.dadd (dR (k + 28 * rw + 1)) (FP.dmul 4602678819172646912 (fz_sHg lim dR (k + 28 * rw)))))) (FP.dadd (FP.ddiv (FP.dsub (mR (k + 28 * rw + 2)) (FP.dmul 4602678819172646912 (fz_sMg lim dR mR (k + 28 * rw + 1)))) (FP.dsub (dR (k + 28 * rw + 2)) (FP.dmul 4602678819172646912 (fz_sHg lim dR (k + 28 * rw + 1))))) (fz_root (FP.dsub (dR (k + 28 * rw + 2)) (FP.dmul 4602678819172646912 (fz_sHg lim dR (k + 28 * rw + 1))))))) (fz_mflux (FP.dadd (dR (k + 28 * rw + 1)) (FP.dmul 4602678819172646912 (fz_sHg lim dR (k + 28 * rw)))) (FP.dadd (mR (k + 28 * rw + 1)) (FP.dmul 4602678819172646912 (fz_sMg lim dR mR (k + 28 * rw)))) (FP.ddiv (FP.dadd (mR (k + 28 * rw + 1)) (FP.dmul 4602678819172646912 (fz_sMg lim dR mR (k + 28 * rw)))) (FP.dadd (dR (k + 28 * rw + 1)) (FP.dmul 4602678819172646912 (fz_sHg lim dR (k + 28 * rw)))))) (fz_mflux (FP.dsub (dR (k + 28 * rw + 2)) (FP.dmul 4602678819172646912 (fz_sHg lim dR (k + 28 * rw + 1)))) (FP.dsub (mR (k + 28 * rw + 2)) (FP.dmul 4602678819172646912 (fz_sMg lim dR mR (k + 28 * rw + 1)))) (FP.ddiv (FP.dsub (mR (k + 28 * rw + 2)) (FP.dmul 4602678819172646912 (fz_sMg lim dR mR (k + 28 * rw + 1)))) (FP.dsub (dR (k + 28 * rw + 2)) (FP.dmul 4602678819172646912 (fz_sHg lim dR (k + 28 * rw + 1)))))) (FP.dsub (FP.dsub (mR (k + 28 * rw + 2)) (FP.dmul 4602678819172646912 (fz_sMg lim dR mR (k + 28 * rw + 1)))) (FP.dadd (mR (k + 28 * rw + 1)) (FP.dmul 4602678819172646912 (fz_sMg lim dR mR (k + 28 * rw))))))) (ty := .double) (C := RX4) (T := TX4) (N := 20) hx hb hts hin_X4 tyX4 tyX4_ok nmX4 hown hK hP hD hS 0 rfl rfl 19 (by decide) hw_fieldLink_RX4_120_FlowGridModel_fluxM_D (fun _ h9 => h9) rfl (by decide +kernel) rfl rfl (Nat.le_of_ble_eq_true rfl) dX4_face_325 (fun H locs hP hD hS => ?_)
  have hP : va_P D vwCl [(o, .inr (4, [.int thr, .int (nI n), .int (nI kd), .int (nI lim), .int (nI 1), .int (nI ord), .double tm, .int cst, .int cfl, .int crf, .ref dp, .ref mp, .double (fz_sHg lim dR (k + 28 * rw + 1)), .double (fz_sMg lim dR mR (k + 28 * rw + 1)), .double (FP.dadd (dR (k + 28 * rw + 1)) (FP.dmul 4602678819172646912 (fz_sHg lim dR (k + 28 * rw)))), .double (FP.dadd (mR (k + 28 * rw + 1)) (FP.dmul 4602678819172646912 (fz_sMg lim dR mR (k + 28 * rw)))), .double (FP.dsub (dR (k + 28 * rw + 2)) (FP.dmul 4602678819172646912 (fz_sHg lim dR (k + 28 * rw + 1)))), .double (FP.dsub (mR (k + 28 * rw + 2)) (FP.dmul 4602678819172646912 (fz_sMg lim dR mR (k + 28 * rw + 1)))), .double (fz_bld (fz_lesC (FP.dsub (FP.ddiv (FP.dadd (mR (k + 28 * rw + 1)) (FP.dmul 4602678819172646912 (fz_sMg lim dR mR (k + 28 * rw)))) (FP.dadd (dR (k + 28 * rw + 1)) (FP.dmul 4602678819172646912 (fz_sHg lim dR (k + 28 * rw))))) (fz_root (FP.dadd (dR (k + 28 * rw + 1)) (FP.dmul 4602678819172646912 (fz_sHg lim dR (k + 28 * rw)))))) (FP.dsub (FP.ddiv (FP.dsub (mR (k + 28 * rw + 2)) (FP.dmul 4602678819172646912 (fz_sMg lim dR mR (k + 28 * rw + 1)))) (FP.dsub (dR (k + 28 * rw + 2)) (FP.dmul 4602678819172646912 (fz_sHg lim dR (k + 28 * rw + 1))))) (fz_root (FP.dsub (dR (k + 28 * rw + 2)) (FP.dmul 4602678819172646912 (fz_sHg lim dR (k + 28 * rw + 1))))))) (fz_gtrC (FP.dadd (FP.ddiv (FP.dadd (mR (k + 28 * rw + 1)) (FP.dmul 4602678819172646912 (fz_sMg lim dR mR (k + 28 * rw)))) (FP.dadd (dR (k + 28 * rw + 1)) (FP.dmul 4602678819172646912 (fz_sHg lim dR (k + 28 * rw))))) (fz_root (FP.dadd (dR (k + 28 * rw + 1)) (FP.dmul 4602678819172646912 (fz_sHg lim dR (k + 28 * rw)))))) (FP.dadd (FP.ddiv (FP.dsub (mR (k + 28 * rw + 2)) (FP.dmul 4602678819172646912 (fz_sMg lim dR mR (k + 28 * rw + 1)))) (FP.dsub (dR (k + 28 * rw + 2)) (FP.dmul 4602678819172646912 (fz_sHg lim dR (k + 28 * rw + 1))))) (fz_root (FP.dsub (dR (k + 28 * rw + 2)) (FP.dmul 4602678819172646912 (fz_sHg lim dR (k + 28 * rw + 1))))))) (FP.dadd (mR (k + 28 * rw + 1)) (FP.dmul 4602678819172646912 (fz_sMg lim dR mR (k + 28 * rw)))) (FP.dsub (mR (k + 28 * rw + 2)) (FP.dmul 4602678819172646912 (fz_sMg lim dR mR (k + 28 * rw + 1)))) (FP.dsub (FP.dsub (dR (k + 28 * rw + 2)) (FP.dmul 4602678819172646912 (fz_sHg lim dR (k + 28 * rw + 1)))) (FP.dadd (dR (k + 28 * rw + 1)) (FP.dmul 4602678819172646912 (fz_sHg lim dR (k + 28 * rw)))))), .double (fz_bld (fz_lesC (FP.dsub (FP.ddiv (FP.dadd (mR (k + 28 * rw + 1)) (FP.dmul 4602678819172646912 (fz_sMg lim dR mR (k + 28 * rw)))) (FP.dadd (dR (k + 28 * rw + 1)) (FP.dmul 4602678819172646912 (fz_sHg lim dR (k + 28 * rw))))) (fz_root (FP.dadd (dR (k + 28 * rw + 1)) (FP.dmul 4602678819172646912 (fz_sHg lim dR (k + 28 * rw)))))) (FP.dsub (FP.ddiv (FP.dsub (mR (k + 28 * rw + 2)) (FP.dmul 4602678819172646912 (fz_sMg lim dR mR (k + 28 * rw + 1)))) (FP.dsub (dR (k + 28 * rw + 2)) (FP.dmul 4602678819172646912 (fz_sHg lim dR (k + 28 * rw + 1))))) (fz_root (FP.dsub (dR (k + 28 * rw + 2)) (FP.dmul 4602678819172646912 (fz_sHg lim dR (k + 28 * rw + 1))))))) (fz_gtrC (FP.dadd (FP.ddiv (FP.dadd (mR (k + 28 * rw + 1)) (FP.dmul 4602678819172646912 (fz_sMg lim dR mR (k + 28 * rw)))) (FP.dadd (dR (k + 28 * rw + 1)) (FP.dmul 4602678819172646912 (fz_sHg lim dR (k + 28 * rw))))) (fz_root (FP.dadd (dR (k + 28 * rw + 1)) (FP.dmul 4602678819172646912 (fz_sHg lim dR (k + 28 * rw)))))) (FP.dadd (FP.ddiv (FP.dsub (mR (k + 28 * rw + 2)) (FP.dmul 4602678819172646912 (fz_sMg lim dR mR (k + 28 * rw + 1)))) (FP.dsub (dR (k + 28 * rw + 2)) (FP.dmul 4602678819172646912 (fz_sHg lim dR (k + 28 * rw + 1))))) (fz_root (FP.dsub (dR (k + 28 * rw + 2)) (FP.dmul 4602678819172646912 (fz_sHg lim dR (k + 28 * rw + 1))))))) (fz_mflux (FP.dadd (dR (k + 28 * rw + 1)) (FP.dmul 4602678819172646912 (fz_sHg lim dR (k + 28 * rw)))) (FP.dadd (mR (k + 28 * rw + 1)) (FP.dmul 4602678819172646912 (fz_sMg lim dR mR (k + 28 * rw)))) (FP.ddiv (FP.dadd (mR (k + 28 * rw + 1)) (FP.dmul 4602678819172646912 (fz_sMg lim dR mR (k + 28 * rw)))) (FP.dadd (dR (k + 28 * rw + 1)) (FP.dmul 4602678819172646912 (fz_sHg lim dR (k + 28 * rw)))))) (fz_mflux (FP.dsub (dR (k + 28 * rw + 2)) (FP.dmul 4602678819172646912 (fz_sHg lim dR (k + 28 * rw + 1)))) (FP.dsub (mR (k + 28 * rw + 2)) (FP.dmul 4602678819172646912 (fz_sMg lim dR mR (k + 28 * rw + 1)))) (FP.ddiv (FP.dsub (mR (k + 28 * rw + 2)) (FP.dmul 4602678819172646912 (fz_sMg lim dR mR (k + 28 * rw + 1)))) (FP.dsub (dR (k + 28 * rw + 2)) (FP.dmul 4602678819172646912 (fz_sHg lim dR (k + 28 * rw + 1)))))) (FP.dsub (FP.dsub (mR (k + 28 * rw + 2)) (FP.dmul 4602678819172646912 (fz_sMg lim dR mR (k + 28 * rw + 1)))) (FP.dadd (mR (k + 28 * rw + 1)) (FP.dmul 4602678819172646912 (fz_sMg lim dR mR (k + 28 * rw))))))])), (dp, fz_da cD 84 dR), (mp, fz_da cD 84 mR)] H := hP
  have hD : va_D A [(o, .inr (4, [.int thr, .int (nI n), .int (nI kd), .int (nI lim), .int (nI 1), .int (nI ord), .double tm, .int cst, .int cfl, .int crf, .ref dp, .ref mp, .double (fz_sHg lim dR (k + 28 * rw + 1)), .double (fz_sMg lim dR mR (k + 28 * rw + 1)), .double (FP.dadd (dR (k + 28 * rw + 1)) (FP.dmul 4602678819172646912 (fz_sHg lim dR (k + 28 * rw)))), .double (FP.dadd (mR (k + 28 * rw + 1)) (FP.dmul 4602678819172646912 (fz_sMg lim dR mR (k + 28 * rw)))), .double (FP.dsub (dR (k + 28 * rw + 2)) (FP.dmul 4602678819172646912 (fz_sHg lim dR (k + 28 * rw + 1)))), .double (FP.dsub (mR (k + 28 * rw + 2)) (FP.dmul 4602678819172646912 (fz_sMg lim dR mR (k + 28 * rw + 1)))), .double (fz_bld (fz_lesC (FP.dsub (FP.ddiv (FP.dadd (mR (k + 28 * rw + 1)) (FP.dmul 4602678819172646912 (fz_sMg lim dR mR (k + 28 * rw)))) (FP.dadd (dR (k + 28 * rw + 1)) (FP.dmul 4602678819172646912 (fz_sHg lim dR (k + 28 * rw))))) (fz_root (FP.dadd (dR (k + 28 * rw + 1)) (FP.dmul 4602678819172646912 (fz_sHg lim dR (k + 28 * rw)))))) (FP.dsub (FP.ddiv (FP.dsub (mR (k + 28 * rw + 2)) (FP.dmul 4602678819172646912 (fz_sMg lim dR mR (k + 28 * rw + 1)))) (FP.dsub (dR (k + 28 * rw + 2)) (FP.dmul 4602678819172646912 (fz_sHg lim dR (k + 28 * rw + 1))))) (fz_root (FP.dsub (dR (k + 28 * rw + 2)) (FP.dmul 4602678819172646912 (fz_sHg lim dR (k + 28 * rw + 1))))))) (fz_gtrC (FP.dadd (FP.ddiv (FP.dadd (mR (k + 28 * rw + 1)) (FP.dmul 4602678819172646912 (fz_sMg lim dR mR (k + 28 * rw)))) (FP.dadd (dR (k + 28 * rw + 1)) (FP.dmul 4602678819172646912 (fz_sHg lim dR (k + 28 * rw))))) (fz_root (FP.dadd (dR (k + 28 * rw + 1)) (FP.dmul 4602678819172646912 (fz_sHg lim dR (k + 28 * rw)))))) (FP.dadd (FP.ddiv (FP.dsub (mR (k + 28 * rw + 2)) (FP.dmul 4602678819172646912 (fz_sMg lim dR mR (k + 28 * rw + 1)))) (FP.dsub (dR (k + 28 * rw + 2)) (FP.dmul 4602678819172646912 (fz_sHg lim dR (k + 28 * rw + 1))))) (fz_root (FP.dsub (dR (k + 28 * rw + 2)) (FP.dmul 4602678819172646912 (fz_sHg lim dR (k + 28 * rw + 1))))))) (FP.dadd (mR (k + 28 * rw + 1)) (FP.dmul 4602678819172646912 (fz_sMg lim dR mR (k + 28 * rw)))) (FP.dsub (mR (k + 28 * rw + 2)) (FP.dmul 4602678819172646912 (fz_sMg lim dR mR (k + 28 * rw + 1)))) (FP.dsub (FP.dsub (dR (k + 28 * rw + 2)) (FP.dmul 4602678819172646912 (fz_sHg lim dR (k + 28 * rw + 1)))) (FP.dadd (dR (k + 28 * rw + 1)) (FP.dmul 4602678819172646912 (fz_sHg lim dR (k + 28 * rw)))))), .double (fz_bld (fz_lesC (FP.dsub (FP.ddiv (FP.dadd (mR (k + 28 * rw + 1)) (FP.dmul 4602678819172646912 (fz_sMg lim dR mR (k + 28 * rw)))) (FP.dadd (dR (k + 28 * rw + 1)) (FP.dmul 4602678819172646912 (fz_sHg lim dR (k + 28 * rw))))) (fz_root (FP.dadd (dR (k + 28 * rw + 1)) (FP.dmul 4602678819172646912 (fz_sHg lim dR (k + 28 * rw)))))) (FP.dsub (FP.ddiv (FP.dsub (mR (k + 28 * rw + 2)) (FP.dmul 4602678819172646912 (fz_sMg lim dR mR (k + 28 * rw + 1)))) (FP.dsub (dR (k + 28 * rw + 2)) (FP.dmul 4602678819172646912 (fz_sHg lim dR (k + 28 * rw + 1))))) (fz_root (FP.dsub (dR (k + 28 * rw + 2)) (FP.dmul 4602678819172646912 (fz_sHg lim dR (k + 28 * rw + 1))))))) (fz_gtrC (FP.dadd (FP.ddiv (FP.dadd (mR (k + 28 * rw + 1)) (FP.dmul 4602678819172646912 (fz_sMg lim dR mR (k + 28 * rw)))) (FP.dadd (dR (k + 28 * rw + 1)) (FP.dmul 4602678819172646912 (fz_sHg lim dR (k + 28 * rw))))) (fz_root (FP.dadd (dR (k + 28 * rw + 1)) (FP.dmul 4602678819172646912 (fz_sHg lim dR (k + 28 * rw)))))) (FP.dadd (FP.ddiv (FP.dsub (mR (k + 28 * rw + 2)) (FP.dmul 4602678819172646912 (fz_sMg lim dR mR (k + 28 * rw + 1)))) (FP.dsub (dR (k + 28 * rw + 2)) (FP.dmul 4602678819172646912 (fz_sHg lim dR (k + 28 * rw + 1))))) (fz_root (FP.dsub (dR (k + 28 * rw + 2)) (FP.dmul 4602678819172646912 (fz_sHg lim dR (k + 28 * rw + 1))))))) (fz_mflux (FP.dadd (dR (k + 28 * rw + 1)) (FP.dmul 4602678819172646912 (fz_sHg lim dR (k + 28 * rw)))) (FP.dadd (mR (k + 28 * rw + 1)) (FP.dmul 4602678819172646912 (fz_sMg lim dR mR (k + 28 * rw)))) (FP.ddiv (FP.dadd (mR (k + 28 * rw + 1)) (FP.dmul 4602678819172646912 (fz_sMg lim dR mR (k + 28 * rw)))) (FP.dadd (dR (k + 28 * rw + 1)) (FP.dmul 4602678819172646912 (fz_sHg lim dR (k + 28 * rw)))))) (fz_mflux (FP.dsub (dR (k + 28 * rw + 2)) (FP.dmul 4602678819172646912 (fz_sHg lim dR (k + 28 * rw + 1)))) (FP.dsub (mR (k + 28 * rw + 2)) (FP.dmul 4602678819172646912 (fz_sMg lim dR mR (k + 28 * rw + 1)))) (FP.ddiv (FP.dsub (mR (k + 28 * rw + 2)) (FP.dmul 4602678819172646912 (fz_sMg lim dR mR (k + 28 * rw + 1)))) (FP.dsub (dR (k + 28 * rw + 2)) (FP.dmul 4602678819172646912 (fz_sHg lim dR (k + 28 * rw + 1)))))) (FP.dsub (FP.dsub (mR (k + 28 * rw + 2)) (FP.dmul 4602678819172646912 (fz_sMg lim dR mR (k + 28 * rw + 1)))) (FP.dadd (mR (k + 28 * rw + 1)) (FP.dmul 4602678819172646912 (fz_sMg lim dR mR (k + 28 * rw))))))])), (dp, fz_da cD 84 dR), (mp, fz_da cD 84 mR)] := hD
  exact fz_vretE hx hb hr hlocks ⟨fz_sHg lim dR (k + 28 * rw + 1), fz_sMg lim dR mR (k + 28 * rw + 1), FP.dadd (dR (k + 28 * rw + 1)) (FP.dmul 4602678819172646912 (fz_sHg lim dR (k + 28 * rw))), FP.dadd (mR (k + 28 * rw + 1)) (FP.dmul 4602678819172646912 (fz_sMg lim dR mR (k + 28 * rw))), FP.dsub (dR (k + 28 * rw + 2)) (FP.dmul 4602678819172646912 (fz_sHg lim dR (k + 28 * rw + 1))), FP.dsub (mR (k + 28 * rw + 2)) (FP.dmul 4602678819172646912 (fz_sMg lim dR mR (k + 28 * rw + 1))), rfl, by rw [fz_FHi1, fz_FMi1]; rfl⟩ hP hK hD hS dX4_face_328

theorem c_X4_face (l : Launch) (D : va_G) (cD : ClassId) (o dp mp n kd lim sol ord : Nat) (dR mR : Nat → UInt64) (thr : Int32) (tm v0 v1 v2 v3 v4 v5 v6 v7 : UInt64) (cst cfl crf : Int32) (hsol : sol ≤ 1) (rw k : Nat) (hrw : rw ≤ 1) (hk : k ≤ 24) (hlim : lim ≤ 3) (hok : fz_fcOk lim sol dR mR (k + 28 * rw)) : fz_E l D [(cD, .double)] yX4_face wsX4_face ({ frames := 4, cells := 0, slots := 0, locals := 120 }) [.ref o, .int (nI rw), .int (nI k)] [(o, .inr (4, [.int thr, .int (nI n), .int (nI kd), .int (nI lim), .int (nI sol), .int (nI ord), .double tm, .int cst, .int cfl, .int crf, .ref dp, .ref mp, .double v0, .double v1, .double v2, .double v3, .double v4, .double v5, .double v6, .double v7])), (dp, fz_da cD 84 dR), (mp, fz_da cD 84 mR)] (fun ov wo => ∃ (x0 x1 x2 x3 x4 x5 : UInt64), ov = none ∧ wo = [(o, .inr (4, [.int thr, .int (nI n), .int (nI kd), .int (nI lim), .int (nI sol), .int (nI ord), .double tm, .int cst, .int cfl, .int crf, .ref dp, .ref mp, .double x0, .double x1, .double x2, .double x3, .double x4, .double x5, .double (fz_FHi lim sol dR mR (k + 28 * rw)), .double (fz_FMi lim sol dR mR (k + 28 * rw))])), (dp, fz_da cD 84 dR), (mp, fz_da cD 84 mR)]) := by
  rcases (show sol = 0 ∨ sol = 1 by omega) with rfl | rfl
  · exact c_X4_face0 l D cD o dp mp n kd lim ord dR mR thr tm v0 v1 v2 v3 v4 v5 v6 v7 cst cfl crf rw k hrw hk hlim hok
  · exact c_X4_face1 l D cD o dp mp n kd lim ord dR mR thr tm v0 v1 v2 v3 v4 v5 v6 v7 cst cfl crf rw k hrw hk hlim hok
