/-! FlowGridModel: bounded, made -/
def fz_mdOk (kd lim sol ord n : Nat) (most : UInt64) (d m : Nat → UInt64) (tm : UInt64) : Prop := fz_bdOkM d m n most ∧ ∀ j, j < 5 → fz_tryOkM kd lim sol ord n (fz_hv (fz_t0 n most d m) j) d m ∧ vf_n64 (FP.dmul fz_half (fz_hv (fz_t0 n most d m) j)) ∧ vf_n64 (FP.dadd tm (fz_hv (fz_t0 n most d m) j))

theorem c_X4_tried (l : Launch) (D : va_G) (cD : ClassId) (o dp mp n kd lim sol ord : Nat) (dR mR : Nat → UInt64) (thr : Int32) (tm v0 v1 v2 v3 v4 v5 v6 v7 : UInt64) (cst cfl crf : Int32) (t : UInt64) (hn4 : 4 ≤ n) (hn : n ≤ 24) (hkd : kd ≤ 2) (hlim : lim ≤ 3) (hsol : sol ≤ 1) (ho : 1 ≤ ord) (ho2 : ord ≤ 2) (hok : fz_tryOkM kd lim sol ord n t dR mR) : fz_E l D [(cD, .double)] yX4_tried wsX4_tried ({ frames := 6, cells := 0, slots := 0, locals := 195 }) [.ref o, .double t] [(o, .inr (4, [.int thr, .int (nI n), .int (nI kd), .int (nI lim), .int (nI sol), .int (nI ord), .double tm, .int cst, .int cfl, .int crf, .ref dp, .ref mp, .double v0, .double v1, .double v2, .double v3, .double v4, .double v5, .double v6, .double v7])), (dp, fz_da cD 84 dR), (mp, fz_da cD 84 mR)] (fun ov wo => ∃ (dx mx : Nat → UInt64) (x0 x1 x2 x3 x4 x5 x6 x7 : UInt64) (_ : fz_int n dx (if fz_good kd lim sol ord n t dR mR = true then fz_newD kd lim sol ord n t dR mR else dR)) (_ : fz_int n mx (if fz_good kd lim sol ord n t dR mR = true then fz_newM kd lim sol ord n t dR mR else mR)), ov = some (.int (fz_b (fz_good kd lim sol ord n t dR mR))) ∧ wo = [(o, .inr (4, [.int thr, .int (nI n), .int (nI kd), .int (nI lim), .int (nI sol), .int (nI ord), .double tm, .int cst, .int cfl, .int crf, .ref dp, .ref mp, .double x0, .double x1, .double x2, .double x3, .double x4, .double x5, .double x6, .double x7])), (dp, fz_da cD 84 dx), (mp, fz_da cD 84 mx)]) := by
  rcases (show ord = 1 ∨ ord = 2 by omega) with rfl | rfl
  · exact c_X4_tried1 l D cD o dp mp n kd lim sol dR mR thr tm v0 v1 v2 v3 v4 v5 v6 v7 cst cfl crf t hn4 hn hkd hlim hsol hok
  · exact c_X4_tried2 l D cD o dp mp n kd lim sol dR mR thr tm v0 v1 v2 v3 v4 v5 v6 v7 cst cfl crf t hn4 hn hkd hlim hsol hok

set_option maxHeartbeats 4000000 in
set_option maxRecDepth 100000 in
theorem c_X4_bounded (l : Launch) (D : va_G) (cD : ClassId) (o dp mp n kd lim sol ord : Nat) (dR mR : Nat → UInt64) (thr : Int32) (tm v0 v1 v2 v3 v4 v5 v6 v7 : UInt64) (cst cfl crf : Int32) (t : UInt64) (hn : n ≤ 24) (hok : fz_bdOkM dR mR n t) : fz_C l D [(cD, .double)] yX4_bounded wsX4_bounded ({ frames := 2, cells := 0, slots := 0, locals := 60 }) [.ref o, .double t] [(o, .inr (4, [.int thr, .int (nI n), .int (nI kd), .int (nI lim), .int (nI sol), .int (nI ord), .double tm, .int cst, .int cfl, .int crf, .ref dp, .ref mp, .double v0, .double v1, .double v2, .double v3, .double v4, .double v5, .double v6, .double v7])), (dp, fz_da cD 84 dR), (mp, fz_da cD 84 mR)] [(o, .inr (4, [.int thr, .int (nI n), .int (nI kd), .int (nI lim), .int (nI sol), .int (nI ord), .double tm, .int cst, .int cfl, .int crf, .ref dp, .ref mp, .double v0, .double v1, .double v2, .double v3, .double v4, .double v5, .double v6, .double v7])), (dp, fz_da cD 84 dR), (mp, fz_da cD 84 mR)] (some (.double (fz_t0 n t dR mR))) := by
  refine fz_start (cc := cX4_bounded) (maxL := 7) (ret := (some .double)) (by decide) rfl (Nat.le_of_ble_eq_true rfl) ?_
  intro p e s m below meth c A hx hb hr hlocks hml hown hts hK hA hNW H locs hP hD hS ls hl
  have hl : lv_has ls 7 [(0, .ref o), (1, .double t)] := hl
  have hown : s.vm.findClass RX4 = some m.cls := hown
  have hw_fieldLink_RX4_30_FlowGridModel_n_I := hts (.fieldLink RX4 30 "FlowGridModel" "n" "I") (by decide +kernel)
  have hin_X4 : ∀ w ∈ u_ws RX4 TX4 20, w ∈ wsX4_bounded := by decide +kernel
  have hw_constantDouble_RX4_145_4600877379321698714 := hts (.constantDouble RX4 145 (4600877379321698714)) (by decide +kernel)
  have hw_fieldLink_RX4_7_FlowGridModel_depth_D := hts (.fieldLink RX4 7 "FlowGridModel" "depth" "[D") (by decide +kernel)
  have hw_fieldLink_RX4_13_FlowGridModel_momentum_D := hts (.fieldLink RX4 13 "FlowGridModel" "momentum" "[D") (by decide +kernel)
  refine lv_dconst0 hx hb dX4_bounded_0 ?_
  refine lv_dstore_n (lv' := [(3, .double FP.dconst0), (0, .ref o), (1, .double t)]) hx hb dX4_bounded_1 rfl hl (by decide) rfl (fun ls hl => ?_)
  refine lv_iconst (v := nI 2) hx hb dX4_bounded_2 (by decide) ?_
  refine lv_istore (lv' := [(5, .int (nI 2)), (3, .double FP.dconst0), (0, .ref o), (1, .double t)]) hx hb dX4_bounded_3 hl (by decide) rfl (fun ls hl => ?_)
  have loop5 : ∀ (it k : Nat), k ≤ n → n < k + it → ∀ (H : Heap) (locs : List Loc) (ls : Array Slot), va_P D vwCl [(o, .inr (4, [.int thr, .int (nI n), .int (nI kd), .int (nI lim), .int (nI sol), .int (nI ord), .double tm, .int cst, .int cfl, .int crf, .ref dp, .ref mp, .double v0, .double v1, .double v2, .double v3, .double v4, .double v5, .double v6, .double v7])), (dp, fz_da cD 84 dR), (mp, fz_da cD 84 mR)] H → va_D A [(o, .inr (4, [.int thr, .int (nI n), .int (nI kd), .int (nI lim), .int (nI sol), .int (nI ord), .double tm, .int cst, .int cfl, .int crf, .ref dp, .ref mp, .double v0, .double v1, .double v2, .double v3, .double v4, .double v5, .double v6, .double v7])), (dp, fz_da cD 84 dR), (mp, fz_da cD 84 mR)] → va_S A s.heap H locs → lv_has ls 7 [(0, .ref o), (1, .double t), (3, .double (fz_wC dR mR k)), (5, .int (nI (k + 2)))] → W p l e ({ frames := 2, cells := 0, slots := 0, locals := 60 }) s m ([.ref o, .double t] : List Value).toArray below meth c H locs 0 0 (MQ below (fz_O D [(cD, .double)] [(o, .inr (4, [.int thr, .int (nI n), .int (nI kd), .int (nI lim), .int (nI sol), .int (nI ord), .double tm, .int cst, .int cfl, .int crf, .ref dp, .ref mp, .double v0, .double v1, .double v2, .double v3, .double v4, .double v5, .double v6, .double v7])), (dp, fz_da cD 84 dR), (mp, fz_da cD 84 mR)] (some (.double (fz_t0 n t dR mR))) A) ([.ref o, .double t] : List Value).toArray s 0 0 A) (F0 m 5 ls []) := by
    intro it
    induction it with
    | zero => intro k h1 h2; exact absurd h2 (by omega)
    | succ it ih =>
      intro k hkk hnk H locs ls hP hD hS hl
      refine lv_iload hx hb dX4_bounded_5 (lv_at hl 3 rfl) ?_
      refine lv_aload_n hx hb dX4_bounded_7 rfl (lv_at hl 0 rfl) ?_
      refine va_get (D := D) (ci := 4) (v := .int (nI n)) (C := RX4) (T := TX4) (N := 20) hx hb hts hin_X4 hown hK hP 0 rfl rfl 1 (by decide) hw_fieldLink_RX4_30_FlowGridModel_n_I (fun _ h9 => h9) rfl dX4_bounded_8 ?_
      refine lv_iconst (v := nI 2) hx hb dX4_bounded_11 (by decide) ?_
      refine fz_iaddN hx hb dX4_bounded_12 ?_
      refine fz_topn (b := n + 2) (by omega) ?_
      refine fz_icmp_geN (tgt := 44) hx hb (by omega) (by omega) dX4_bounded_13 (by decide) (fun c13 => ?_) (fun c13 => ?_)
      · have hkz : n = k := by omega
        subst hkz
        refine lv_ldc2d hx hb hown hw_constantDouble_RX4_145_4600877379321698714 dX4_bounded_44 ?_
        refine lv_dload_n hx hb dX4_bounded_47 rfl (lv_at hl 2 rfl) ?_
        refine lv_ddiv hx hb dX4_bounded_48 (hok.2.1) ?_
        refine lv_dstore (lv' := [(5, .double (FP.ddiv 4600877379321698714 (fz_wC dR mR n))), (0, .ref o), (1, .double t), (3, .double (fz_wC dR mR n))]) hx hb dX4_bounded_49 hl (by decide) rfl (fun ls hl => ?_)
        refine lv_dload hx hb dX4_bounded_51 (lv_at hl 0 rfl) ?_
        refine lv_dload_n hx hb dX4_bounded_53 rfl (lv_at hl 2 rfl) ?_
        refine fz_dg_ge (tgt := 63) hx hb dX4_bounded_54 dX4_bounded_55 (by decide) (fun c54 => ?_) (fun c54 => ?_)
        · refine lv_dload_n hx hb dX4_bounded_63 rfl (lv_at hl 2 rfl) ?_
          exact fz_dret hx hb hr hlocks (by rw [← hok.2.2]; simp [fz_longM, c54]) hP hK hD hS dX4_bounded_64
        · refine lv_dload hx hb dX4_bounded_58 (lv_at hl 0 rfl) ?_
          refine lv_goto (tgt := 64) hx hb dX4_bounded_60 (by decide) ?_
          exact fz_dret hx hb hr hlocks (by rw [← hok.2.2]; simp [fz_longM, c54]) hP hK hD hS dX4_bounded_64
      · refine lv_dload_n hx hb dX4_bounded_16 rfl (lv_at hl 2 rfl) ?_
        refine lv_aload_n hx hb dX4_bounded_17 rfl (lv_at hl 0 rfl) ?_
        refine va_get (D := D) (ci := 4) (v := .ref dp) (C := RX4) (T := TX4) (N := 20) hx hb hts hin_X4 hown hK hP 0 rfl rfl 10 (by decide) hw_fieldLink_RX4_7_FlowGridModel_depth_D (fun _ h9 => h9) rfl dX4_bounded_18 ?_
        refine lv_iload hx hb dX4_bounded_21 (lv_at hl 3 rfl) ?_
        refine fz_dald (i := k + 2) hx hb hK hP 1 0 rfl rfl (by omega) (by decide) dX4_bounded_23 ?_
        refine lv_aload_n hx hb dX4_bounded_24 rfl (lv_at hl 0 rfl) ?_
        refine va_get (D := D) (ci := 4) (v := .ref mp) (C := RX4) (T := TX4) (N := 20) hx hb hts hin_X4 hown hK hP 0 rfl rfl 11 (by decide) hw_fieldLink_RX4_13_FlowGridModel_momentum_D (fun _ h9 => h9) rfl dX4_bounded_25 ?_
        refine lv_iload hx hb dX4_bounded_28 (lv_at hl 3 rfl) ?_
        refine fz_dald (i := k + 2) hx hb hK hP 2 0 rfl rfl (by omega) (by decide) dX4_bounded_30 ?_
        refine fz_callS (ws' := [(o, .inr (4, [.int thr, .int (nI n), .int (nI kd), .int (nI lim), .int (nI sol), .int (nI ord), .double tm, .int cst, .int cfl, .int crf, .ref dp, .ref mp, .double v0, .double v1, .double v2, .double v3, .double v4, .double v5, .double v6, .double v7])), (dp, fz_da cD 84 dR), (mp, fz_da cD 84 mR)]) (wr := [(o, .inr (4, [.int thr, .int (nI n), .int (nI kd), .int (nI lim), .int (nI sol), .int (nI ord), .double tm, .int cst, .int cfl, .int crf, .ref dp, .ref mp, .double v0, .double v1, .double v2, .double v3, .double v4, .double v5, .double v6, .double v7])), (dp, fz_da cD 84 dR), (mp, fz_da cD 84 mR)]) (As := [.double (dR (k + 2)), .double (mR (k + 2))]) (rest := [.double (fz_wC dR mR k)]) ⟨hx, hb, hml, hown, hts⟩ (c_X4_speed l D cD (dR (k + 2)) (mR (k + 2)) ((hok.1 k (by omega)).1) ((hok.1 k (by omega)).2.1)) (va_cwS 2 hts gX4_bounded_X4_speed rfl rfl rfl (by decide +kernel) ⟨Nat.le_of_ble_eq_true rfl, Nat.le_of_ble_eq_true rfl⟩) hK hNW hP hD hS hA [] [0, 1, 2] [0, 1, 2] rfl rfl rfl rfl (by decide) rfl rfl rfl hl.1 rfl (Nat.le_of_ble_eq_true rfl) dX4_bounded_31 ⟨Nat.zero_le _, Nat.zero_le _⟩ (fun H locs hP hD hS => ?_)
        refine fz_callS (ws' := [(o, .inr (4, [.int thr, .int (nI n), .int (nI kd), .int (nI lim), .int (nI sol), .int (nI ord), .double tm, .int cst, .int cfl, .int crf, .ref dp, .ref mp, .double v0, .double v1, .double v2, .double v3, .double v4, .double v5, .double v6, .double v7])), (dp, fz_da cD 84 dR), (mp, fz_da cD 84 mR)]) (wr := [(o, .inr (4, [.int thr, .int (nI n), .int (nI kd), .int (nI lim), .int (nI sol), .int (nI ord), .double tm, .int cst, .int cfl, .int crf, .ref dp, .ref mp, .double v0, .double v1, .double v2, .double v3, .double v4, .double v5, .double v6, .double v7])), (dp, fz_da cD 84 dR), (mp, fz_da cD 84 mR)]) (As := [.double (fz_wC dR mR k), .double (fz_reach (FP.ddiv (mR (k + 2)) (dR (k + 2))) (fz_root (dR (k + 2))))]) (rest := []) ⟨hx, hb, hml, hown, hts⟩ (c_X4_greater l D cD (fz_wC dR mR k) (fz_reach (FP.ddiv (mR (k + 2)) (dR (k + 2))) (fz_root (dR (k + 2))))) (va_cwS 2 hts gX4_bounded_X4_greater rfl rfl rfl (by decide +kernel) ⟨Nat.le_of_ble_eq_true rfl, Nat.le_of_ble_eq_true rfl⟩) hK hNW hP hD hS hA [] [0, 1, 2] [0, 1, 2] rfl rfl rfl rfl (by decide) rfl rfl rfl hl.1 rfl (Nat.le_of_ble_eq_true rfl) dX4_bounded_34 ⟨Nat.zero_le _, Nat.zero_le _⟩ (fun H locs hP hD hS => ?_)
        refine fz_topdq (y := fz_wC dR mR (k + 1)) (hok.1 k (by omega)).2.2 ?_
        refine lv_dstore_n (lv' := [(3, .double (fz_wC dR mR (k + 1))), (0, .ref o), (1, .double t), (5, .int (nI (k + 2)))]) hx hb dX4_bounded_37 rfl hl (by decide) rfl (fun ls hl => ?_)
        refine lv_iinc (v := nI (k + 3)) (lv' := [(5, .int (nI (k + 3))), (3, .double (fz_wC dR mR (k + 1))), (0, .ref o), (1, .double t)]) hx hb dX4_bounded_38 hl (k := 3) rfl (nI_1 _) (by decide) rfl (fun ls hl => ?_)
        refine lv_goto (tgt := 5) hx hb dX4_bounded_41 (by decide) ?_
        exact ih (k + 1) (by omega) (by omega) H locs ls (hP) (hD) hS (lv_sub hl [2, 3, 1, 0] rfl)
  exact loop5 (n + 1) 0 (by omega) (by omega) H locs ls (hP) (hD) hS (lv_sub hl [2, 3, 1, 0] rfl)

set_option maxHeartbeats 4000000 in
set_option maxRecDepth 100000 in
theorem c_X4_made (l : Launch) (D : va_G) (cD : ClassId) (o dp mp n kd lim sol ord : Nat) (dR mR : Nat → UInt64) (thr : Int32) (tm v0 v1 v2 v3 v4 v5 v6 v7 : UInt64) (cst cfl crf : Int32) (t : UInt64) (hn4 : 4 ≤ n) (hn : n ≤ 24) (hkd : kd ≤ 2) (hlim : lim ≤ 3) (hsol : sol ≤ 1) (ho : 1 ≤ ord) (ho2 : ord ≤ 2) (hok : fz_mdOk kd lim sol ord n t dR mR tm) (K : Nat) (hK5 : K < 5) (hbad : ∀ j, j < K → fz_good kd lim sol ord n (fz_hv (fz_t0 n t dR mR) j) dR mR = false) (hgood : fz_good kd lim sol ord n (fz_hv (fz_t0 n t dR mR) K) dR mR = true) : fz_E l D [(cD, .double)] yX4_made wsX4_made ({ frames := 7, cells := 0, slots := 0, locals := 220 }) [.ref o, .double t] [(o, .inr (4, [.int thr, .int (nI n), .int (nI kd), .int (nI lim), .int (nI sol), .int (nI ord), .double tm, .int cst, .int cfl, .int crf, .ref dp, .ref mp, .double v0, .double v1, .double v2, .double v3, .double v4, .double v5, .double v6, .double v7])), (dp, fz_da cD 84 dR), (mp, fz_da cD 84 mR)] (fun ov wo => ∃ (dx mx : Nat → UInt64) (x0 x1 x2 x3 x4 x5 x6 x7 : UInt64) (_ : fz_int n dx (fz_newD kd lim sol ord n (fz_hv (fz_t0 n t dR mR) K) dR mR)) (_ : fz_int n mx (fz_newM kd lim sol ord n (fz_hv (fz_t0 n t dR mR) K) dR mR)), ov = some (.double (fz_hv (fz_t0 n t dR mR) K)) ∧ wo = [(o, .inr (4, [.int thr, .int (nI n), .int (nI kd), .int (nI lim), .int (nI sol), .int (nI ord), .double (FP.dadd tm (fz_hv (fz_t0 n t dR mR) K)), .int (cst + nI 1), .int (fz_inc cfl K), .int crf, .ref dp, .ref mp, .double x0, .double x1, .double x2, .double x3, .double x4, .double x5, .double x6, .double x7])), (dp, fz_da cD 84 dx), (mp, fz_da cD 84 mx)]) := by
  refine fz_startE (cc := cX4_made) (maxL := 6) (ret := (some .double)) (by decide) rfl (Nat.le_of_ble_eq_true rfl) ?_
  intro p e s m below meth c A hx hb hr hlocks hml hown hts hK hA hNW H locs hP hD hS ls hl
  have hl : lv_has ls 6 [(0, .ref o), (1, .double t)] := hl
  have hown : s.vm.findClass RX4 = some m.cls := hown
  have hw_fieldLink_RX4_157_FlowGridModel_failed_I := hts (.fieldLink RX4 157 "FlowGridModel" "failed" "I") (by decide +kernel)
  have hin_X4 : ∀ w ∈ u_ws RX4 TX4 20, w ∈ wsX4_made := by decide +kernel
  have hw_constantDouble_RX4_63_4602678819172646912 := hts (.constantDouble RX4 63 (4602678819172646912)) (by decide +kernel)
  have hw_fieldLink_RX4_33_FlowGridModel_time_D := hts (.fieldLink RX4 33 "FlowGridModel" "time" "D") (by decide +kernel)
  have hw_fieldLink_RX4_154_FlowGridModel_steps_I := hts (.fieldLink RX4 154 "FlowGridModel" "steps" "I") (by decide +kernel)
  refine lv_aload_n hx hb dX4_made_0 rfl (lv_at hl 0 rfl) ?_
  refine lv_dload_n hx hb dX4_made_1 rfl (lv_at hl 1 rfl) ?_
  refine fz_callV (ws' := [(o, .inr (4, [.int thr, .int (nI n), .int (nI kd), .int (nI lim), .int (nI sol), .int (nI ord), .double tm, .int cst, .int cfl, .int crf, .ref dp, .ref mp, .double v0, .double v1, .double v2, .double v3, .double v4, .double v5, .double v6, .double v7])), (dp, fz_da cD 84 dR), (mp, fz_da cD 84 mR)]) (wr := []) (As := [.double t]) (rest := []) ⟨hx, hb, hml, hown, hts⟩ (c_X4_bounded l D cD o dp mp n kd lim sol ord dR mR thr tm v0 v1 v2 v3 v4 v5 v6 v7 cst cfl crf t hn (hok.1)) (cwV 1 hts gX4_made_X4_bounded rfl rfl rfl (by decide +kernel) ⟨Nat.le_of_ble_eq_true rfl, Nat.le_of_ble_eq_true rfl⟩) hK hNW hP hD hS hA [0, 1, 2] [] [0, 1, 2] rfl rfl rfl rfl (by decide) rfl rfl (q0 := 0) (ci := 4) rfl rfl rfl rfl hl.1 rfl (Nat.le_of_ble_eq_true rfl) dX4_made_2 ⟨Nat.zero_le _, Nat.zero_le _⟩ (fun H locs hP hD hS => ?_)
  refine lv_dstore_n (lv' := [(3, .double (fz_t0 n t dR mR)), (0, .ref o), (1, .double t)]) hx hb dX4_made_5 rfl hl (by decide) rfl (fun ls hl => ?_)
  refine lv_iconst (v := nI 0) hx hb dX4_made_6 (by decide) ?_
  refine lv_istore (lv' := [(5, .int (nI 0)), (3, .double (fz_t0 n t dR mR)), (0, .ref o), (1, .double t)]) hx hb dX4_made_7 hl (by decide) rfl (fun ls hl => ?_)
  have loop9 : ∀ (it k : Nat), k ≤ K → K < k + it → ∀ (dx mx : Nat → UInt64) (x0 x1 x2 x3 x4 x5 x6 x7 : UInt64), fz_int n dx dR → fz_int n mx mR → ∀ (H : Heap) (locs : List Loc) (ls : Array Slot), va_P D vwCl [(o, .inr (4, [.int thr, .int (nI n), .int (nI kd), .int (nI lim), .int (nI sol), .int (nI ord), .double tm, .int cst, .int (fz_inc cfl k), .int crf, .ref dp, .ref mp, .double x0, .double x1, .double x2, .double x3, .double x4, .double x5, .double x6, .double x7])), (dp, fz_da cD 84 dx), (mp, fz_da cD 84 mx)] H → va_D A [(o, .inr (4, [.int thr, .int (nI n), .int (nI kd), .int (nI lim), .int (nI sol), .int (nI ord), .double tm, .int cst, .int (fz_inc cfl k), .int crf, .ref dp, .ref mp, .double x0, .double x1, .double x2, .double x3, .double x4, .double x5, .double x6, .double x7])), (dp, fz_da cD 84 dx), (mp, fz_da cD 84 mx)] → va_S A s.heap H locs → lv_has ls 6 [(0, .ref o), (1, .double t), (3, .double (fz_hv (fz_t0 n t dR mR) k)), (5, .int (nI k))] → W p l e ({ frames := 7, cells := 0, slots := 0, locals := 220 }) s m ([.ref o, .double t] : List Value).toArray below meth c H locs 0 0 (MQ below (fz_OE D [(cD, .double)] (fun ov wo => ∃ (dx mx : Nat → UInt64) (x0 x1 x2 x3 x4 x5 x6 x7 : UInt64) (_ : fz_int n dx (fz_newD kd lim sol ord n (fz_hv (fz_t0 n t dR mR) K) dR mR)) (_ : fz_int n mx (fz_newM kd lim sol ord n (fz_hv (fz_t0 n t dR mR) K) dR mR)), ov = some (.double (fz_hv (fz_t0 n t dR mR) K)) ∧ wo = [(o, .inr (4, [.int thr, .int (nI n), .int (nI kd), .int (nI lim), .int (nI sol), .int (nI ord), .double (FP.dadd tm (fz_hv (fz_t0 n t dR mR) K)), .int (cst + nI 1), .int (fz_inc cfl K), .int crf, .ref dp, .ref mp, .double x0, .double x1, .double x2, .double x3, .double x4, .double x5, .double x6, .double x7])), (dp, fz_da cD 84 dx), (mp, fz_da cD 84 mx)]) A) ([.ref o, .double t] : List Value).toArray s 0 0 A) (F0 m 9 ls []) := by
    intro it
    induction it with
    | zero => intro k h1 h2; exact absurd h2 (by omega)
    | succ it ih =>
      intro k hkk hnk dx mx x0 x1 x2 x3 x4 x5 x6 x7 hdx hmx H locs ls hP hD hS hl
      refine lv_iload hx hb dX4_made_9 (lv_at hl 3 rfl) ?_
      refine lv_iconst (v := nI 5) hx hb dX4_made_11 (by decide) ?_
      refine fz_icmp_geN (tgt := 67) hx hb (by omega) (by omega) dX4_made_12 (by decide) (fun c12 => absurd c12 (by omega)) (fun c12 => ?_)
      refine lv_aload_n hx hb dX4_made_15 rfl (lv_at hl 0 rfl) ?_
      refine lv_dload_n hx hb dX4_made_16 rfl (lv_at hl 2 rfl) ?_
      refine fz_callVE (wr := []) (As := [.double (fz_hv (fz_t0 n t dR mR) k)]) (rest := []) ⟨hx, hb, hml, hown, hts⟩ (c_X4_tried l D cD o dp mp n kd lim sol ord dx mx thr tm x0 x1 x2 x3 x4 x5 x6 x7 cst (fz_inc cfl k) crf (fz_hv (fz_t0 n t dR mR) k) hn4 hn hkd hlim hsol ho ho2 (fz_tryOkM_cg hn4 hdx hmx (hok.2 k (by omega)).1)) (cwV 1 hts gX4_made_X4_tried rfl rfl rfl (by decide +kernel) ⟨Nat.le_of_ble_eq_true rfl, Nat.le_of_ble_eq_true rfl⟩) hK hNW hP hD hS hA [0, 1, 2] [] rfl rfl rfl rfl (by decide) (q0 := 0) (ci := 4) rfl rfl rfl rfl hl.1 rfl (Nat.le_of_ble_eq_true rfl) dX4_made_17 ⟨Nat.zero_le _, Nat.zero_le _⟩ (fun ov wo hpost H locs hP hD hS => ?_)
      obtain ⟨dy, my, x0, x1, x2, x3, x4, x5, x6, x7, hdy, hmy, rfl, rfl⟩ := hpost
      have hP := hP.sub (ws' := [(o, .inr (4, [.int thr, .int (nI n), .int (nI kd), .int (nI lim), .int (nI sol), .int (nI ord), .double tm, .int cst, .int (fz_inc cfl k), .int crf, .ref dp, .ref mp, .double x0, .double x1, .double x2, .double x3, .double x4, .double x5, .double x6, .double x7])), (dp, fz_da cD 84 dy), (mp, fz_da cD 84 my)]) [0, 1, 2] rfl
      have hD := hD.sub (ws' := [(o, .inr (4, [.int thr, .int (nI n), .int (nI kd), .int (nI lim), .int (nI sol), .int (nI ord), .double tm, .int cst, .int (fz_inc cfl k), .int crf, .ref dp, .ref mp, .double x0, .double x1, .double x2, .double x3, .double x4, .double x5, .double x6, .double x7])), (dp, fz_da cD 84 dy), (mp, fz_da cD 84 my)]) [0, 1, 2] rfl rfl
      refine lv_if_eq (tgt := 45) hx hb dX4_made_20 (by decide) (fun c20 => ?_) (fun c20 => ?_)
      · have hg : fz_good kd lim sol ord n (fz_hv (fz_t0 n t dR mR) k) dR mR = false := by rw [← fz_good_e hn4 hdx hmx]; exact fz_b0.mp c20
        have hkK : k < K := by
          rcases Nat.lt_or_eq_of_le hkk with h | h
          · exact h
          · rw [← h, hg] at hgood; exact absurd hgood Bool.false_ne_true
        rw [fz_b0.mp c20, if_neg Bool.false_ne_true] at hdy hmy
        have hdz := hdy.tr hdx
        have hmz := hmy.tr hmx
        refine lv_aload_n hx hb dX4_made_45 rfl (lv_at hl 0 rfl) ?_
        refine lv_dup hx hb dX4_made_46 rfl ?_
        refine va_get (D := D) (ci := 4) (v := .int (fz_inc cfl k)) (C := RX4) (T := TX4) (N := 20) hx hb hts hin_X4 hown hK hP 0 rfl rfl 8 (by decide) hw_fieldLink_RX4_157_FlowGridModel_failed_I (fun _ h9 => h9) rfl dX4_made_47 ?_
        refine lv_iconst (v := nI 1) hx hb dX4_made_50 (by decide) ?_
        refine lv_iadd hx hb dX4_made_51 ?_
        refine va_put (D := D) (ci := 4) (v := .int ((fz_inc cfl k) + nI 1)) (ty := .int) (C := RX4) (T := TX4) (N := 20) hx hb hts hin_X4 tyX4 tyX4_ok nmX4 hown hK hP hD hS 0 rfl rfl 8 (by decide) hw_fieldLink_RX4_157_FlowGridModel_failed_I (fun _ h9 => h9) rfl (by decide +kernel) rfl rfl (Nat.le_of_ble_eq_true rfl) dX4_made_52 (fun H locs hP hD hS => ?_)
        have hP : va_P D vwCl [(o, .inr (4, [.int thr, .int (nI n), .int (nI kd), .int (nI lim), .int (nI sol), .int (nI ord), .double tm, .int cst, .int ((fz_inc cfl k) + nI 1), .int crf, .ref dp, .ref mp, .double x0, .double x1, .double x2, .double x3, .double x4, .double x5, .double x6, .double x7])), (dp, fz_da cD 84 dy), (mp, fz_da cD 84 my)] H := hP
        have hD : va_D A [(o, .inr (4, [.int thr, .int (nI n), .int (nI kd), .int (nI lim), .int (nI sol), .int (nI ord), .double tm, .int cst, .int ((fz_inc cfl k) + nI 1), .int crf, .ref dp, .ref mp, .double x0, .double x1, .double x2, .double x3, .double x4, .double x5, .double x6, .double x7])), (dp, fz_da cD 84 dy), (mp, fz_da cD 84 my)] := hD
        refine lv_ldc2d hx hb hown hw_constantDouble_RX4_63_4602678819172646912 dX4_made_55 ?_
        refine lv_dload_n hx hb dX4_made_58 rfl (lv_at hl 2 rfl) ?_
        refine lv_dmul hx hb dX4_made_59 ((hok.2 k (by omega)).2.1) ?_
        refine lv_dstore_n (lv' := [(3, .double (FP.dmul 4602678819172646912 (fz_hv (fz_t0 n t dR mR) k))), (0, .ref o), (1, .double t), (5, .int (nI k))]) hx hb dX4_made_60 rfl hl (by decide) rfl (fun ls hl => ?_)
        refine lv_iinc (v := nI (k + 1)) (lv' := [(5, .int (nI (k + 1))), (3, .double (FP.dmul 4602678819172646912 (fz_hv (fz_t0 n t dR mR) k))), (0, .ref o), (1, .double t)]) hx hb dX4_made_61 hl (k := 3) rfl (nI_1 _) (by decide) rfl (fun ls hl => ?_)
        refine lv_goto (tgt := 9) hx hb dX4_made_64 (by decide) ?_
        exact ih (k + 1) (by omega) (by omega) dy my x0 x1 x2 x3 x4 x5 x6 x7 hdz hmz H locs ls (hP) (hD) hS (lv_sub hl [2, 3, 1, 0] rfl)
      · have hg : fz_good kd lim sol ord n (fz_hv (fz_t0 n t dR mR) k) dR mR = true := by rw [← fz_good_e hn4 hdx hmx]; exact fz_b1.mp c20
        have hkK : K = k := by
          rcases Nat.lt_or_eq_of_le hkk with h | h
          · have h2 := hbad k h; rw [hg] at h2; exact absurd h2.symm Bool.false_ne_true
          · exact h.symm
        rw [fz_b1.mp c20, if_pos rfl] at hdy hmy
        have hdz := hdy.tr (fz_newD_e hn4 hdx hmx)
        have hmz := hmy.tr (fz_newM_e hn4 hdx hmx)
        refine lv_aload_n hx hb dX4_made_23 rfl (lv_at hl 0 rfl) ?_
        refine lv_aload_n hx hb dX4_made_24 rfl (lv_at hl 0 rfl) ?_
        refine va_get (D := D) (ci := 4) (v := .double tm) (C := RX4) (T := TX4) (N := 20) hx hb hts hin_X4 hown hK hP 0 rfl rfl 6 (by decide) hw_fieldLink_RX4_33_FlowGridModel_time_D (fun _ h9 => h9) rfl dX4_made_25 ?_
        refine lv_dload_n hx hb dX4_made_28 rfl (lv_at hl 2 rfl) ?_
        refine lv_dadd hx hb dX4_made_29 ((hok.2 k (by omega)).2.2) ?_
        refine va_put (D := D) (ci := 4) (v := .double (FP.dadd tm (fz_hv (fz_t0 n t dR mR) k))) (ty := .double) (C := RX4) (T := TX4) (N := 20) hx hb hts hin_X4 tyX4 tyX4_ok nmX4 hown hK hP hD hS 0 rfl rfl 6 (by decide) hw_fieldLink_RX4_33_FlowGridModel_time_D (fun _ h9 => h9) rfl (by decide +kernel) rfl rfl (Nat.le_of_ble_eq_true rfl) dX4_made_30 (fun H locs hP hD hS => ?_)
        have hP : va_P D vwCl [(o, .inr (4, [.int thr, .int (nI n), .int (nI kd), .int (nI lim), .int (nI sol), .int (nI ord), .double (FP.dadd tm (fz_hv (fz_t0 n t dR mR) k)), .int cst, .int (fz_inc cfl k), .int crf, .ref dp, .ref mp, .double x0, .double x1, .double x2, .double x3, .double x4, .double x5, .double x6, .double x7])), (dp, fz_da cD 84 dy), (mp, fz_da cD 84 my)] H := hP
        have hD : va_D A [(o, .inr (4, [.int thr, .int (nI n), .int (nI kd), .int (nI lim), .int (nI sol), .int (nI ord), .double (FP.dadd tm (fz_hv (fz_t0 n t dR mR) k)), .int cst, .int (fz_inc cfl k), .int crf, .ref dp, .ref mp, .double x0, .double x1, .double x2, .double x3, .double x4, .double x5, .double x6, .double x7])), (dp, fz_da cD 84 dy), (mp, fz_da cD 84 my)] := hD
        refine lv_aload_n hx hb dX4_made_33 rfl (lv_at hl 0 rfl) ?_
        refine lv_dup hx hb dX4_made_34 rfl ?_
        refine va_get (D := D) (ci := 4) (v := .int cst) (C := RX4) (T := TX4) (N := 20) hx hb hts hin_X4 hown hK hP 0 rfl rfl 7 (by decide) hw_fieldLink_RX4_154_FlowGridModel_steps_I (fun _ h9 => h9) rfl dX4_made_35 ?_
        refine lv_iconst (v := nI 1) hx hb dX4_made_38 (by decide) ?_
        refine lv_iadd hx hb dX4_made_39 ?_
        refine va_put (D := D) (ci := 4) (v := .int (cst + nI 1)) (ty := .int) (C := RX4) (T := TX4) (N := 20) hx hb hts hin_X4 tyX4 tyX4_ok nmX4 hown hK hP hD hS 0 rfl rfl 7 (by decide) hw_fieldLink_RX4_154_FlowGridModel_steps_I (fun _ h9 => h9) rfl (by decide +kernel) rfl rfl (Nat.le_of_ble_eq_true rfl) dX4_made_40 (fun H locs hP hD hS => ?_)
        have hP : va_P D vwCl [(o, .inr (4, [.int thr, .int (nI n), .int (nI kd), .int (nI lim), .int (nI sol), .int (nI ord), .double (FP.dadd tm (fz_hv (fz_t0 n t dR mR) k)), .int (cst + nI 1), .int (fz_inc cfl k), .int crf, .ref dp, .ref mp, .double x0, .double x1, .double x2, .double x3, .double x4, .double x5, .double x6, .double x7])), (dp, fz_da cD 84 dy), (mp, fz_da cD 84 my)] H := hP
        have hD : va_D A [(o, .inr (4, [.int thr, .int (nI n), .int (nI kd), .int (nI lim), .int (nI sol), .int (nI ord), .double (FP.dadd tm (fz_hv (fz_t0 n t dR mR) k)), .int (cst + nI 1), .int (fz_inc cfl k), .int crf, .ref dp, .ref mp, .double x0, .double x1, .double x2, .double x3, .double x4, .double x5, .double x6, .double x7])), (dp, fz_da cD 84 dy), (mp, fz_da cD 84 my)] := hD
        refine lv_dload_n hx hb dX4_made_43 rfl (lv_at hl 2 rfl) ?_
        subst hkK
        exact fz_dretE hx hb hr hlocks ⟨dy, my, x0, x1, x2, x3, x4, x5, x6, x7, hdz, hmz, rfl, rfl⟩ hP hK hD hS dX4_made_44
  exact loop9 (K + 1) 0 (by omega) (by omega) dR mR v0 v1 v2 v3 v4 v5 v6 v7 fz_int.rf fz_int.rf H locs ls (hP) (hD) hS (lv_sub hl [2, 3, 1, 0] rfl)

set_option maxHeartbeats 4000000 in
set_option maxRecDepth 100000 in
theorem c_X4_madeR (l : Launch) (D : va_G) (cD : ClassId) (o dp mp n kd lim sol ord : Nat) (dR mR : Nat → UInt64) (thr : Int32) (tm v0 v1 v2 v3 v4 v5 v6 v7 : UInt64) (cst cfl crf : Int32) (t : UInt64) (hn4 : 4 ≤ n) (hn : n ≤ 24) (hkd : kd ≤ 2) (hlim : lim ≤ 3) (hsol : sol ≤ 1) (ho : 1 ≤ ord) (ho2 : ord ≤ 2) (hok : fz_mdOk kd lim sol ord n t dR mR tm) (hbad : ∀ j, j < 5 → fz_good kd lim sol ord n (fz_hv (fz_t0 n t dR mR) j) dR mR = false) : fz_E l D [(cD, .double)] yX4_made wsX4_made ({ frames := 7, cells := 0, slots := 0, locals := 220 }) [.ref o, .double t] [(o, .inr (4, [.int thr, .int (nI n), .int (nI kd), .int (nI lim), .int (nI sol), .int (nI ord), .double tm, .int cst, .int cfl, .int crf, .ref dp, .ref mp, .double v0, .double v1, .double v2, .double v3, .double v4, .double v5, .double v6, .double v7])), (dp, fz_da cD 84 dR), (mp, fz_da cD 84 mR)] (fun ov wo => ∃ (dx mx : Nat → UInt64) (x0 x1 x2 x3 x4 x5 x6 x7 : UInt64) (_ : fz_int n dx (dR)) (_ : fz_int n mx (mR)), ov = some (.double FP.dconst0) ∧ wo = [(o, .inr (4, [.int thr, .int (nI n), .int (nI kd), .int (nI lim), .int (nI sol), .int (nI ord), .double tm, .int cst, .int (fz_inc cfl 5), .int (crf + nI 1), .ref dp, .ref mp, .double x0, .double x1, .double x2, .double x3, .double x4, .double x5, .double x6, .double x7])), (dp, fz_da cD 84 dx), (mp, fz_da cD 84 mx)]) := by
  refine fz_startE (cc := cX4_made) (maxL := 6) (ret := (some .double)) (by decide) rfl (Nat.le_of_ble_eq_true rfl) ?_
  intro p e s m below meth c A hx hb hr hlocks hml hown hts hK hA hNW H locs hP hD hS ls hl
  have hl : lv_has ls 6 [(0, .ref o), (1, .double t)] := hl
  have hown : s.vm.findClass RX4 = some m.cls := hown
  have hw_fieldLink_RX4_160_FlowGridModel_refused_I := hts (.fieldLink RX4 160 "FlowGridModel" "refused" "I") (by decide +kernel)
  have hin_X4 : ∀ w ∈ u_ws RX4 TX4 20, w ∈ wsX4_made := by decide +kernel
  have hw_fieldLink_RX4_157_FlowGridModel_failed_I := hts (.fieldLink RX4 157 "FlowGridModel" "failed" "I") (by decide +kernel)
  have hw_constantDouble_RX4_63_4602678819172646912 := hts (.constantDouble RX4 63 (4602678819172646912)) (by decide +kernel)
  refine lv_aload_n hx hb dX4_made_0 rfl (lv_at hl 0 rfl) ?_
  refine lv_dload_n hx hb dX4_made_1 rfl (lv_at hl 1 rfl) ?_
  refine fz_callV (ws' := [(o, .inr (4, [.int thr, .int (nI n), .int (nI kd), .int (nI lim), .int (nI sol), .int (nI ord), .double tm, .int cst, .int cfl, .int crf, .ref dp, .ref mp, .double v0, .double v1, .double v2, .double v3, .double v4, .double v5, .double v6, .double v7])), (dp, fz_da cD 84 dR), (mp, fz_da cD 84 mR)]) (wr := []) (As := [.double t]) (rest := []) ⟨hx, hb, hml, hown, hts⟩ (c_X4_bounded l D cD o dp mp n kd lim sol ord dR mR thr tm v0 v1 v2 v3 v4 v5 v6 v7 cst cfl crf t hn (hok.1)) (cwV 1 hts gX4_made_X4_bounded rfl rfl rfl (by decide +kernel) ⟨Nat.le_of_ble_eq_true rfl, Nat.le_of_ble_eq_true rfl⟩) hK hNW hP hD hS hA [0, 1, 2] [] [0, 1, 2] rfl rfl rfl rfl (by decide) rfl rfl (q0 := 0) (ci := 4) rfl rfl rfl rfl hl.1 rfl (Nat.le_of_ble_eq_true rfl) dX4_made_2 ⟨Nat.zero_le _, Nat.zero_le _⟩ (fun H locs hP hD hS => ?_)
  refine lv_dstore_n (lv' := [(3, .double (fz_t0 n t dR mR)), (0, .ref o), (1, .double t)]) hx hb dX4_made_5 rfl hl (by decide) rfl (fun ls hl => ?_)
  refine lv_iconst (v := nI 0) hx hb dX4_made_6 (by decide) ?_
  refine lv_istore (lv' := [(5, .int (nI 0)), (3, .double (fz_t0 n t dR mR)), (0, .ref o), (1, .double t)]) hx hb dX4_made_7 hl (by decide) rfl (fun ls hl => ?_)
  have loop9 : ∀ (it k : Nat), k ≤ 5 → 5 < k + it → ∀ (dx mx : Nat → UInt64) (x0 x1 x2 x3 x4 x5 x6 x7 : UInt64), fz_int n dx dR → fz_int n mx mR → ∀ (H : Heap) (locs : List Loc) (ls : Array Slot), va_P D vwCl [(o, .inr (4, [.int thr, .int (nI n), .int (nI kd), .int (nI lim), .int (nI sol), .int (nI ord), .double tm, .int cst, .int (fz_inc cfl k), .int crf, .ref dp, .ref mp, .double x0, .double x1, .double x2, .double x3, .double x4, .double x5, .double x6, .double x7])), (dp, fz_da cD 84 dx), (mp, fz_da cD 84 mx)] H → va_D A [(o, .inr (4, [.int thr, .int (nI n), .int (nI kd), .int (nI lim), .int (nI sol), .int (nI ord), .double tm, .int cst, .int (fz_inc cfl k), .int crf, .ref dp, .ref mp, .double x0, .double x1, .double x2, .double x3, .double x4, .double x5, .double x6, .double x7])), (dp, fz_da cD 84 dx), (mp, fz_da cD 84 mx)] → va_S A s.heap H locs → lv_has ls 6 [(0, .ref o), (1, .double t), (3, .double (fz_hv (fz_t0 n t dR mR) k)), (5, .int (nI k))] → W p l e ({ frames := 7, cells := 0, slots := 0, locals := 220 }) s m ([.ref o, .double t] : List Value).toArray below meth c H locs 0 0 (MQ below (fz_OE D [(cD, .double)] (fun ov wo => ∃ (dx mx : Nat → UInt64) (x0 x1 x2 x3 x4 x5 x6 x7 : UInt64) (_ : fz_int n dx (dR)) (_ : fz_int n mx (mR)), ov = some (.double FP.dconst0) ∧ wo = [(o, .inr (4, [.int thr, .int (nI n), .int (nI kd), .int (nI lim), .int (nI sol), .int (nI ord), .double tm, .int cst, .int (fz_inc cfl 5), .int (crf + nI 1), .ref dp, .ref mp, .double x0, .double x1, .double x2, .double x3, .double x4, .double x5, .double x6, .double x7])), (dp, fz_da cD 84 dx), (mp, fz_da cD 84 mx)]) A) ([.ref o, .double t] : List Value).toArray s 0 0 A) (F0 m 9 ls []) := by
    intro it
    induction it with
    | zero => intro k h1 h2; exact absurd h2 (by omega)
    | succ it ih =>
      intro k hkk hnk dx mx x0 x1 x2 x3 x4 x5 x6 x7 hdx hmx H locs ls hP hD hS hl
      refine lv_iload hx hb dX4_made_9 (lv_at hl 3 rfl) ?_
      refine lv_iconst (v := nI 5) hx hb dX4_made_11 (by decide) ?_
      refine fz_icmp_geN (tgt := 67) hx hb (by omega) (by omega) dX4_made_12 (by decide) (fun c12 => ?_) (fun c12 => ?_)
      · have hkz : 5 = k := by omega
        subst hkz
        refine lv_aload_n hx hb dX4_made_67 rfl (lv_at hl 0 rfl) ?_
        refine lv_dup hx hb dX4_made_68 rfl ?_
        refine va_get (D := D) (ci := 4) (v := .int crf) (C := RX4) (T := TX4) (N := 20) hx hb hts hin_X4 hown hK hP 0 rfl rfl 9 (by decide) hw_fieldLink_RX4_160_FlowGridModel_refused_I (fun _ h9 => h9) rfl dX4_made_69 ?_
        refine lv_iconst (v := nI 1) hx hb dX4_made_72 (by decide) ?_
        refine lv_iadd hx hb dX4_made_73 ?_
        refine va_put (D := D) (ci := 4) (v := .int (crf + nI 1)) (ty := .int) (C := RX4) (T := TX4) (N := 20) hx hb hts hin_X4 tyX4 tyX4_ok nmX4 hown hK hP hD hS 0 rfl rfl 9 (by decide) hw_fieldLink_RX4_160_FlowGridModel_refused_I (fun _ h9 => h9) rfl (by decide +kernel) rfl rfl (Nat.le_of_ble_eq_true rfl) dX4_made_74 (fun H locs hP hD hS => ?_)
        have hP : va_P D vwCl [(o, .inr (4, [.int thr, .int (nI n), .int (nI kd), .int (nI lim), .int (nI sol), .int (nI ord), .double tm, .int cst, .int (fz_inc cfl 5), .int (crf + nI 1), .ref dp, .ref mp, .double x0, .double x1, .double x2, .double x3, .double x4, .double x5, .double x6, .double x7])), (dp, fz_da cD 84 dx), (mp, fz_da cD 84 mx)] H := hP
        have hD : va_D A [(o, .inr (4, [.int thr, .int (nI n), .int (nI kd), .int (nI lim), .int (nI sol), .int (nI ord), .double tm, .int cst, .int (fz_inc cfl 5), .int (crf + nI 1), .ref dp, .ref mp, .double x0, .double x1, .double x2, .double x3, .double x4, .double x5, .double x6, .double x7])), (dp, fz_da cD 84 dx), (mp, fz_da cD 84 mx)] := hD
        refine lv_dconst0 hx hb dX4_made_77 ?_
        exact fz_dretE hx hb hr hlocks ⟨dx, mx, x0, x1, x2, x3, x4, x5, x6, x7, hdx, hmx, rfl, rfl⟩ hP hK hD hS dX4_made_78
      · refine lv_aload_n hx hb dX4_made_15 rfl (lv_at hl 0 rfl) ?_
        refine lv_dload_n hx hb dX4_made_16 rfl (lv_at hl 2 rfl) ?_
        refine fz_callVE (wr := []) (As := [.double (fz_hv (fz_t0 n t dR mR) k)]) (rest := []) ⟨hx, hb, hml, hown, hts⟩ (c_X4_tried l D cD o dp mp n kd lim sol ord dx mx thr tm x0 x1 x2 x3 x4 x5 x6 x7 cst (fz_inc cfl k) crf (fz_hv (fz_t0 n t dR mR) k) hn4 hn hkd hlim hsol ho ho2 (fz_tryOkM_cg hn4 hdx hmx (hok.2 k (by omega)).1)) (cwV 1 hts gX4_made_X4_tried rfl rfl rfl (by decide +kernel) ⟨Nat.le_of_ble_eq_true rfl, Nat.le_of_ble_eq_true rfl⟩) hK hNW hP hD hS hA [0, 1, 2] [] rfl rfl rfl rfl (by decide) (q0 := 0) (ci := 4) rfl rfl rfl rfl hl.1 rfl (Nat.le_of_ble_eq_true rfl) dX4_made_17 ⟨Nat.zero_le _, Nat.zero_le _⟩ (fun ov wo hpost H locs hP hD hS => ?_)
        obtain ⟨dy, my, x0, x1, x2, x3, x4, x5, x6, x7, hdy, hmy, rfl, rfl⟩ := hpost
        have hP := hP.sub (ws' := [(o, .inr (4, [.int thr, .int (nI n), .int (nI kd), .int (nI lim), .int (nI sol), .int (nI ord), .double tm, .int cst, .int (fz_inc cfl k), .int crf, .ref dp, .ref mp, .double x0, .double x1, .double x2, .double x3, .double x4, .double x5, .double x6, .double x7])), (dp, fz_da cD 84 dy), (mp, fz_da cD 84 my)]) [0, 1, 2] rfl
        have hD := hD.sub (ws' := [(o, .inr (4, [.int thr, .int (nI n), .int (nI kd), .int (nI lim), .int (nI sol), .int (nI ord), .double tm, .int cst, .int (fz_inc cfl k), .int crf, .ref dp, .ref mp, .double x0, .double x1, .double x2, .double x3, .double x4, .double x5, .double x6, .double x7])), (dp, fz_da cD 84 dy), (mp, fz_da cD 84 my)]) [0, 1, 2] rfl rfl
        refine lv_if_eq (tgt := 45) hx hb dX4_made_20 (by decide) (fun c20 => ?_) (fun c20 => absurd c20 (fun h => h (fz_b0.mpr (by rw [fz_good_e hn4 hdx hmx]; exact hbad k (by omega)))))
        rw [fz_b0.mp c20, if_neg Bool.false_ne_true] at hdy hmy
        have hdz := hdy.tr hdx
        have hmz := hmy.tr hmx
        refine lv_aload_n hx hb dX4_made_45 rfl (lv_at hl 0 rfl) ?_
        refine lv_dup hx hb dX4_made_46 rfl ?_
        refine va_get (D := D) (ci := 4) (v := .int (fz_inc cfl k)) (C := RX4) (T := TX4) (N := 20) hx hb hts hin_X4 hown hK hP 0 rfl rfl 8 (by decide) hw_fieldLink_RX4_157_FlowGridModel_failed_I (fun _ h9 => h9) rfl dX4_made_47 ?_
        refine lv_iconst (v := nI 1) hx hb dX4_made_50 (by decide) ?_
        refine lv_iadd hx hb dX4_made_51 ?_
        refine va_put (D := D) (ci := 4) (v := .int ((fz_inc cfl k) + nI 1)) (ty := .int) (C := RX4) (T := TX4) (N := 20) hx hb hts hin_X4 tyX4 tyX4_ok nmX4 hown hK hP hD hS 0 rfl rfl 8 (by decide) hw_fieldLink_RX4_157_FlowGridModel_failed_I (fun _ h9 => h9) rfl (by decide +kernel) rfl rfl (Nat.le_of_ble_eq_true rfl) dX4_made_52 (fun H locs hP hD hS => ?_)
        have hP : va_P D vwCl [(o, .inr (4, [.int thr, .int (nI n), .int (nI kd), .int (nI lim), .int (nI sol), .int (nI ord), .double tm, .int cst, .int ((fz_inc cfl k) + nI 1), .int crf, .ref dp, .ref mp, .double x0, .double x1, .double x2, .double x3, .double x4, .double x5, .double x6, .double x7])), (dp, fz_da cD 84 dy), (mp, fz_da cD 84 my)] H := hP
        have hD : va_D A [(o, .inr (4, [.int thr, .int (nI n), .int (nI kd), .int (nI lim), .int (nI sol), .int (nI ord), .double tm, .int cst, .int ((fz_inc cfl k) + nI 1), .int crf, .ref dp, .ref mp, .double x0, .double x1, .double x2, .double x3, .double x4, .double x5, .double x6, .double x7])), (dp, fz_da cD 84 dy), (mp, fz_da cD 84 my)] := hD
        refine lv_ldc2d hx hb hown hw_constantDouble_RX4_63_4602678819172646912 dX4_made_55 ?_
        refine lv_dload_n hx hb dX4_made_58 rfl (lv_at hl 2 rfl) ?_
        refine lv_dmul hx hb dX4_made_59 ((hok.2 k (by omega)).2.1) ?_
        refine lv_dstore_n (lv' := [(3, .double (FP.dmul 4602678819172646912 (fz_hv (fz_t0 n t dR mR) k))), (0, .ref o), (1, .double t), (5, .int (nI k))]) hx hb dX4_made_60 rfl hl (by decide) rfl (fun ls hl => ?_)
        refine lv_iinc (v := nI (k + 1)) (lv' := [(5, .int (nI (k + 1))), (3, .double (FP.dmul 4602678819172646912 (fz_hv (fz_t0 n t dR mR) k))), (0, .ref o), (1, .double t)]) hx hb dX4_made_61 hl (k := 3) rfl (nI_1 _) (by decide) rfl (fun ls hl => ?_)
        refine lv_goto (tgt := 9) hx hb dX4_made_64 (by decide) ?_
        exact ih (k + 1) (by omega) (by omega) dy my x0 x1 x2 x3 x4 x5 x6 x7 hdz hmz H locs ls (hP) (hD) hS (lv_sub hl [2, 3, 1, 0] rfl)
  exact loop9 (5 + 1) 0 (by omega) (by omega) dR mR v0 v1 v2 v3 v4 v5 v6 v7 fz_int.rf fz_int.rf H locs ls (hP) (hD) hS (lv_sub hl [2, 3, 1, 0] rfl)
