/-! FlowGridModel: tried, bounded, made -/
def fz_longM (most w : UInt64) : UInt64 := if fz_lt (FP.ddiv 4600877379321698714 w) most = true then FP.ddiv 4600877379321698714 w else most
def fz_wOkM (d m : Nat → UInt64) (n : Nat) : Prop := ∀ k, k < n → fz_stOk (d (k + 2)) (m (k + 2)) ∧ vf_n64 (fz_reach (FP.ddiv (m (k + 2)) (d (k + 2))) (fz_root (d (k + 2)))) ∧ fz_gtrM (fz_wC d m k) (fz_reach (FP.ddiv (m (k + 2)) (d (k + 2))) (fz_root (d (k + 2)))) = fz_wC d m (k + 1)
def fz_bdOkM (d m : Nat → UInt64) (n : Nat) (most : UInt64) : Prop := fz_wOkM d m n ∧ vf_n64 (FP.ddiv 4600877379321698714 (fz_wC d m n)) ∧ fz_longM most (fz_wC d m n) = fz_t0 n most d m
theorem fz_wOkM_cg {n : Nat} {d d' m m' : Nat → UInt64} (h : fz_int n d d') (g : fz_int n m m') (ok : fz_wOkM d' m' n) : fz_wOkM d m n := fun k hk => by
  have := ok k hk
  rw [h k hk, g k hk, fz_wC_e h g k (by omega), fz_wC_e h g (k + 1) (by omega)]
  exact this
theorem fz_bdOkM_cg {n : Nat} {most : UInt64} {d d' m m' : Nat → UInt64} (h : fz_int n d d') (g : fz_int n m m') (ok : fz_bdOkM d' m' n most) : fz_bdOkM d m n most := by
  refine ⟨fz_wOkM_cg h g ok.1, ?_, ?_⟩
  · rw [fz_wC_e h g n (Nat.le_refl n)]; exact ok.2.1
  · rw [fz_wC_e h g n (Nat.le_refl n), fz_t0_e h g]; exact ok.2.2

set_option maxHeartbeats 4000000 in
set_option maxRecDepth 100000 in
theorem c_X4_tried1 (l : Launch) (D : va_G) (cD : ClassId) (o dp mp n kd lim sol : Nat) (dR mR : Nat → UInt64) (thr : Int32) (tm v0 v1 v2 v3 v4 v5 v6 v7 : UInt64) (cst cfl crf : Int32) (t : UInt64) (hn4 : 4 ≤ n) (hn : n ≤ 24) (hkd : kd ≤ 2) (hlim : lim ≤ 3) (hsol : sol ≤ 1) (hok : fz_tryOkM kd lim sol 1 n t dR mR) : fz_E l D [(cD, .double)] yX4_tried wsX4_tried ({ frames := 6, cells := 0, slots := 0, locals := 195 }) [.ref o, .double t] [(o, .inr (4, [.int thr, .int (nI n), .int (nI kd), .int (nI lim), .int (nI sol), .int (nI 1), .double tm, .int cst, .int cfl, .int crf, .ref dp, .ref mp, .double v0, .double v1, .double v2, .double v3, .double v4, .double v5, .double v6, .double v7])), (dp, fz_da cD 84 dR), (mp, fz_da cD 84 mR)] (fun ov wo => ∃ (dx mx : Nat → UInt64) (x0 x1 x2 x3 x4 x5 x6 x7 : UInt64) (_ : fz_int n dx (if fz_good kd lim sol 1 n t dR mR = true then fz_newD kd lim sol 1 n t dR mR else dR)) (_ : fz_int n mx (if fz_good kd lim sol 1 n t dR mR = true then fz_newM kd lim sol 1 n t dR mR else mR)), ov = some (.int (fz_b (fz_good kd lim sol 1 n t dR mR))) ∧ wo = [(o, .inr (4, [.int thr, .int (nI n), .int (nI kd), .int (nI lim), .int (nI sol), .int (nI 1), .double tm, .int cst, .int cfl, .int crf, .ref dp, .ref mp, .double x0, .double x1, .double x2, .double x3, .double x4, .double x5, .double x6, .double x7])), (dp, fz_da cD 84 dx), (mp, fz_da cD 84 mx)]) := by
  refine fz_startE (cc := cX4_tried) (maxL := 4) (ret := (some .boolean)) (by decide) rfl (Nat.le_of_ble_eq_true rfl) ?_
  intro p e s m below meth c A hx hb hr hlocks hml hown hts hK hA hNW H locs hP hD hS ls hl
  have hl : lv_has ls 4 [(0, .ref o), (1, .double t)] := hl
  have hown : s.vm.findClass RX4 = some m.cls := hown
  have hw_fieldLink_RX4_24_FlowGridModel_order_I := hts (.fieldLink RX4 24 "FlowGridModel" "order" "I") (by decide +kernel)
  have hin_X4 : ∀ w ∈ u_ws RX4 TX4 20, w ∈ wsX4_tried := by decide +kernel
  have hw_fieldLink_RX4_30_FlowGridModel_n_I := hts (.fieldLink RX4 30 "FlowGridModel" "n" "I") (by decide +kernel)
  have hw_fieldLink_RX4_7_FlowGridModel_depth_D := hts (.fieldLink RX4 7 "FlowGridModel" "depth" "[D") (by decide +kernel)
  have hw_fieldLink_RX4_13_FlowGridModel_momentum_D := hts (.fieldLink RX4 13 "FlowGridModel" "momentum" "[D") (by decide +kernel)
  refine lv_aload_n hx hb dX4_tried_0 rfl (lv_at hl 0 rfl) ?_
  refine lv_iconst (v := nI 0) hx hb dX4_tried_1 (by decide) ?_
  refine lv_iconst (v := nI 1) hx hb dX4_tried_2 (by decide) ?_
  refine lv_dload_n hx hb dX4_tried_3 rfl (lv_at hl 1 rfl) ?_
  refine fz_callVE (wr := []) (As := [.int (nI 0), .int (nI 1), .double t]) (rest := []) ⟨hx, hb, hml, hown, hts⟩ (c_X4_stage0 l D cD o dp mp n kd lim sol 1 dR mR thr tm v0 v1 v2 v3 v4 v5 v6 v7 cst cfl crf t hn4 hn hkd hlim hsol (hok.1)) (cwV 3 hts gX4_tried_X4_stage rfl rfl rfl (by decide +kernel) ⟨Nat.le_of_ble_eq_true rfl, Nat.le_of_ble_eq_true rfl⟩) hK hNW hP hD hS hA [0, 1, 2] [] rfl rfl rfl rfl (by decide) (q0 := 0) (ci := 4) rfl rfl rfl rfl hl.1 rfl (Nat.le_of_ble_eq_true rfl) dX4_tried_4 ⟨Nat.zero_le _, Nat.zero_le _⟩ (fun ov wo hpost H locs hP hD hS => ?_)
  obtain ⟨x0, x1, x2, x3, x4, x5, x6, x7, rfl, rfl⟩ := hpost
  have hP := hP.sub (ws' := [(o, .inr (4, [.int thr, .int (nI n), .int (nI kd), .int (nI lim), .int (nI sol), .int (nI 1), .double tm, .int cst, .int cfl, .int crf, .ref dp, .ref mp, .double x0, .double x1, .double x2, .double x3, .double x4, .double x5, .double x6, .double x7])), (dp, fz_da cD 84 (fz_pre 30 n (fz_mvG t (fz_ends kd false n (fz_row dR 0)) (fz_FHi lim sol (fz_ends kd false n (fz_row dR 0)) (fz_ends kd true n (fz_row mR 0)))) (fz_put 0 dR (fz_ends kd false n (fz_row dR 0))))), (mp, fz_da cD 84 (fz_pre 30 n (fz_mvG t (fz_ends kd true n (fz_row mR 0)) (fz_FMi lim sol (fz_ends kd false n (fz_row dR 0)) (fz_ends kd true n (fz_row mR 0)))) (fz_put 0 mR (fz_ends kd true n (fz_row mR 0)))))]) [0, 1, 2] rfl
  have hD := hD.sub (ws' := [(o, .inr (4, [.int thr, .int (nI n), .int (nI kd), .int (nI lim), .int (nI sol), .int (nI 1), .double tm, .int cst, .int cfl, .int crf, .ref dp, .ref mp, .double x0, .double x1, .double x2, .double x3, .double x4, .double x5, .double x6, .double x7])), (dp, fz_da cD 84 (fz_pre 30 n (fz_mvG t (fz_ends kd false n (fz_row dR 0)) (fz_FHi lim sol (fz_ends kd false n (fz_row dR 0)) (fz_ends kd true n (fz_row mR 0)))) (fz_put 0 dR (fz_ends kd false n (fz_row dR 0))))), (mp, fz_da cD 84 (fz_pre 30 n (fz_mvG t (fz_ends kd true n (fz_row mR 0)) (fz_FMi lim sol (fz_ends kd false n (fz_row dR 0)) (fz_ends kd true n (fz_row mR 0)))) (fz_put 0 mR (fz_ends kd true n (fz_row mR 0)))))]) [0, 1, 2] rfl rfl
  refine lv_if_ne (tgt := 12) hx hb dX4_tried_7 (by decide) (fun c7 => ?_) (fun c7 => ?_)
  · have hb1 : fz_anyBad (fz_stD kd lim sol n t dR mR) (fz_stM kd lim sol n t dR mR) n = false := fz_nbn1.mp c7
    refine lv_aload_n hx hb dX4_tried_12 rfl (lv_at hl 0 rfl) ?_
    refine va_get (D := D) (ci := 4) (v := .int (nI 1)) (C := RX4) (T := TX4) (N := 20) hx hb hts hin_X4 hown hK hP 0 rfl rfl 5 (by decide) hw_fieldLink_RX4_24_FlowGridModel_order_I (fun _ h9 => h9) rfl dX4_tried_13 ?_
    refine lv_iconst (v := nI 2) hx hb dX4_tried_16 (by decide) ?_
    refine fz_icmp_neN (tgt := 32) hx hb (by omega) (by omega) dX4_tried_17 (by decide) (fun c17 => ?_) (fun c17 => absurd c17 (by decide))
    obtain ⟨fD, eD⟩ : ∃ z : Nat → UInt64, z = fz_pre 30 n (fz_mvG t (fz_ends kd false n (fz_row dR 0)) (fz_FHi lim sol (fz_ends kd false n (fz_row dR 0)) (fz_ends kd true n (fz_row mR 0)))) (fz_put 0 dR (fz_ends kd false n (fz_row dR 0))) := ⟨_, rfl⟩
    obtain ⟨fM, eM⟩ : ∃ z : Nat → UInt64, z = fz_pre 30 n (fz_mvG t (fz_ends kd true n (fz_row mR 0)) (fz_FMi lim sol (fz_ends kd false n (fz_row dR 0)) (fz_ends kd true n (fz_row mR 0)))) (fz_put 0 mR (fz_ends kd true n (fz_row mR 0))) := ⟨_, rfl⟩
    rw [← eD, ← eM] at hP hD
    have hP : va_P D vwCl [(o, .inr (4, [.int thr, .int (nI n), .int (nI kd), .int (nI lim), .int (nI sol), .int (nI 1), .double tm, .int cst, .int cfl, .int crf, .ref dp, .ref mp, .double x0, .double x1, .double x2, .double x3, .double x4, .double x5, .double x6, .double x7])), (dp, fz_da cD 84 fD), (mp, fz_da cD 84 fM)] H := hP
    have hD : va_D A [(o, .inr (4, [.int thr, .int (nI n), .int (nI kd), .int (nI lim), .int (nI sol), .int (nI 1), .double tm, .int cst, .int cfl, .int crf, .ref dp, .ref mp, .double x0, .double x1, .double x2, .double x3, .double x4, .double x5, .double x6, .double x7])), (dp, fz_da cD 84 fD), (mp, fz_da cD 84 fM)] := hD
    have iD : ∀ j, j < n → fD (j + 30) = fz_newD kd lim sol 1 n t dR mR (j + 2) := fun j hj => by rw [eD]; exact fz_rfD hn j hj
    have iM : ∀ j, j < n → fM (j + 30) = fz_newM kd lim sol 1 n t dR mR (j + 2) := fun j hj => by rw [eM]; exact fz_rfM hn j hj
    refine lv_iconst (v := nI 2) hx hb dX4_tried_32 (by decide) ?_
    refine lv_istore_n (lv' := [(3, .int (nI 2)), (0, .ref o), (1, .double t)]) hx hb dX4_tried_33 rfl hl (by decide) rfl (fun ls hl => ?_)
    have loop34 : ∀ (it k : Nat), k ≤ n → n < k + it → ∀ (H : Heap) (locs : List Loc) (ls : Array Slot), va_P D vwCl [(o, .inr (4, [.int thr, .int (nI n), .int (nI kd), .int (nI lim), .int (nI sol), .int (nI 1), .double tm, .int cst, .int cfl, .int crf, .ref dp, .ref mp, .double x0, .double x1, .double x2, .double x3, .double x4, .double x5, .double x6, .double x7])), (dp, fz_da cD 84 (fz_pre 2 k (fun j => fD (j + 30)) fD)), (mp, fz_da cD 84 (fz_pre 2 k (fun j => fM (j + 30)) fM))] H → va_D A [(o, .inr (4, [.int thr, .int (nI n), .int (nI kd), .int (nI lim), .int (nI sol), .int (nI 1), .double tm, .int cst, .int cfl, .int crf, .ref dp, .ref mp, .double x0, .double x1, .double x2, .double x3, .double x4, .double x5, .double x6, .double x7])), (dp, fz_da cD 84 (fz_pre 2 k (fun j => fD (j + 30)) fD)), (mp, fz_da cD 84 (fz_pre 2 k (fun j => fM (j + 30)) fM))] → va_S A s.heap H locs → lv_has ls 4 [(0, .ref o), (1, .double t), (3, .int (nI (k + 2)))] → W p l e ({ frames := 6, cells := 0, slots := 0, locals := 195 }) s m ([.ref o, .double t] : List Value).toArray below meth c H locs 0 0 (MQ below (fz_OE D [(cD, .double)] (fun ov wo => ∃ (dx mx : Nat → UInt64) (x0 x1 x2 x3 x4 x5 x6 x7 : UInt64) (_ : fz_int n dx (if fz_good kd lim sol 1 n t dR mR = true then fz_newD kd lim sol 1 n t dR mR else dR)) (_ : fz_int n mx (if fz_good kd lim sol 1 n t dR mR = true then fz_newM kd lim sol 1 n t dR mR else mR)), ov = some (.int (fz_b (fz_good kd lim sol 1 n t dR mR))) ∧ wo = [(o, .inr (4, [.int thr, .int (nI n), .int (nI kd), .int (nI lim), .int (nI sol), .int (nI 1), .double tm, .int cst, .int cfl, .int crf, .ref dp, .ref mp, .double x0, .double x1, .double x2, .double x3, .double x4, .double x5, .double x6, .double x7])), (dp, fz_da cD 84 dx), (mp, fz_da cD 84 mx)]) A) ([.ref o, .double t] : List Value).toArray s 0 0 A) (F0 m 34 ls []) := by
      intro it
      induction it with
      | zero => intro k h1 h2; exact absurd h2 (by omega)
      | succ it ih =>
        intro k hkk hnk H locs ls hP hD hS hl
        refine lv_iload_n hx hb dX4_tried_34 rfl (lv_at hl 2 rfl) ?_
        refine lv_aload_n hx hb dX4_tried_35 rfl (lv_at hl 0 rfl) ?_
        refine va_get (D := D) (ci := 4) (v := .int (nI n)) (C := RX4) (T := TX4) (N := 20) hx hb hts hin_X4 hown hK hP 0 rfl rfl 1 (by decide) hw_fieldLink_RX4_30_FlowGridModel_n_I (fun _ h9 => h9) rfl dX4_tried_36 ?_
        refine lv_iconst (v := nI 2) hx hb dX4_tried_39 (by decide) ?_
        refine fz_iaddN hx hb dX4_tried_40 ?_
        refine fz_topn (b := n + 2) (by omega) ?_
        refine fz_icmp_geN (tgt := 142) hx hb (by omega) (by omega) dX4_tried_41 (by decide) (fun c41 => ?_) (fun c41 => ?_)
        · refine lv_iconst (v := nI 1) hx hb dX4_tried_142 (by decide) ?_
          have hkz : n = k := by omega
          subst hkz
          have eG : fz_good kd lim sol 1 n t dR mR = true := by simp [fz_good, hb1]
          exact fz_zretE hx hb hr hlocks rfl ⟨_, _, x0, x1, x2, x3, x4, x5, x6, x7, by rw [eG]; exact fun j hj => by rw [if_pos rfl, fz_pre_in _ _ hj]; exact iD j hj, by rw [eG]; exact fun j hj => by rw [if_pos rfl, fz_pre_in _ _ hj]; exact iM j hj, by rw [eG]; rfl, rfl⟩ hP hK hD hS dX4_tried_143
        · refine lv_aload_n hx hb dX4_tried_44 rfl (lv_at hl 0 rfl) ?_
          refine va_get (D := D) (ci := 4) (v := .ref dp) (C := RX4) (T := TX4) (N := 20) hx hb hts hin_X4 hown hK hP 0 rfl rfl 10 (by decide) hw_fieldLink_RX4_7_FlowGridModel_depth_D (fun _ h9 => h9) rfl dX4_tried_45 ?_
          refine lv_iload_n hx hb dX4_tried_48 rfl (lv_at hl 2 rfl) ?_
          refine lv_aload_n hx hb dX4_tried_49 rfl (lv_at hl 0 rfl) ?_
          refine va_get (D := D) (ci := 4) (v := .int (nI 1)) (C := RX4) (T := TX4) (N := 20) hx hb hts hin_X4 hown hK hP 0 rfl rfl 5 (by decide) hw_fieldLink_RX4_24_FlowGridModel_order_I (fun _ h9 => h9) rfl dX4_tried_50 ?_
          refine lv_iconst (v := nI 1) hx hb dX4_tried_53 (by decide) ?_
          refine fz_icmp_neN (tgt := 69) hx hb (by omega) (by omega) dX4_tried_54 (by decide) (fun c54 => absurd c54 (by decide)) (fun c54 => ?_)
          refine lv_aload_n hx hb dX4_tried_57 rfl (lv_at hl 0 rfl) ?_
          refine va_get (D := D) (ci := 4) (v := .ref dp) (C := RX4) (T := TX4) (N := 20) hx hb hts hin_X4 hown hK hP 0 rfl rfl 10 (by decide) hw_fieldLink_RX4_7_FlowGridModel_depth_D (fun _ h9 => h9) rfl dX4_tried_58 ?_
          refine lv_bipush (v := nI 28) hx hb dX4_tried_61 (by decide) ?_
          refine lv_iload_n hx hb dX4_tried_63 rfl (lv_at hl 2 rfl) ?_
          refine fz_iaddN hx hb dX4_tried_64 ?_
          refine fz_topn (b := k + 30) (by omega) ?_
          refine fz_dald (i := k + 30) hx hb hK hP 1 0 rfl rfl (by omega) (by decide) dX4_tried_65 ?_
          refine fz_topdq (y := fD (k + 30)) (fz_pre_at _ _ (by omega)) ?_
          refine lv_goto (tgt := 89) hx hb dX4_tried_66 (by decide) ?_
          refine fz_dast (i := k + 2) hx hb hK hP hD hS 1 0 rfl rfl (by omega) (by decide) dX4_tried_89 (fun H locs hP hD hS => ?_)
          have hP : va_P D vwCl [(o, .inr (4, [.int thr, .int (nI n), .int (nI kd), .int (nI lim), .int (nI sol), .int (nI 1), .double tm, .int cst, .int cfl, .int crf, .ref dp, .ref mp, .double x0, .double x1, .double x2, .double x3, .double x4, .double x5, .double x6, .double x7])), (dp, fz_da cD 84 (vf_upd (fz_pre 2 k (fun j => fD (j + 30)) fD) (k + 2) (fD (k + 30)))), (mp, fz_da cD 84 (fz_pre 2 k (fun j => fM (j + 30)) fM))] H := hP
          have hD : va_D A [(o, .inr (4, [.int thr, .int (nI n), .int (nI kd), .int (nI lim), .int (nI sol), .int (nI 1), .double tm, .int cst, .int cfl, .int crf, .ref dp, .ref mp, .double x0, .double x1, .double x2, .double x3, .double x4, .double x5, .double x6, .double x7])), (dp, fz_da cD 84 (vf_upd (fz_pre 2 k (fun j => fD (j + 30)) fD) (k + 2) (fD (k + 30)))), (mp, fz_da cD 84 (fz_pre 2 k (fun j => fM (j + 30)) fM))] := hD
          have hP : va_P D vwCl [(o, .inr (4, [.int thr, .int (nI n), .int (nI kd), .int (nI lim), .int (nI sol), .int (nI 1), .double tm, .int cst, .int cfl, .int crf, .ref dp, .ref mp, .double x0, .double x1, .double x2, .double x3, .double x4, .double x5, .double x6, .double x7])), (dp, fz_da cD 84 (fz_pre 2 (k + 1) (fun j => fD (j + 30)) fD)), (mp, fz_da cD 84 (fz_pre 2 k (fun j => fM (j + 30)) fM))] H := by rw [← fz_pre_s 2 k (fun j => fD (j + 30)) fD]; exact hP
          have hD : va_D A [(o, .inr (4, [.int thr, .int (nI n), .int (nI kd), .int (nI lim), .int (nI sol), .int (nI 1), .double tm, .int cst, .int cfl, .int crf, .ref dp, .ref mp, .double x0, .double x1, .double x2, .double x3, .double x4, .double x5, .double x6, .double x7])), (dp, fz_da cD 84 (fz_pre 2 (k + 1) (fun j => fD (j + 30)) fD)), (mp, fz_da cD 84 (fz_pre 2 k (fun j => fM (j + 30)) fM))] := by rw [← fz_pre_s 2 k (fun j => fD (j + 30)) fD]; exact hD
          refine lv_aload_n hx hb dX4_tried_90 rfl (lv_at hl 0 rfl) ?_
          refine va_get (D := D) (ci := 4) (v := .ref mp) (C := RX4) (T := TX4) (N := 20) hx hb hts hin_X4 hown hK hP 0 rfl rfl 11 (by decide) hw_fieldLink_RX4_13_FlowGridModel_momentum_D (fun _ h9 => h9) rfl dX4_tried_91 ?_
          refine lv_iload_n hx hb dX4_tried_94 rfl (lv_at hl 2 rfl) ?_
          refine lv_aload_n hx hb dX4_tried_95 rfl (lv_at hl 0 rfl) ?_
          refine va_get (D := D) (ci := 4) (v := .int (nI 1)) (C := RX4) (T := TX4) (N := 20) hx hb hts hin_X4 hown hK hP 0 rfl rfl 5 (by decide) hw_fieldLink_RX4_24_FlowGridModel_order_I (fun _ h9 => h9) rfl dX4_tried_96 ?_
          refine lv_iconst (v := nI 1) hx hb dX4_tried_99 (by decide) ?_
          refine fz_icmp_neN (tgt := 115) hx hb (by omega) (by omega) dX4_tried_100 (by decide) (fun c100 => absurd c100 (by decide)) (fun c100 => ?_)
          refine lv_aload_n hx hb dX4_tried_103 rfl (lv_at hl 0 rfl) ?_
          refine va_get (D := D) (ci := 4) (v := .ref mp) (C := RX4) (T := TX4) (N := 20) hx hb hts hin_X4 hown hK hP 0 rfl rfl 11 (by decide) hw_fieldLink_RX4_13_FlowGridModel_momentum_D (fun _ h9 => h9) rfl dX4_tried_104 ?_
          refine lv_bipush (v := nI 28) hx hb dX4_tried_107 (by decide) ?_
          refine lv_iload_n hx hb dX4_tried_109 rfl (lv_at hl 2 rfl) ?_
          refine fz_iaddN hx hb dX4_tried_110 ?_
          refine fz_topn (b := k + 30) (by omega) ?_
          refine fz_dald (i := k + 30) hx hb hK hP 2 0 rfl rfl (by omega) (by decide) dX4_tried_111 ?_
          refine fz_topdq (y := fM (k + 30)) (fz_pre_at _ _ (by omega)) ?_
          refine lv_goto (tgt := 135) hx hb dX4_tried_112 (by decide) ?_
          refine fz_dast (i := k + 2) hx hb hK hP hD hS 2 0 rfl rfl (by omega) (by decide) dX4_tried_135 (fun H locs hP hD hS => ?_)
          have hP : va_P D vwCl [(o, .inr (4, [.int thr, .int (nI n), .int (nI kd), .int (nI lim), .int (nI sol), .int (nI 1), .double tm, .int cst, .int cfl, .int crf, .ref dp, .ref mp, .double x0, .double x1, .double x2, .double x3, .double x4, .double x5, .double x6, .double x7])), (dp, fz_da cD 84 (fz_pre 2 (k + 1) (fun j => fD (j + 30)) fD)), (mp, fz_da cD 84 (vf_upd (fz_pre 2 k (fun j => fM (j + 30)) fM) (k + 2) (fM (k + 30))))] H := hP
          have hD : va_D A [(o, .inr (4, [.int thr, .int (nI n), .int (nI kd), .int (nI lim), .int (nI sol), .int (nI 1), .double tm, .int cst, .int cfl, .int crf, .ref dp, .ref mp, .double x0, .double x1, .double x2, .double x3, .double x4, .double x5, .double x6, .double x7])), (dp, fz_da cD 84 (fz_pre 2 (k + 1) (fun j => fD (j + 30)) fD)), (mp, fz_da cD 84 (vf_upd (fz_pre 2 k (fun j => fM (j + 30)) fM) (k + 2) (fM (k + 30))))] := hD
          have hP : va_P D vwCl [(o, .inr (4, [.int thr, .int (nI n), .int (nI kd), .int (nI lim), .int (nI sol), .int (nI 1), .double tm, .int cst, .int cfl, .int crf, .ref dp, .ref mp, .double x0, .double x1, .double x2, .double x3, .double x4, .double x5, .double x6, .double x7])), (dp, fz_da cD 84 (fz_pre 2 (k + 1) (fun j => fD (j + 30)) fD)), (mp, fz_da cD 84 (fz_pre 2 (k + 1) (fun j => fM (j + 30)) fM))] H := by rw [← fz_pre_s 2 k (fun j => fM (j + 30)) fM]; exact hP
          have hD : va_D A [(o, .inr (4, [.int thr, .int (nI n), .int (nI kd), .int (nI lim), .int (nI sol), .int (nI 1), .double tm, .int cst, .int cfl, .int crf, .ref dp, .ref mp, .double x0, .double x1, .double x2, .double x3, .double x4, .double x5, .double x6, .double x7])), (dp, fz_da cD 84 (fz_pre 2 (k + 1) (fun j => fD (j + 30)) fD)), (mp, fz_da cD 84 (fz_pre 2 (k + 1) (fun j => fM (j + 30)) fM))] := by rw [← fz_pre_s 2 k (fun j => fM (j + 30)) fM]; exact hD
          refine lv_iinc (v := nI (k + 3)) (lv' := [(3, .int (nI (k + 3))), (0, .ref o), (1, .double t)]) hx hb dX4_tried_136 hl (k := 2) rfl (nI_1 _) (by decide) rfl (fun ls hl => ?_)
          refine lv_goto (tgt := 34) hx hb dX4_tried_139 (by decide) ?_
          exact ih (k + 1) (by omega) (by omega) H locs ls (hP) (hD) hS (lv_sub hl [1, 2, 0] rfl)
    exact loop34 (n + 1) 0 (by omega) (by omega) H locs ls (by rw [fz_pre_0, fz_pre_0]; exact hP) (by rw [fz_pre_0, fz_pre_0]; exact hD) hS (lv_sub hl [1, 2, 0] rfl)
  · refine lv_iconst (v := nI 0) hx hb dX4_tried_10 (by decide) ?_
    have eG : fz_good kd lim sol 1 n t dR mR = false := by
      have hb0 : fz_anyBad (fz_stD kd lim sol n t dR mR) (fz_stM kd lim sol n t dR mR) n = true := fz_nbn.mp c7
      simp [fz_good, hb0]
    exact fz_zretE hx hb hr hlocks rfl ⟨_, _, x0, x1, x2, x3, x4, x5, x6, x7, by rw [eG, if_neg Bool.false_ne_true]; exact fz_rf1 hn, by rw [eG, if_neg Bool.false_ne_true]; exact fz_rf1 hn, by rw [eG]; rfl, rfl⟩ hP hK hD hS dX4_tried_11

set_option maxHeartbeats 4000000 in
set_option maxRecDepth 100000 in
theorem c_X4_tried2 (l : Launch) (D : va_G) (cD : ClassId) (o dp mp n kd lim sol : Nat) (dR mR : Nat → UInt64) (thr : Int32) (tm v0 v1 v2 v3 v4 v5 v6 v7 : UInt64) (cst cfl crf : Int32) (t : UInt64) (hn4 : 4 ≤ n) (hn : n ≤ 24) (hkd : kd ≤ 2) (hlim : lim ≤ 3) (hsol : sol ≤ 1) (hok : fz_tryOkM kd lim sol 2 n t dR mR) : fz_E l D [(cD, .double)] yX4_tried wsX4_tried ({ frames := 6, cells := 0, slots := 0, locals := 195 }) [.ref o, .double t] [(o, .inr (4, [.int thr, .int (nI n), .int (nI kd), .int (nI lim), .int (nI sol), .int (nI 2), .double tm, .int cst, .int cfl, .int crf, .ref dp, .ref mp, .double v0, .double v1, .double v2, .double v3, .double v4, .double v5, .double v6, .double v7])), (dp, fz_da cD 84 dR), (mp, fz_da cD 84 mR)] (fun ov wo => ∃ (dx mx : Nat → UInt64) (x0 x1 x2 x3 x4 x5 x6 x7 : UInt64) (_ : fz_int n dx (if fz_good kd lim sol 2 n t dR mR = true then fz_newD kd lim sol 2 n t dR mR else dR)) (_ : fz_int n mx (if fz_good kd lim sol 2 n t dR mR = true then fz_newM kd lim sol 2 n t dR mR else mR)), ov = some (.int (fz_b (fz_good kd lim sol 2 n t dR mR))) ∧ wo = [(o, .inr (4, [.int thr, .int (nI n), .int (nI kd), .int (nI lim), .int (nI sol), .int (nI 2), .double tm, .int cst, .int cfl, .int crf, .ref dp, .ref mp, .double x0, .double x1, .double x2, .double x3, .double x4, .double x5, .double x6, .double x7])), (dp, fz_da cD 84 dx), (mp, fz_da cD 84 mx)]) := by
  refine fz_startE (cc := cX4_tried) (maxL := 4) (ret := (some .boolean)) (by decide) rfl (Nat.le_of_ble_eq_true rfl) ?_
  intro p e s m below meth c A hx hb hr hlocks hml hown hts hK hA hNW H locs hP hD hS ls hl
  have hl : lv_has ls 4 [(0, .ref o), (1, .double t)] := hl
  have hown : s.vm.findClass RX4 = some m.cls := hown
  have hw_fieldLink_RX4_24_FlowGridModel_order_I := hts (.fieldLink RX4 24 "FlowGridModel" "order" "I") (by decide +kernel)
  have hin_X4 : ∀ w ∈ u_ws RX4 TX4 20, w ∈ wsX4_tried := by decide +kernel
  have hw_fieldLink_RX4_30_FlowGridModel_n_I := hts (.fieldLink RX4 30 "FlowGridModel" "n" "I") (by decide +kernel)
  have hw_fieldLink_RX4_7_FlowGridModel_depth_D := hts (.fieldLink RX4 7 "FlowGridModel" "depth" "[D") (by decide +kernel)
  have hw_constantDouble_RX4_63_4602678819172646912 := hts (.constantDouble RX4 63 (4602678819172646912)) (by decide +kernel)
  have hw_fieldLink_RX4_13_FlowGridModel_momentum_D := hts (.fieldLink RX4 13 "FlowGridModel" "momentum" "[D") (by decide +kernel)
  refine lv_aload_n hx hb dX4_tried_0 rfl (lv_at hl 0 rfl) ?_
  refine lv_iconst (v := nI 0) hx hb dX4_tried_1 (by decide) ?_
  refine lv_iconst (v := nI 1) hx hb dX4_tried_2 (by decide) ?_
  refine lv_dload_n hx hb dX4_tried_3 rfl (lv_at hl 1 rfl) ?_
  refine fz_callVE (wr := []) (As := [.int (nI 0), .int (nI 1), .double t]) (rest := []) ⟨hx, hb, hml, hown, hts⟩ (c_X4_stage0 l D cD o dp mp n kd lim sol 2 dR mR thr tm v0 v1 v2 v3 v4 v5 v6 v7 cst cfl crf t hn4 hn hkd hlim hsol (hok.1)) (cwV 3 hts gX4_tried_X4_stage rfl rfl rfl (by decide +kernel) ⟨Nat.le_of_ble_eq_true rfl, Nat.le_of_ble_eq_true rfl⟩) hK hNW hP hD hS hA [0, 1, 2] [] rfl rfl rfl rfl (by decide) (q0 := 0) (ci := 4) rfl rfl rfl rfl hl.1 rfl (Nat.le_of_ble_eq_true rfl) dX4_tried_4 ⟨Nat.zero_le _, Nat.zero_le _⟩ (fun ov wo hpost H locs hP hD hS => ?_)
  obtain ⟨x0, x1, x2, x3, x4, x5, x6, x7, rfl, rfl⟩ := hpost
  have hP := hP.sub (ws' := [(o, .inr (4, [.int thr, .int (nI n), .int (nI kd), .int (nI lim), .int (nI sol), .int (nI 2), .double tm, .int cst, .int cfl, .int crf, .ref dp, .ref mp, .double x0, .double x1, .double x2, .double x3, .double x4, .double x5, .double x6, .double x7])), (dp, fz_da cD 84 (fz_pre 30 n (fz_mvG t (fz_ends kd false n (fz_row dR 0)) (fz_FHi lim sol (fz_ends kd false n (fz_row dR 0)) (fz_ends kd true n (fz_row mR 0)))) (fz_put 0 dR (fz_ends kd false n (fz_row dR 0))))), (mp, fz_da cD 84 (fz_pre 30 n (fz_mvG t (fz_ends kd true n (fz_row mR 0)) (fz_FMi lim sol (fz_ends kd false n (fz_row dR 0)) (fz_ends kd true n (fz_row mR 0)))) (fz_put 0 mR (fz_ends kd true n (fz_row mR 0)))))]) [0, 1, 2] rfl
  have hD := hD.sub (ws' := [(o, .inr (4, [.int thr, .int (nI n), .int (nI kd), .int (nI lim), .int (nI sol), .int (nI 2), .double tm, .int cst, .int cfl, .int crf, .ref dp, .ref mp, .double x0, .double x1, .double x2, .double x3, .double x4, .double x5, .double x6, .double x7])), (dp, fz_da cD 84 (fz_pre 30 n (fz_mvG t (fz_ends kd false n (fz_row dR 0)) (fz_FHi lim sol (fz_ends kd false n (fz_row dR 0)) (fz_ends kd true n (fz_row mR 0)))) (fz_put 0 dR (fz_ends kd false n (fz_row dR 0))))), (mp, fz_da cD 84 (fz_pre 30 n (fz_mvG t (fz_ends kd true n (fz_row mR 0)) (fz_FMi lim sol (fz_ends kd false n (fz_row dR 0)) (fz_ends kd true n (fz_row mR 0)))) (fz_put 0 mR (fz_ends kd true n (fz_row mR 0)))))]) [0, 1, 2] rfl rfl
  refine lv_if_ne (tgt := 12) hx hb dX4_tried_7 (by decide) (fun c7 => ?_) (fun c7 => ?_)
  · have hb1 : fz_anyBad (fz_stD kd lim sol n t dR mR) (fz_stM kd lim sol n t dR mR) n = false := fz_nbn1.mp c7
    refine lv_aload_n hx hb dX4_tried_12 rfl (lv_at hl 0 rfl) ?_
    refine va_get (D := D) (ci := 4) (v := .int (nI 2)) (C := RX4) (T := TX4) (N := 20) hx hb hts hin_X4 hown hK hP 0 rfl rfl 5 (by decide) hw_fieldLink_RX4_24_FlowGridModel_order_I (fun _ h9 => h9) rfl dX4_tried_13 ?_
    refine lv_iconst (v := nI 2) hx hb dX4_tried_16 (by decide) ?_
    refine fz_icmp_neN (tgt := 32) hx hb (by omega) (by omega) dX4_tried_17 (by decide) (fun c17 => absurd c17 (by decide)) (fun c17 => ?_)
    refine lv_aload_n hx hb dX4_tried_20 rfl (lv_at hl 0 rfl) ?_
    refine lv_iconst (v := nI 1) hx hb dX4_tried_21 (by decide) ?_
    refine lv_iconst (v := nI 2) hx hb dX4_tried_22 (by decide) ?_
    refine lv_dload_n hx hb dX4_tried_23 rfl (lv_at hl 1 rfl) ?_
    refine fz_callVE (wr := []) (As := [.int (nI 1), .int (nI 2), .double t]) (rest := []) ⟨hx, hb, hml, hown, hts⟩ (c_X4_stage1 l D cD o dp mp n kd lim sol 2 (fz_pre 30 n (fz_mvG t (fz_ends kd false n (fz_row dR 0)) (fz_FHi lim sol (fz_ends kd false n (fz_row dR 0)) (fz_ends kd true n (fz_row mR 0)))) (fz_put 0 dR (fz_ends kd false n (fz_row dR 0)))) (fz_pre 30 n (fz_mvG t (fz_ends kd true n (fz_row mR 0)) (fz_FMi lim sol (fz_ends kd false n (fz_row dR 0)) (fz_ends kd true n (fz_row mR 0)))) (fz_put 0 mR (fz_ends kd true n (fz_row mR 0)))) thr tm x0 x1 x2 x3 x4 x5 x6 x7 cst cfl crf t hn4 hn hkd hlim hsol (fz_stgOkM_cg hn4 (fz_rfD hn) (fz_rfM hn) (hok.2 rfl hb1).1)) (cwV 3 hts gX4_tried_X4_stage rfl rfl rfl (by decide +kernel) ⟨Nat.le_of_ble_eq_true rfl, Nat.le_of_ble_eq_true rfl⟩) hK hNW hP hD hS hA [0, 1, 2] [] rfl rfl rfl rfl (by decide) (q0 := 0) (ci := 4) rfl rfl rfl rfl hl.1 rfl (Nat.le_of_ble_eq_true rfl) dX4_tried_24 ⟨Nat.zero_le _, Nat.zero_le _⟩ (fun ov wo hpost H locs hP hD hS => ?_)
    obtain ⟨x0, x1, x2, x3, x4, x5, x6, x7, rfl, rfl⟩ := hpost
    have hP := hP.sub (ws' := [(o, .inr (4, [.int thr, .int (nI n), .int (nI kd), .int (nI lim), .int (nI sol), .int (nI 2), .double tm, .int cst, .int cfl, .int crf, .ref dp, .ref mp, .double x0, .double x1, .double x2, .double x3, .double x4, .double x5, .double x6, .double x7])), (dp, fz_da cD 84 (fz_pre 58 n (fz_mvG t (fz_ends kd false n (fz_row (fz_pre 30 n (fz_mvG t (fz_ends kd false n (fz_row dR 0)) (fz_FHi lim sol (fz_ends kd false n (fz_row dR 0)) (fz_ends kd true n (fz_row mR 0)))) (fz_put 0 dR (fz_ends kd false n (fz_row dR 0)))) 28)) (fz_FHi lim sol (fz_ends kd false n (fz_row (fz_pre 30 n (fz_mvG t (fz_ends kd false n (fz_row dR 0)) (fz_FHi lim sol (fz_ends kd false n (fz_row dR 0)) (fz_ends kd true n (fz_row mR 0)))) (fz_put 0 dR (fz_ends kd false n (fz_row dR 0)))) 28)) (fz_ends kd true n (fz_row (fz_pre 30 n (fz_mvG t (fz_ends kd true n (fz_row mR 0)) (fz_FMi lim sol (fz_ends kd false n (fz_row dR 0)) (fz_ends kd true n (fz_row mR 0)))) (fz_put 0 mR (fz_ends kd true n (fz_row mR 0)))) 28)))) (fz_put 28 (fz_pre 30 n (fz_mvG t (fz_ends kd false n (fz_row dR 0)) (fz_FHi lim sol (fz_ends kd false n (fz_row dR 0)) (fz_ends kd true n (fz_row mR 0)))) (fz_put 0 dR (fz_ends kd false n (fz_row dR 0)))) (fz_ends kd false n (fz_row (fz_pre 30 n (fz_mvG t (fz_ends kd false n (fz_row dR 0)) (fz_FHi lim sol (fz_ends kd false n (fz_row dR 0)) (fz_ends kd true n (fz_row mR 0)))) (fz_put 0 dR (fz_ends kd false n (fz_row dR 0)))) 28))))), (mp, fz_da cD 84 (fz_pre 58 n (fz_mvG t (fz_ends kd true n (fz_row (fz_pre 30 n (fz_mvG t (fz_ends kd true n (fz_row mR 0)) (fz_FMi lim sol (fz_ends kd false n (fz_row dR 0)) (fz_ends kd true n (fz_row mR 0)))) (fz_put 0 mR (fz_ends kd true n (fz_row mR 0)))) 28)) (fz_FMi lim sol (fz_ends kd false n (fz_row (fz_pre 30 n (fz_mvG t (fz_ends kd false n (fz_row dR 0)) (fz_FHi lim sol (fz_ends kd false n (fz_row dR 0)) (fz_ends kd true n (fz_row mR 0)))) (fz_put 0 dR (fz_ends kd false n (fz_row dR 0)))) 28)) (fz_ends kd true n (fz_row (fz_pre 30 n (fz_mvG t (fz_ends kd true n (fz_row mR 0)) (fz_FMi lim sol (fz_ends kd false n (fz_row dR 0)) (fz_ends kd true n (fz_row mR 0)))) (fz_put 0 mR (fz_ends kd true n (fz_row mR 0)))) 28)))) (fz_put 28 (fz_pre 30 n (fz_mvG t (fz_ends kd true n (fz_row mR 0)) (fz_FMi lim sol (fz_ends kd false n (fz_row dR 0)) (fz_ends kd true n (fz_row mR 0)))) (fz_put 0 mR (fz_ends kd true n (fz_row mR 0)))) (fz_ends kd true n (fz_row (fz_pre 30 n (fz_mvG t (fz_ends kd true n (fz_row mR 0)) (fz_FMi lim sol (fz_ends kd false n (fz_row dR 0)) (fz_ends kd true n (fz_row mR 0)))) (fz_put 0 mR (fz_ends kd true n (fz_row mR 0)))) 28)))))]) [0, 1, 2] rfl
    have hD := hD.sub (ws' := [(o, .inr (4, [.int thr, .int (nI n), .int (nI kd), .int (nI lim), .int (nI sol), .int (nI 2), .double tm, .int cst, .int cfl, .int crf, .ref dp, .ref mp, .double x0, .double x1, .double x2, .double x3, .double x4, .double x5, .double x6, .double x7])), (dp, fz_da cD 84 (fz_pre 58 n (fz_mvG t (fz_ends kd false n (fz_row (fz_pre 30 n (fz_mvG t (fz_ends kd false n (fz_row dR 0)) (fz_FHi lim sol (fz_ends kd false n (fz_row dR 0)) (fz_ends kd true n (fz_row mR 0)))) (fz_put 0 dR (fz_ends kd false n (fz_row dR 0)))) 28)) (fz_FHi lim sol (fz_ends kd false n (fz_row (fz_pre 30 n (fz_mvG t (fz_ends kd false n (fz_row dR 0)) (fz_FHi lim sol (fz_ends kd false n (fz_row dR 0)) (fz_ends kd true n (fz_row mR 0)))) (fz_put 0 dR (fz_ends kd false n (fz_row dR 0)))) 28)) (fz_ends kd true n (fz_row (fz_pre 30 n (fz_mvG t (fz_ends kd true n (fz_row mR 0)) (fz_FMi lim sol (fz_ends kd false n (fz_row dR 0)) (fz_ends kd true n (fz_row mR 0)))) (fz_put 0 mR (fz_ends kd true n (fz_row mR 0)))) 28)))) (fz_put 28 (fz_pre 30 n (fz_mvG t (fz_ends kd false n (fz_row dR 0)) (fz_FHi lim sol (fz_ends kd false n (fz_row dR 0)) (fz_ends kd true n (fz_row mR 0)))) (fz_put 0 dR (fz_ends kd false n (fz_row dR 0)))) (fz_ends kd false n (fz_row (fz_pre 30 n (fz_mvG t (fz_ends kd false n (fz_row dR 0)) (fz_FHi lim sol (fz_ends kd false n (fz_row dR 0)) (fz_ends kd true n (fz_row mR 0)))) (fz_put 0 dR (fz_ends kd false n (fz_row dR 0)))) 28))))), (mp, fz_da cD 84 (fz_pre 58 n (fz_mvG t (fz_ends kd true n (fz_row (fz_pre 30 n (fz_mvG t (fz_ends kd true n (fz_row mR 0)) (fz_FMi lim sol (fz_ends kd false n (fz_row dR 0)) (fz_ends kd true n (fz_row mR 0)))) (fz_put 0 mR (fz_ends kd true n (fz_row mR 0)))) 28)) (fz_FMi lim sol (fz_ends kd false n (fz_row (fz_pre 30 n (fz_mvG t (fz_ends kd false n (fz_row dR 0)) (fz_FHi lim sol (fz_ends kd false n (fz_row dR 0)) (fz_ends kd true n (fz_row mR 0)))) (fz_put 0 dR (fz_ends kd false n (fz_row dR 0)))) 28)) (fz_ends kd true n (fz_row (fz_pre 30 n (fz_mvG t (fz_ends kd true n (fz_row mR 0)) (fz_FMi lim sol (fz_ends kd false n (fz_row dR 0)) (fz_ends kd true n (fz_row mR 0)))) (fz_put 0 mR (fz_ends kd true n (fz_row mR 0)))) 28)))) (fz_put 28 (fz_pre 30 n (fz_mvG t (fz_ends kd true n (fz_row mR 0)) (fz_FMi lim sol (fz_ends kd false n (fz_row dR 0)) (fz_ends kd true n (fz_row mR 0)))) (fz_put 0 mR (fz_ends kd true n (fz_row mR 0)))) (fz_ends kd true n (fz_row (fz_pre 30 n (fz_mvG t (fz_ends kd true n (fz_row mR 0)) (fz_FMi lim sol (fz_ends kd false n (fz_row dR 0)) (fz_ends kd true n (fz_row mR 0)))) (fz_put 0 mR (fz_ends kd true n (fz_row mR 0)))) 28)))))]) [0, 1, 2] rfl rfl
    refine lv_if_ne (tgt := 32) hx hb dX4_tried_27 (by decide) (fun c27 => ?_) (fun c27 => ?_)
    · have hb2 : fz_anyBad (fz_st2D kd lim sol n t dR mR) (fz_st2M kd lim sol n t dR mR) n = false := by
        rw [← fz_anyBad_e (fz_stD_e (kd := kd) (lim := lim) (sol := sol) (t := t) hn4 (fz_rfD hn) (fz_rfM hn)) (fz_stM_e (kd := kd) (lim := lim) (sol := sol) (t := t) hn4 (fz_rfD hn) (fz_rfM hn)) n (Nat.le_refl n)]
        exact fz_nbn1.mp c27
      obtain ⟨fD, eD⟩ : ∃ z : Nat → UInt64, z = fz_pre 58 n (fz_mvG t (fz_ends kd false n (fz_row (fz_pre 30 n (fz_mvG t (fz_ends kd false n (fz_row dR 0)) (fz_FHi lim sol (fz_ends kd false n (fz_row dR 0)) (fz_ends kd true n (fz_row mR 0)))) (fz_put 0 dR (fz_ends kd false n (fz_row dR 0)))) 28)) (fz_FHi lim sol (fz_ends kd false n (fz_row (fz_pre 30 n (fz_mvG t (fz_ends kd false n (fz_row dR 0)) (fz_FHi lim sol (fz_ends kd false n (fz_row dR 0)) (fz_ends kd true n (fz_row mR 0)))) (fz_put 0 dR (fz_ends kd false n (fz_row dR 0)))) 28)) (fz_ends kd true n (fz_row (fz_pre 30 n (fz_mvG t (fz_ends kd true n (fz_row mR 0)) (fz_FMi lim sol (fz_ends kd false n (fz_row dR 0)) (fz_ends kd true n (fz_row mR 0)))) (fz_put 0 mR (fz_ends kd true n (fz_row mR 0)))) 28)))) (fz_put 28 (fz_pre 30 n (fz_mvG t (fz_ends kd false n (fz_row dR 0)) (fz_FHi lim sol (fz_ends kd false n (fz_row dR 0)) (fz_ends kd true n (fz_row mR 0)))) (fz_put 0 dR (fz_ends kd false n (fz_row dR 0)))) (fz_ends kd false n (fz_row (fz_pre 30 n (fz_mvG t (fz_ends kd false n (fz_row dR 0)) (fz_FHi lim sol (fz_ends kd false n (fz_row dR 0)) (fz_ends kd true n (fz_row mR 0)))) (fz_put 0 dR (fz_ends kd false n (fz_row dR 0)))) 28))) := ⟨_, rfl⟩
      obtain ⟨fM, eM⟩ : ∃ z : Nat → UInt64, z = fz_pre 58 n (fz_mvG t (fz_ends kd true n (fz_row (fz_pre 30 n (fz_mvG t (fz_ends kd true n (fz_row mR 0)) (fz_FMi lim sol (fz_ends kd false n (fz_row dR 0)) (fz_ends kd true n (fz_row mR 0)))) (fz_put 0 mR (fz_ends kd true n (fz_row mR 0)))) 28)) (fz_FMi lim sol (fz_ends kd false n (fz_row (fz_pre 30 n (fz_mvG t (fz_ends kd false n (fz_row dR 0)) (fz_FHi lim sol (fz_ends kd false n (fz_row dR 0)) (fz_ends kd true n (fz_row mR 0)))) (fz_put 0 dR (fz_ends kd false n (fz_row dR 0)))) 28)) (fz_ends kd true n (fz_row (fz_pre 30 n (fz_mvG t (fz_ends kd true n (fz_row mR 0)) (fz_FMi lim sol (fz_ends kd false n (fz_row dR 0)) (fz_ends kd true n (fz_row mR 0)))) (fz_put 0 mR (fz_ends kd true n (fz_row mR 0)))) 28)))) (fz_put 28 (fz_pre 30 n (fz_mvG t (fz_ends kd true n (fz_row mR 0)) (fz_FMi lim sol (fz_ends kd false n (fz_row dR 0)) (fz_ends kd true n (fz_row mR 0)))) (fz_put 0 mR (fz_ends kd true n (fz_row mR 0)))) (fz_ends kd true n (fz_row (fz_pre 30 n (fz_mvG t (fz_ends kd true n (fz_row mR 0)) (fz_FMi lim sol (fz_ends kd false n (fz_row dR 0)) (fz_ends kd true n (fz_row mR 0)))) (fz_put 0 mR (fz_ends kd true n (fz_row mR 0)))) 28))) := ⟨_, rfl⟩
      rw [← eD, ← eM] at hP hD
      have hP : va_P D vwCl [(o, .inr (4, [.int thr, .int (nI n), .int (nI kd), .int (nI lim), .int (nI sol), .int (nI 2), .double tm, .int cst, .int cfl, .int crf, .ref dp, .ref mp, .double x0, .double x1, .double x2, .double x3, .double x4, .double x5, .double x6, .double x7])), (dp, fz_da cD 84 fD), (mp, fz_da cD 84 fM)] H := hP
      have hD : va_D A [(o, .inr (4, [.int thr, .int (nI n), .int (nI kd), .int (nI lim), .int (nI sol), .int (nI 2), .double tm, .int cst, .int cfl, .int crf, .ref dp, .ref mp, .double x0, .double x1, .double x2, .double x3, .double x4, .double x5, .double x6, .double x7])), (dp, fz_da cD 84 fD), (mp, fz_da cD 84 fM)] := hD
      have r0D : ∀ j, j < n → fD (j + 2) = dR (j + 2) := fun j hj => by rw [eD]; exact fz_rf2 hn (fz_rf1 hn) j hj
      have r2D : ∀ j, j < n → fD (j + 58) = fz_st2D kd lim sol n t dR mR (j + 2) := fun j hj => by
        rw [eD, fz_pre_in (lo := 58) _ _ hj, fz_mvH_e hn4 (fz_rfD hn) (fz_rfM hn) hj]
        unfold fz_st2D fz_stD; rw [fz_pre_in _ _ hj]
      have r0M : ∀ j, j < n → fM (j + 2) = mR (j + 2) := fun j hj => by rw [eM]; exact fz_rf2 hn (fz_rf1 hn) j hj
      have r2M : ∀ j, j < n → fM (j + 58) = fz_st2M kd lim sol n t dR mR (j + 2) := fun j hj => by
        rw [eM, fz_pre_in (lo := 58) _ _ hj, fz_mvM_e hn4 (fz_rfD hn) (fz_rfM hn) hj]
        unfold fz_st2M fz_stM; rw [fz_pre_in _ _ hj]
      have hmt := (hok.2 rfl hb1).2 hb2
      refine lv_iconst (v := nI 2) hx hb dX4_tried_32 (by decide) ?_
      refine lv_istore_n (lv' := [(3, .int (nI 2)), (0, .ref o), (1, .double t)]) hx hb dX4_tried_33 rfl hl (by decide) rfl (fun ls hl => ?_)
      have loop34 : ∀ (it k : Nat), k ≤ n → n < k + it → ∀ (H : Heap) (locs : List Loc) (ls : Array Slot), va_P D vwCl [(o, .inr (4, [.int thr, .int (nI n), .int (nI kd), .int (nI lim), .int (nI sol), .int (nI 2), .double tm, .int cst, .int cfl, .int crf, .ref dp, .ref mp, .double x0, .double x1, .double x2, .double x3, .double x4, .double x5, .double x6, .double x7])), (dp, fz_da cD 84 (fz_pre 2 k (fun j => FP.dmul fz_half (FP.dadd (fD (j + 2)) (fD (j + 58)))) fD)), (mp, fz_da cD 84 (fz_pre 2 k (fun j => FP.dmul fz_half (FP.dadd (fM (j + 2)) (fM (j + 58)))) fM))] H → va_D A [(o, .inr (4, [.int thr, .int (nI n), .int (nI kd), .int (nI lim), .int (nI sol), .int (nI 2), .double tm, .int cst, .int cfl, .int crf, .ref dp, .ref mp, .double x0, .double x1, .double x2, .double x3, .double x4, .double x5, .double x6, .double x7])), (dp, fz_da cD 84 (fz_pre 2 k (fun j => FP.dmul fz_half (FP.dadd (fD (j + 2)) (fD (j + 58)))) fD)), (mp, fz_da cD 84 (fz_pre 2 k (fun j => FP.dmul fz_half (FP.dadd (fM (j + 2)) (fM (j + 58)))) fM))] → va_S A s.heap H locs → lv_has ls 4 [(0, .ref o), (1, .double t), (3, .int (nI (k + 2)))] → W p l e ({ frames := 6, cells := 0, slots := 0, locals := 195 }) s m ([.ref o, .double t] : List Value).toArray below meth c H locs 0 0 (MQ below (fz_OE D [(cD, .double)] (fun ov wo => ∃ (dx mx : Nat → UInt64) (x0 x1 x2 x3 x4 x5 x6 x7 : UInt64) (_ : fz_int n dx (if fz_good kd lim sol 2 n t dR mR = true then fz_newD kd lim sol 2 n t dR mR else dR)) (_ : fz_int n mx (if fz_good kd lim sol 2 n t dR mR = true then fz_newM kd lim sol 2 n t dR mR else mR)), ov = some (.int (fz_b (fz_good kd lim sol 2 n t dR mR))) ∧ wo = [(o, .inr (4, [.int thr, .int (nI n), .int (nI kd), .int (nI lim), .int (nI sol), .int (nI 2), .double tm, .int cst, .int cfl, .int crf, .ref dp, .ref mp, .double x0, .double x1, .double x2, .double x3, .double x4, .double x5, .double x6, .double x7])), (dp, fz_da cD 84 dx), (mp, fz_da cD 84 mx)]) A) ([.ref o, .double t] : List Value).toArray s 0 0 A) (F0 m 34 ls []) := by
        intro it
        induction it with
        | zero => intro k h1 h2; exact absurd h2 (by omega)
        | succ it ih =>
          intro k hkk hnk H locs ls hP hD hS hl
          refine lv_iload_n hx hb dX4_tried_34 rfl (lv_at hl 2 rfl) ?_
          refine lv_aload_n hx hb dX4_tried_35 rfl (lv_at hl 0 rfl) ?_
          refine va_get (D := D) (ci := 4) (v := .int (nI n)) (C := RX4) (T := TX4) (N := 20) hx hb hts hin_X4 hown hK hP 0 rfl rfl 1 (by decide) hw_fieldLink_RX4_30_FlowGridModel_n_I (fun _ h9 => h9) rfl dX4_tried_36 ?_
          refine lv_iconst (v := nI 2) hx hb dX4_tried_39 (by decide) ?_
          refine fz_iaddN hx hb dX4_tried_40 ?_
          refine fz_topn (b := n + 2) (by omega) ?_
          refine fz_icmp_geN (tgt := 142) hx hb (by omega) (by omega) dX4_tried_41 (by decide) (fun c41 => ?_) (fun c41 => ?_)
          · refine lv_iconst (v := nI 1) hx hb dX4_tried_142 (by decide) ?_
            have hkz : n = k := by omega
            subst hkz
            have eG : fz_good kd lim sol 2 n t dR mR = true := by simp [fz_good, hb1, hb2]
            exact fz_zretE hx hb hr hlocks rfl ⟨_, _, x0, x1, x2, x3, x4, x5, x6, x7, by rw [eG]; exact fun j hj => by rw [if_pos rfl, fz_pre_in _ _ hj]; unfold fz_newD; rw [if_neg (by decide), fz_pre_in _ _ hj]; unfold fz_mtG; rw [r0D j hj, r2D j hj], by rw [eG]; exact fun j hj => by rw [if_pos rfl, fz_pre_in _ _ hj]; unfold fz_newM; rw [if_neg (by decide), fz_pre_in _ _ hj]; unfold fz_mtG; rw [r0M j hj, r2M j hj], by rw [eG]; rfl, rfl⟩ hP hK hD hS dX4_tried_143
          · refine lv_aload_n hx hb dX4_tried_44 rfl (lv_at hl 0 rfl) ?_
            refine va_get (D := D) (ci := 4) (v := .ref dp) (C := RX4) (T := TX4) (N := 20) hx hb hts hin_X4 hown hK hP 0 rfl rfl 10 (by decide) hw_fieldLink_RX4_7_FlowGridModel_depth_D (fun _ h9 => h9) rfl dX4_tried_45 ?_
            refine lv_iload_n hx hb dX4_tried_48 rfl (lv_at hl 2 rfl) ?_
            refine lv_aload_n hx hb dX4_tried_49 rfl (lv_at hl 0 rfl) ?_
            refine va_get (D := D) (ci := 4) (v := .int (nI 2)) (C := RX4) (T := TX4) (N := 20) hx hb hts hin_X4 hown hK hP 0 rfl rfl 5 (by decide) hw_fieldLink_RX4_24_FlowGridModel_order_I (fun _ h9 => h9) rfl dX4_tried_50 ?_
            refine lv_iconst (v := nI 1) hx hb dX4_tried_53 (by decide) ?_
            refine fz_icmp_neN (tgt := 69) hx hb (by omega) (by omega) dX4_tried_54 (by decide) (fun c54 => ?_) (fun c54 => absurd c54 (by decide))
            refine lv_ldc2d hx hb hown hw_constantDouble_RX4_63_4602678819172646912 dX4_tried_69 ?_
            refine lv_aload_n hx hb dX4_tried_72 rfl (lv_at hl 0 rfl) ?_
            refine va_get (D := D) (ci := 4) (v := .ref dp) (C := RX4) (T := TX4) (N := 20) hx hb hts hin_X4 hown hK hP 0 rfl rfl 10 (by decide) hw_fieldLink_RX4_7_FlowGridModel_depth_D (fun _ h9 => h9) rfl dX4_tried_73 ?_
            refine lv_iload_n hx hb dX4_tried_76 rfl (lv_at hl 2 rfl) ?_
            refine fz_dald (i := k + 2) hx hb hK hP 1 0 rfl rfl (by omega) (by decide) dX4_tried_77 ?_
            refine fz_topdq (y := fD (k + 2)) (fz_pre_at _ _ (by omega)) ?_
            refine lv_aload_n hx hb dX4_tried_78 rfl (lv_at hl 0 rfl) ?_
            refine va_get (D := D) (ci := 4) (v := .ref dp) (C := RX4) (T := TX4) (N := 20) hx hb hts hin_X4 hown hK hP 0 rfl rfl 10 (by decide) hw_fieldLink_RX4_7_FlowGridModel_depth_D (fun _ h9 => h9) rfl dX4_tried_79 ?_
            refine lv_bipush (v := nI 56) hx hb dX4_tried_82 (by decide) ?_
            refine lv_iload_n hx hb dX4_tried_84 rfl (lv_at hl 2 rfl) ?_
            refine fz_iaddN hx hb dX4_tried_85 ?_
            refine fz_topn (b := k + 58) (by omega) ?_
            refine fz_dald (i := k + 58) hx hb hK hP 1 0 rfl rfl (by omega) (by decide) dX4_tried_86 ?_
            refine fz_topdq (y := fD (k + 58)) (fz_pre_at _ _ (by omega)) ?_
            refine lv_dadd hx hb dX4_tried_87 (by rw [r0D k (by omega), r2D k (by omega)]; exact (hmt.1 k (by omega)).1) ?_
            refine lv_dmul hx hb dX4_tried_88 (by rw [r0D k (by omega), r2D k (by omega)]; exact (hmt.1 k (by omega)).2) ?_
            refine fz_dast (i := k + 2) hx hb hK hP hD hS 1 0 rfl rfl (by omega) (by decide) dX4_tried_89 (fun H locs hP hD hS => ?_)
            have hP : va_P D vwCl [(o, .inr (4, [.int thr, .int (nI n), .int (nI kd), .int (nI lim), .int (nI sol), .int (nI 2), .double tm, .int cst, .int cfl, .int crf, .ref dp, .ref mp, .double x0, .double x1, .double x2, .double x3, .double x4, .double x5, .double x6, .double x7])), (dp, fz_da cD 84 (vf_upd (fz_pre 2 k (fun j => FP.dmul fz_half (FP.dadd (fD (j + 2)) (fD (j + 58)))) fD) (k + 2) (FP.dmul 4602678819172646912 (FP.dadd (fD (k + 2)) (fD (k + 58)))))), (mp, fz_da cD 84 (fz_pre 2 k (fun j => FP.dmul fz_half (FP.dadd (fM (j + 2)) (fM (j + 58)))) fM))] H := hP
            have hD : va_D A [(o, .inr (4, [.int thr, .int (nI n), .int (nI kd), .int (nI lim), .int (nI sol), .int (nI 2), .double tm, .int cst, .int cfl, .int crf, .ref dp, .ref mp, .double x0, .double x1, .double x2, .double x3, .double x4, .double x5, .double x6, .double x7])), (dp, fz_da cD 84 (vf_upd (fz_pre 2 k (fun j => FP.dmul fz_half (FP.dadd (fD (j + 2)) (fD (j + 58)))) fD) (k + 2) (FP.dmul 4602678819172646912 (FP.dadd (fD (k + 2)) (fD (k + 58)))))), (mp, fz_da cD 84 (fz_pre 2 k (fun j => FP.dmul fz_half (FP.dadd (fM (j + 2)) (fM (j + 58)))) fM))] := hD
            have hP : va_P D vwCl [(o, .inr (4, [.int thr, .int (nI n), .int (nI kd), .int (nI lim), .int (nI sol), .int (nI 2), .double tm, .int cst, .int cfl, .int crf, .ref dp, .ref mp, .double x0, .double x1, .double x2, .double x3, .double x4, .double x5, .double x6, .double x7])), (dp, fz_da cD 84 (fz_pre 2 (k + 1) (fun j => FP.dmul fz_half (FP.dadd (fD (j + 2)) (fD (j + 58)))) fD)), (mp, fz_da cD 84 (fz_pre 2 k (fun j => FP.dmul fz_half (FP.dadd (fM (j + 2)) (fM (j + 58)))) fM))] H := by rw [← fz_pre_s 2 k (fun j => FP.dmul fz_half (FP.dadd (fD (j + 2)) (fD (j + 58)))) fD]; exact hP
            have hD : va_D A [(o, .inr (4, [.int thr, .int (nI n), .int (nI kd), .int (nI lim), .int (nI sol), .int (nI 2), .double tm, .int cst, .int cfl, .int crf, .ref dp, .ref mp, .double x0, .double x1, .double x2, .double x3, .double x4, .double x5, .double x6, .double x7])), (dp, fz_da cD 84 (fz_pre 2 (k + 1) (fun j => FP.dmul fz_half (FP.dadd (fD (j + 2)) (fD (j + 58)))) fD)), (mp, fz_da cD 84 (fz_pre 2 k (fun j => FP.dmul fz_half (FP.dadd (fM (j + 2)) (fM (j + 58)))) fM))] := by rw [← fz_pre_s 2 k (fun j => FP.dmul fz_half (FP.dadd (fD (j + 2)) (fD (j + 58)))) fD]; exact hD
            refine lv_aload_n hx hb dX4_tried_90 rfl (lv_at hl 0 rfl) ?_
            refine va_get (D := D) (ci := 4) (v := .ref mp) (C := RX4) (T := TX4) (N := 20) hx hb hts hin_X4 hown hK hP 0 rfl rfl 11 (by decide) hw_fieldLink_RX4_13_FlowGridModel_momentum_D (fun _ h9 => h9) rfl dX4_tried_91 ?_
            refine lv_iload_n hx hb dX4_tried_94 rfl (lv_at hl 2 rfl) ?_
            refine lv_aload_n hx hb dX4_tried_95 rfl (lv_at hl 0 rfl) ?_
            refine va_get (D := D) (ci := 4) (v := .int (nI 2)) (C := RX4) (T := TX4) (N := 20) hx hb hts hin_X4 hown hK hP 0 rfl rfl 5 (by decide) hw_fieldLink_RX4_24_FlowGridModel_order_I (fun _ h9 => h9) rfl dX4_tried_96 ?_
            refine lv_iconst (v := nI 1) hx hb dX4_tried_99 (by decide) ?_
            refine fz_icmp_neN (tgt := 115) hx hb (by omega) (by omega) dX4_tried_100 (by decide) (fun c100 => ?_) (fun c100 => absurd c100 (by decide))
            refine lv_ldc2d hx hb hown hw_constantDouble_RX4_63_4602678819172646912 dX4_tried_115 ?_
            refine lv_aload_n hx hb dX4_tried_118 rfl (lv_at hl 0 rfl) ?_
            refine va_get (D := D) (ci := 4) (v := .ref mp) (C := RX4) (T := TX4) (N := 20) hx hb hts hin_X4 hown hK hP 0 rfl rfl 11 (by decide) hw_fieldLink_RX4_13_FlowGridModel_momentum_D (fun _ h9 => h9) rfl dX4_tried_119 ?_
            refine lv_iload_n hx hb dX4_tried_122 rfl (lv_at hl 2 rfl) ?_
            refine fz_dald (i := k + 2) hx hb hK hP 2 0 rfl rfl (by omega) (by decide) dX4_tried_123 ?_
            refine fz_topdq (y := fM (k + 2)) (fz_pre_at _ _ (by omega)) ?_
            refine lv_aload_n hx hb dX4_tried_124 rfl (lv_at hl 0 rfl) ?_
            refine va_get (D := D) (ci := 4) (v := .ref mp) (C := RX4) (T := TX4) (N := 20) hx hb hts hin_X4 hown hK hP 0 rfl rfl 11 (by decide) hw_fieldLink_RX4_13_FlowGridModel_momentum_D (fun _ h9 => h9) rfl dX4_tried_125 ?_
            refine lv_bipush (v := nI 56) hx hb dX4_tried_128 (by decide) ?_
            refine lv_iload_n hx hb dX4_tried_130 rfl (lv_at hl 2 rfl) ?_
            refine fz_iaddN hx hb dX4_tried_131 ?_
            refine fz_topn (b := k + 58) (by omega) ?_
            refine fz_dald (i := k + 58) hx hb hK hP 2 0 rfl rfl (by omega) (by decide) dX4_tried_132 ?_
            refine fz_topdq (y := fM (k + 58)) (fz_pre_at _ _ (by omega)) ?_
            refine lv_dadd hx hb dX4_tried_133 (by rw [r0M k (by omega), r2M k (by omega)]; exact (hmt.2 k (by omega)).1) ?_
            refine lv_dmul hx hb dX4_tried_134 (by rw [r0M k (by omega), r2M k (by omega)]; exact (hmt.2 k (by omega)).2) ?_
            refine fz_dast (i := k + 2) hx hb hK hP hD hS 2 0 rfl rfl (by omega) (by decide) dX4_tried_135 (fun H locs hP hD hS => ?_)
            have hP : va_P D vwCl [(o, .inr (4, [.int thr, .int (nI n), .int (nI kd), .int (nI lim), .int (nI sol), .int (nI 2), .double tm, .int cst, .int cfl, .int crf, .ref dp, .ref mp, .double x0, .double x1, .double x2, .double x3, .double x4, .double x5, .double x6, .double x7])), (dp, fz_da cD 84 (fz_pre 2 (k + 1) (fun j => FP.dmul fz_half (FP.dadd (fD (j + 2)) (fD (j + 58)))) fD)), (mp, fz_da cD 84 (vf_upd (fz_pre 2 k (fun j => FP.dmul fz_half (FP.dadd (fM (j + 2)) (fM (j + 58)))) fM) (k + 2) (FP.dmul 4602678819172646912 (FP.dadd (fM (k + 2)) (fM (k + 58))))))] H := hP
            have hD : va_D A [(o, .inr (4, [.int thr, .int (nI n), .int (nI kd), .int (nI lim), .int (nI sol), .int (nI 2), .double tm, .int cst, .int cfl, .int crf, .ref dp, .ref mp, .double x0, .double x1, .double x2, .double x3, .double x4, .double x5, .double x6, .double x7])), (dp, fz_da cD 84 (fz_pre 2 (k + 1) (fun j => FP.dmul fz_half (FP.dadd (fD (j + 2)) (fD (j + 58)))) fD)), (mp, fz_da cD 84 (vf_upd (fz_pre 2 k (fun j => FP.dmul fz_half (FP.dadd (fM (j + 2)) (fM (j + 58)))) fM) (k + 2) (FP.dmul 4602678819172646912 (FP.dadd (fM (k + 2)) (fM (k + 58))))))] := hD
            have hP : va_P D vwCl [(o, .inr (4, [.int thr, .int (nI n), .int (nI kd), .int (nI lim), .int (nI sol), .int (nI 2), .double tm, .int cst, .int cfl, .int crf, .ref dp, .ref mp, .double x0, .double x1, .double x2, .double x3, .double x4, .double x5, .double x6, .double x7])), (dp, fz_da cD 84 (fz_pre 2 (k + 1) (fun j => FP.dmul fz_half (FP.dadd (fD (j + 2)) (fD (j + 58)))) fD)), (mp, fz_da cD 84 (fz_pre 2 (k + 1) (fun j => FP.dmul fz_half (FP.dadd (fM (j + 2)) (fM (j + 58)))) fM))] H := by rw [← fz_pre_s 2 k (fun j => FP.dmul fz_half (FP.dadd (fM (j + 2)) (fM (j + 58)))) fM]; exact hP
            have hD : va_D A [(o, .inr (4, [.int thr, .int (nI n), .int (nI kd), .int (nI lim), .int (nI sol), .int (nI 2), .double tm, .int cst, .int cfl, .int crf, .ref dp, .ref mp, .double x0, .double x1, .double x2, .double x3, .double x4, .double x5, .double x6, .double x7])), (dp, fz_da cD 84 (fz_pre 2 (k + 1) (fun j => FP.dmul fz_half (FP.dadd (fD (j + 2)) (fD (j + 58)))) fD)), (mp, fz_da cD 84 (fz_pre 2 (k + 1) (fun j => FP.dmul fz_half (FP.dadd (fM (j + 2)) (fM (j + 58)))) fM))] := by rw [← fz_pre_s 2 k (fun j => FP.dmul fz_half (FP.dadd (fM (j + 2)) (fM (j + 58)))) fM]; exact hD
            refine lv_iinc (v := nI (k + 3)) (lv' := [(3, .int (nI (k + 3))), (0, .ref o), (1, .double t)]) hx hb dX4_tried_136 hl (k := 2) rfl (nI_1 _) (by decide) rfl (fun ls hl => ?_)
            refine lv_goto (tgt := 34) hx hb dX4_tried_139 (by decide) ?_
            exact ih (k + 1) (by omega) (by omega) H locs ls (hP) (hD) hS (lv_sub hl [1, 2, 0] rfl)
      exact loop34 (n + 1) 0 (by omega) (by omega) H locs ls (by rw [fz_pre_0, fz_pre_0]; exact hP) (by rw [fz_pre_0, fz_pre_0]; exact hD) hS (lv_sub hl [1, 2, 0] rfl)
    · refine lv_iconst (v := nI 0) hx hb dX4_tried_30 (by decide) ?_
      have eG : fz_good kd lim sol 2 n t dR mR = false := by
        have hb2 : fz_anyBad (fz_st2D kd lim sol n t dR mR) (fz_st2M kd lim sol n t dR mR) n = true := by
          rw [← fz_anyBad_e (fz_stD_e (kd := kd) (lim := lim) (sol := sol) (t := t) hn4 (fz_rfD hn) (fz_rfM hn)) (fz_stM_e (kd := kd) (lim := lim) (sol := sol) (t := t) hn4 (fz_rfD hn) (fz_rfM hn)) n (Nat.le_refl n)]
          exact fz_nbn.mp c27
        simp [fz_good, hb2]
      exact fz_zretE hx hb hr hlocks rfl ⟨_, _, x0, x1, x2, x3, x4, x5, x6, x7, by rw [eG, if_neg Bool.false_ne_true]; exact fz_rf2 hn (fz_rf1 hn), by rw [eG, if_neg Bool.false_ne_true]; exact fz_rf2 hn (fz_rf1 hn), by rw [eG]; rfl, rfl⟩ hP hK hD hS dX4_tried_31
  · refine lv_iconst (v := nI 0) hx hb dX4_tried_10 (by decide) ?_
    have eG : fz_good kd lim sol 2 n t dR mR = false := by
      have hb0 : fz_anyBad (fz_stD kd lim sol n t dR mR) (fz_stM kd lim sol n t dR mR) n = true := fz_nbn.mp c7
      simp [fz_good, hb0]
    exact fz_zretE hx hb hr hlocks rfl ⟨_, _, x0, x1, x2, x3, x4, x5, x6, x7, by rw [eG, if_neg Bool.false_ne_true]; exact fz_rf1 hn, by rw [eG, if_neg Bool.false_ne_true]; exact fz_rf1 hn, by rw [eG]; rfl, rfl⟩ hP hK hD hS dX4_tried_11
