/-! FlowGridModel: leaves -/
theorem fz_nb {b : Bool} : narrow .boolean (.int (fz_b b)) = .int (fz_b b) := by cases b <;> rfl
def fz_gtrM (a b : UInt64) : UInt64 := if fz_lt b a = true then a else b
def fz_lesM (a b : UInt64) : UInt64 := if fz_lt a b = true then a else b
def fz_leastM (a b : UInt64) : UInt64 := if fz_le (fz_abs a) (fz_abs b) = true then a else b
def fz_mostM (a b : UInt64) : UInt64 := if fz_le (fz_abs b) (fz_abs a) = true then a else b
def fz_slopeM (lim : Nat) (a b : UInt64) : UInt64 := if lim = 0 then FP.dconst0 else if fz_lt FP.dconst0 (FP.dmul a b) = true then (if lim = 1 then fz_leastM a b else if lim = 3 then FP.ddiv (FP.dmul (FP.dmul fz_two a) b) (FP.dadd a b) else fz_mostM (fz_leastM (FP.dmul fz_two a) b) (fz_leastM a (FP.dmul fz_two b))) else FP.dconst0
def fz_thr (b : Bool) (x : Int32) : Int32 := if b = true then x else nI 0
def fz_inD (x a b : UInt64) : Bool := fz_le a x && fz_le x b

set_option maxHeartbeats 4000000 in
set_option maxRecDepth 100000 in
theorem c_X4_out (l : Launch) (D : va_G) (cD : ClassId) (v a b : Int32) : fz_C l D [(cD, .double)] yX4_out wsX4_out ({ frames := 0, cells := 0, slots := 0, locals := 0 }) [.int v, .int a, .int b] [] [] (some (.int (fz_b (fz_out v a b)))) := by
  refine fz_start (cc := cX4_out) (maxL := 3) (ret := (some .boolean)) (by decide) rfl (Nat.le_of_ble_eq_true rfl) ?_
  intro p e s m below meth c A hx hb hr hlocks hml hown hts hK hA hNW H locs hP hD hS ls hl
  have hl : lv_has ls 3 [(0, .int v), (1, .int a), (2, .int b)] := hl
  have hown : s.vm.findClass RX4 = some m.cls := hown
  refine lv_iload_n hx hb dX4_out_0 rfl (lv_at hl 0 rfl) ?_
  refine lv_iload_n hx hb dX4_out_1 rfl (lv_at hl 1 rfl) ?_
  refine lv_icmp_lt (tgt := 10) hx hb dX4_out_2 (by decide) (fun c2 => ?_) (fun c2 => ?_)
  · refine lv_iconst (v := nI 1) hx hb dX4_out_10 (by decide) ?_
    refine lv_goto (tgt := 15) hx hb dX4_out_11 (by decide) ?_
    exact fz_zret hx hb hr hlocks rfl (by simp [fz_b, fz_out, nI_0, fz_nI1, c2]) hP hK hD hS dX4_out_15
  · refine lv_iload_n hx hb dX4_out_5 rfl (lv_at hl 0 rfl) ?_
    refine lv_iload_n hx hb dX4_out_6 rfl (lv_at hl 2 rfl) ?_
    refine lv_icmp_le (tgt := 14) hx hb dX4_out_7 (by decide) (fun c7 => ?_) (fun c7 => ?_)
    · refine lv_iconst (v := nI 0) hx hb dX4_out_14 (by decide) ?_
      exact fz_zret hx hb hr hlocks rfl (by simp [fz_b, fz_out, nI_0, fz_nI1, c2, Int32.not_lt.mpr c7]) hP hK hD hS dX4_out_15
    · refine lv_iconst (v := nI 1) hx hb dX4_out_10 (by decide) ?_
      refine lv_goto (tgt := 15) hx hb dX4_out_11 (by decide) ?_
      exact fz_zret hx hb hr hlocks rfl (by simp [fz_b, fz_out, nI_0, fz_nI1, c2, Int32.not_le.mp c7]) hP hK hD hS dX4_out_15

set_option maxHeartbeats 4000000 in
set_option maxRecDepth 100000 in
theorem c_X4_within (l : Launch) (D : va_G) (cD : ClassId) (x a b : UInt64) : fz_C l D [(cD, .double)] yX4_within wsX4_within ({ frames := 0, cells := 0, slots := 0, locals := 0 }) [.double x, .double a, .double b] [] [] (some (.int (fz_b (fz_inD x a b)))) := by
  refine fz_start (cc := cX4_within) (maxL := 6) (ret := (some .boolean)) (by decide) rfl (Nat.le_of_ble_eq_true rfl) ?_
  intro p e s m below meth c A hx hb hr hlocks hml hown hts hK hA hNW H locs hP hD hS ls hl
  have hl : lv_has ls 6 [(0, .double x), (2, .double a), (4, .double b)] := hl
  have hown : s.vm.findClass RX4 = some m.cls := hown
  refine lv_dload_n hx hb dX4_within_0 rfl (lv_at hl 0 rfl) ?_
  refine lv_dload_n hx hb dX4_within_1 rfl (lv_at hl 1 rfl) ?_
  refine fz_dl_lt (tgt := 17) hx hb dX4_within_2 dX4_within_3 (by decide) (fun c2 => ?_) (fun c2 => ?_)
  · refine lv_iconst (v := nI 0) hx hb dX4_within_17 (by decide) ?_
    exact fz_zret hx hb hr hlocks rfl (by simp [fz_b, fz_inD, nI_0, fz_nI1, c2]) hP hK hD hS dX4_within_18
  · refine lv_dload_n hx hb dX4_within_6 rfl (lv_at hl 0 rfl) ?_
    refine lv_dload hx hb dX4_within_7 (lv_at hl 2 rfl) ?_
    refine fz_dg_gt (tgt := 17) hx hb dX4_within_9 dX4_within_10 (by decide) (fun c9 => ?_) (fun c9 => ?_)
    · refine lv_iconst (v := nI 0) hx hb dX4_within_17 (by decide) ?_
      exact fz_zret hx hb hr hlocks rfl (by simp [fz_b, fz_inD, nI_0, fz_nI1, c2, c9]) hP hK hD hS dX4_within_18
    · refine lv_iconst (v := nI 1) hx hb dX4_within_13 (by decide) ?_
      refine lv_goto (tgt := 18) hx hb dX4_within_14 (by decide) ?_
      exact fz_zret hx hb hr hlocks rfl (by simp [fz_b, fz_inD, nI_0, fz_nI1, c2, c9]) hP hK hD hS dX4_within_18

set_option maxHeartbeats 4000000 in
set_option maxRecDepth 100000 in
theorem c_X4_size (l : Launch) (D : va_G) (cD : ClassId) (x : UInt64) : fz_C l D [(cD, .double)] yX4_size wsX4_size ({ frames := 0, cells := 0, slots := 0, locals := 0 }) [.double x] [] [] (some (.double (fz_abs x))) := by
  refine fz_start (cc := cX4_size) (maxL := 2) (ret := (some .double)) (by decide) rfl (Nat.le_of_ble_eq_true rfl) ?_
  intro p e s m below meth c A hx hb hr hlocks hml hown hts hK hA hNW H locs hP hD hS ls hl
  have hl : lv_has ls 2 [(0, .double x)] := hl
  have hown : s.vm.findClass RX4 = some m.cls := hown
  refine lv_dload_n hx hb dX4_size_0 rfl (lv_at hl 0 rfl) ?_
  refine lv_dconst0 hx hb dX4_size_1 ?_
  refine fz_dg_ge (tgt := 11) hx hb dX4_size_2 dX4_size_3 (by decide) (fun c2 => ?_) (fun c2 => ?_)
  · refine lv_dload_n hx hb dX4_size_11 rfl (lv_at hl 0 rfl) ?_
    exact fz_dret hx hb hr hlocks (by simp [fz_abs, c2]) hP hK hD hS dX4_size_12
  · refine lv_dload_n hx hb dX4_size_6 rfl (lv_at hl 0 rfl) ?_
    refine lv_dneg hx hb dX4_size_7 ?_
    refine lv_goto (tgt := 12) hx hb dX4_size_8 (by decide) ?_
    exact fz_dret hx hb hr hlocks (by simp [fz_abs, c2]) hP hK hD hS dX4_size_12

set_option maxHeartbeats 4000000 in
set_option maxRecDepth 100000 in
theorem c_X4_greater (l : Launch) (D : va_G) (cD : ClassId) (a b : UInt64) : fz_C l D [(cD, .double)] yX4_greater wsX4_greater ({ frames := 0, cells := 0, slots := 0, locals := 0 }) [.double a, .double b] [] [] (some (.double (fz_gtrM a b))) := by
  refine fz_start (cc := cX4_greater) (maxL := 4) (ret := (some .double)) (by decide) rfl (Nat.le_of_ble_eq_true rfl) ?_
  intro p e s m below meth c A hx hb hr hlocks hml hown hts hK hA hNW H locs hP hD hS ls hl
  have hl : lv_has ls 4 [(0, .double a), (2, .double b)] := hl
  have hown : s.vm.findClass RX4 = some m.cls := hown
  refine lv_dload_n hx hb dX4_greater_0 rfl (lv_at hl 0 rfl) ?_
  refine lv_dload_n hx hb dX4_greater_1 rfl (lv_at hl 1 rfl) ?_
  refine fz_dl_le (tgt := 10) hx hb dX4_greater_2 dX4_greater_3 (by decide) (fun c2 => ?_) (fun c2 => ?_)
  · refine lv_dload_n hx hb dX4_greater_10 rfl (lv_at hl 1 rfl) ?_
    exact fz_dret hx hb hr hlocks (by simp [fz_gtrM, c2]) hP hK hD hS dX4_greater_11
  · refine lv_dload_n hx hb dX4_greater_6 rfl (lv_at hl 0 rfl) ?_
    refine lv_goto (tgt := 11) hx hb dX4_greater_7 (by decide) ?_
    exact fz_dret hx hb hr hlocks (by simp [fz_gtrM, c2]) hP hK hD hS dX4_greater_11

set_option maxHeartbeats 4000000 in
set_option maxRecDepth 100000 in
theorem c_X4_lesser (l : Launch) (D : va_G) (cD : ClassId) (a b : UInt64) : fz_C l D [(cD, .double)] yX4_lesser wsX4_lesser ({ frames := 0, cells := 0, slots := 0, locals := 0 }) [.double a, .double b] [] [] (some (.double (fz_lesM a b))) := by
  refine fz_start (cc := cX4_lesser) (maxL := 4) (ret := (some .double)) (by decide) rfl (Nat.le_of_ble_eq_true rfl) ?_
  intro p e s m below meth c A hx hb hr hlocks hml hown hts hK hA hNW H locs hP hD hS ls hl
  have hl : lv_has ls 4 [(0, .double a), (2, .double b)] := hl
  have hown : s.vm.findClass RX4 = some m.cls := hown
  refine lv_dload_n hx hb dX4_lesser_0 rfl (lv_at hl 0 rfl) ?_
  refine lv_dload_n hx hb dX4_lesser_1 rfl (lv_at hl 1 rfl) ?_
  refine fz_dg_ge (tgt := 10) hx hb dX4_lesser_2 dX4_lesser_3 (by decide) (fun c2 => ?_) (fun c2 => ?_)
  · refine lv_dload_n hx hb dX4_lesser_10 rfl (lv_at hl 1 rfl) ?_
    exact fz_dret hx hb hr hlocks (by simp [fz_lesM, c2]) hP hK hD hS dX4_lesser_11
  · refine lv_dload_n hx hb dX4_lesser_6 rfl (lv_at hl 0 rfl) ?_
    refine lv_goto (tgt := 11) hx hb dX4_lesser_7 (by decide) ?_
    exact fz_dret hx hb hr hlocks (by simp [fz_lesM, c2]) hP hK hD hS dX4_lesser_11

set_option maxHeartbeats 4000000 in
set_option maxRecDepth 100000 in
theorem c_X4_isTime (l : Launch) (D : va_G) (cD : ClassId) (t : UInt64) : fz_C l D [(cD, .double)] yX4_isTime wsX4_isTime ({ frames := 0, cells := 0, slots := 0, locals := 0 }) [.double t] [] [] (some (.int (fz_span t))) := by
  refine fz_start (cc := cX4_isTime) (maxL := 2) (ret := (some .boolean)) (by decide) rfl (Nat.le_of_ble_eq_true rfl) ?_
  intro p e s m below meth c A hx hb hr hlocks hml hown hts hK hA hNW H locs hP hD hS ls hl
  have hl : lv_has ls 2 [(0, .double t)] := hl
  have hown : s.vm.findClass RX4 = some m.cls := hown
  have hw_constantDouble_RX4_163_4621819117588971520 := hts (.constantDouble RX4 163 (4621819117588971520)) (by decide +kernel)
  refine lv_dload_n hx hb dX4_isTime_0 rfl (lv_at hl 0 rfl) ?_
  refine lv_dconst0 hx hb dX4_isTime_1 ?_
  refine fz_dl_le (tgt := 18) hx hb dX4_isTime_2 dX4_isTime_3 (by decide) (fun c2 => ?_) (fun c2 => ?_)
  · refine lv_iconst (v := nI 0) hx hb dX4_isTime_18 (by decide) ?_
    exact fz_zret hx hb hr hlocks rfl (by simp [fz_span, nI_0, fz_nI1, c2]) hP hK hD hS dX4_isTime_19
  · refine lv_dload_n hx hb dX4_isTime_6 rfl (lv_at hl 0 rfl) ?_
    refine lv_ldc2d hx hb hown hw_constantDouble_RX4_163_4621819117588971520 dX4_isTime_7 ?_
    refine fz_dg_gt (tgt := 18) hx hb dX4_isTime_10 dX4_isTime_11 (by decide) (fun c10 => ?_) (fun c10 => ?_)
    · refine lv_iconst (v := nI 0) hx hb dX4_isTime_18 (by decide) ?_
      exact fz_zret hx hb hr hlocks rfl (by simp [fz_span, nI_0, fz_nI1, c2, c10]) hP hK hD hS dX4_isTime_19
    · refine lv_iconst (v := nI 1) hx hb dX4_isTime_14 (by decide) ?_
      refine lv_goto (tgt := 19) hx hb dX4_isTime_15 (by decide) ?_
      exact fz_zret hx hb hr hlocks rfl (by simp [fz_span, nI_0, fz_nI1, c2, c10]) hP hK hD hS dX4_isTime_19

set_option maxHeartbeats 4000000 in
set_option maxRecDepth 100000 in
theorem c_X4_root (l : Launch) (D : va_G) (cD : ClassId) (x : UInt64) (hok : fz_rootOk x) : fz_C l D [(cD, .double)] yX4_root wsX4_root ({ frames := 0, cells := 0, slots := 0, locals := 0 }) [.double x] [] [] (some (.double (fz_root x))) := by
  refine fz_start (cc := cX4_root) (maxL := 5) (ret := (some .double)) (by decide) rfl (Nat.le_of_ble_eq_true rfl) ?_
  intro p e s m below meth c A hx hb hr hlocks hml hown hts hK hA hNW H locs hP hD hS ls hl
  have hl : lv_has ls 5 [(0, .double x)] := hl
  have hown : s.vm.findClass RX4 = some m.cls := hown
  have hw_constantDouble_RX4_63_4602678819172646912 := hts (.constantDouble RX4 63 (4602678819172646912)) (by decide +kernel)
  refine lv_dload_n hx hb dX4_root_0 rfl (lv_at hl 0 rfl) ?_
  refine lv_dconst1 hx hb dX4_root_1 ?_
  have jn4 : ∀ v : UInt64, v = fz_rootN x 0 → ∀ (H : Heap) (locs : List Loc), va_P D vwCl [] H → va_D A [] → va_S A s.heap H locs → W p l e ({ frames := 0, cells := 0, slots := 0, locals := 0 }) s m ([.double x] : List Value).toArray below meth c H locs 0 0 (MQ below (fz_O D [(cD, .double)] [] (some (.double (fz_root x))) A) ([.double x] : List Value).toArray s 0 0 A) (F0 m 11 ls [.double v]) := by
    intro v ev H locs hP hD hS
    subst ev
    refine lv_dstore_n (lv' := [(2, .double (fz_rootN x 0)), (0, .double x)]) hx hb dX4_root_11 rfl hl (by decide) rfl (fun ls hl => ?_)
    refine lv_iconst (v := nI 0) hx hb dX4_root_12 (by decide) ?_
    refine lv_istore (lv' := [(4, .int (nI 0)), (2, .double (fz_rootN x 0)), (0, .double x)]) hx hb dX4_root_13 hl (by decide) rfl (fun ls hl => ?_)
    have loop15 : ∀ (it k : Nat), k ≤ 14 → 14 < k + it → ∀ (H : Heap) (locs : List Loc) (ls : Array Slot), va_P D vwCl [] H → va_D A [] → va_S A s.heap H locs → lv_has ls 5 [(0, .double x), (2, .double (fz_rootN x k)), (4, .int (nI k))] → W p l e ({ frames := 0, cells := 0, slots := 0, locals := 0 }) s m ([.double x] : List Value).toArray below meth c H locs 0 0 (MQ below (fz_O D [(cD, .double)] [] (some (.double (fz_root x))) A) ([.double x] : List Value).toArray s 0 0 A) (F0 m 15 ls []) := by
      intro it
      induction it with
      | zero => intro k h1 h2; exact absurd h2 (by omega)
      | succ it ih =>
        intro k hkk hnk H locs ls hP hD hS hl
        refine lv_iload hx hb dX4_root_15 (lv_at hl 2 rfl) ?_
        refine lv_bipush (v := nI 14) hx hb dX4_root_17 (by decide) ?_
        refine fz_icmp_geN (tgt := 38) hx hb (by omega) (by omega) dX4_root_19 (by decide) (fun c19 => ?_) (fun c19 => ?_)
        · refine lv_dload_n hx hb dX4_root_38 rfl (lv_at hl 1 rfl) ?_
          exact fz_dret hx hb hr hlocks (by rw [show k = 14 by omega]) hP hK hD hS dX4_root_39
        · refine lv_ldc2d hx hb hown hw_constantDouble_RX4_63_4602678819172646912 dX4_root_22 ?_
          refine lv_dload_n hx hb dX4_root_25 rfl (lv_at hl 1 rfl) ?_
          refine lv_dload_n hx hb dX4_root_26 rfl (lv_at hl 0 rfl) ?_
          refine lv_dload_n hx hb dX4_root_27 rfl (lv_at hl 1 rfl) ?_
          refine lv_ddiv hx hb dX4_root_28 ((hok k (by omega)).2.1) ?_
          refine lv_dadd hx hb dX4_root_29 ((hok k (by omega)).2.2.1) ?_
          refine lv_dmul hx hb dX4_root_30 ((hok k (by omega)).2.2.2) ?_
          refine lv_dstore_n (lv' := [(2, .double (FP.dmul 4602678819172646912 (FP.dadd (fz_rootN x k) (FP.ddiv x (fz_rootN x k))))), (0, .double x), (4, .int (nI k))]) hx hb dX4_root_31 rfl hl (by decide) rfl (fun ls hl => ?_)
          refine lv_iinc (v := nI (k + 1)) (lv' := [(4, .int (nI (k + 1))), (2, .double (FP.dmul 4602678819172646912 (FP.dadd (fz_rootN x k) (FP.ddiv x (fz_rootN x k))))), (0, .double x)]) hx hb dX4_root_32 hl (k := 2) rfl (nI_1 _) (by decide) rfl (fun ls hl => ?_)
          refine lv_goto (tgt := 15) hx hb dX4_root_35 (by decide) ?_
          exact ih (k + 1) (by omega) (by omega) H locs ls (hP) (hD) hS (lv_sub hl [2, 1, 0] rfl)
    exact loop15 (14 + 1) 0 (by omega) (by omega) H locs ls (hP) (hD) hS (lv_sub hl [2, 1, 0] rfl)
  refine fz_dg_ge (tgt := 10) hx hb dX4_root_2 dX4_root_3 (by decide) (fun c2 => ?_) (fun c2 => ?_)
  · refine lv_dload_n hx hb dX4_root_10 rfl (lv_at hl 0 rfl) ?_
    exact jn4 _ (by simp [fz_rootN, c2]) H locs hP hD hS
  · refine lv_dconst1 hx hb dX4_root_6 ?_
    refine lv_goto (tgt := 11) hx hb dX4_root_7 (by decide) ?_
    exact jn4 _ (by simp [fz_rootN, c2]) H locs hP hD hS

set_option maxHeartbeats 4000000 in
set_option maxRecDepth 100000 in
theorem c_X4_least (l : Launch) (D : va_G) (cD : ClassId) (a b : UInt64) : fz_C l D [(cD, .double)] yX4_least wsX4_least ({ frames := 1, cells := 0, slots := 0, locals := 30 }) [.double a, .double b] [] [] (some (.double (fz_leastM a b))) := by
  refine fz_start (cc := cX4_least) (maxL := 4) (ret := (some .double)) (by decide) rfl (Nat.le_of_ble_eq_true rfl) ?_
  intro p e s m below meth c A hx hb hr hlocks hml hown hts hK hA hNW H locs hP hD hS ls hl
  have hl : lv_has ls 4 [(0, .double a), (2, .double b)] := hl
  have hown : s.vm.findClass RX4 = some m.cls := hown
  refine lv_dload_n hx hb dX4_least_0 rfl (lv_at hl 0 rfl) ?_
  refine fz_callS (ws' := []) (wr := []) (As := [.double a]) (rest := []) ⟨hx, hb, hml, hown, hts⟩ (c_X4_size l D cD a) (va_cwS 1 hts gX4_least_X4_size rfl rfl rfl (by decide +kernel) ⟨Nat.le_of_ble_eq_true rfl, Nat.le_of_ble_eq_true rfl⟩) hK hNW hP hD hS hA [] [] [] rfl rfl rfl rfl (by decide) rfl rfl rfl hl.1 rfl (Nat.le_of_ble_eq_true rfl) dX4_least_1 ⟨Nat.zero_le _, Nat.zero_le _⟩ (fun H locs hP hD hS => ?_)
  refine lv_dload_n hx hb dX4_least_4 rfl (lv_at hl 1 rfl) ?_
  refine fz_callS (ws' := []) (wr := []) (As := [.double b]) (rest := [.double (fz_abs a)]) ⟨hx, hb, hml, hown, hts⟩ (c_X4_size l D cD b) (va_cwS 1 hts gX4_least_X4_size rfl rfl rfl (by decide +kernel) ⟨Nat.le_of_ble_eq_true rfl, Nat.le_of_ble_eq_true rfl⟩) hK hNW hP hD hS hA [] [] [] rfl rfl rfl rfl (by decide) rfl rfl rfl hl.1 rfl (Nat.le_of_ble_eq_true rfl) dX4_least_5 ⟨Nat.zero_le _, Nat.zero_le _⟩ (fun H locs hP hD hS => ?_)
  refine fz_dg_gt (tgt := 16) hx hb dX4_least_8 dX4_least_9 (by decide) (fun c8 => ?_) (fun c8 => ?_)
  · refine lv_dload_n hx hb dX4_least_16 rfl (lv_at hl 1 rfl) ?_
    exact fz_dret hx hb hr hlocks (by simp [fz_leastM, c8]) hP hK hD hS dX4_least_17
  · refine lv_dload_n hx hb dX4_least_12 rfl (lv_at hl 0 rfl) ?_
    refine lv_goto (tgt := 17) hx hb dX4_least_13 (by decide) ?_
    exact fz_dret hx hb hr hlocks (by simp [fz_leastM, c8]) hP hK hD hS dX4_least_17

set_option maxHeartbeats 4000000 in
set_option maxRecDepth 100000 in
theorem c_X4_force (l : Launch) (D : va_G) (cD : ClassId) (x y : UInt64) (n0 : vf_n64 (FP.ddiv y x)) (hok : fz_mfOk x y (FP.ddiv y x)) : fz_C l D [(cD, .double)] yX4_force wsX4_force ({ frames := 0, cells := 0, slots := 0, locals := 0 }) [.double x, .double y] [] [] (some (.double (fz_mflux x y (FP.ddiv y x)))) := by
  refine fz_start (cc := cX4_force) (maxL := 6) (ret := (some .double)) (by decide) rfl (Nat.le_of_ble_eq_true rfl) ?_
  intro p e s m below meth c A hx hb hr hlocks hml hown hts hK hA hNW H locs hP hD hS ls hl
  have hl : lv_has ls 6 [(0, .double x), (2, .double y)] := hl
  have hown : s.vm.findClass RX4 = some m.cls := hown
  have hw_constantDouble_RX4_63_4602678819172646912 := hts (.constantDouble RX4 63 (4602678819172646912)) (by decide +kernel)
  refine lv_dload_n hx hb dX4_force_0 rfl (lv_at hl 1 rfl) ?_
  refine lv_dload_n hx hb dX4_force_1 rfl (lv_at hl 0 rfl) ?_
  refine lv_ddiv hx hb dX4_force_2 (n0) ?_
  refine lv_dstore (lv' := [(4, .double (FP.ddiv y x)), (0, .double x), (2, .double y)]) hx hb dX4_force_3 hl (by decide) rfl (fun ls hl => ?_)
  refine lv_dload_n hx hb dX4_force_5 rfl (lv_at hl 2 rfl) ?_
  refine lv_dload hx hb dX4_force_6 (lv_at hl 0 rfl) ?_
  refine lv_dmul hx hb dX4_force_8 (hok.1) ?_
  refine lv_ldc2d hx hb hown hw_constantDouble_RX4_63_4602678819172646912 dX4_force_9 ?_
  refine lv_dload_n hx hb dX4_force_12 rfl (lv_at hl 1 rfl) ?_
  refine lv_dmul hx hb dX4_force_13 (hok.2.1) ?_
  refine lv_dload_n hx hb dX4_force_14 rfl (lv_at hl 1 rfl) ?_
  refine lv_dmul hx hb dX4_force_15 (hok.2.2.1) ?_
  refine lv_dadd hx hb dX4_force_16 (hok.2.2.2) ?_
  exact fz_dret hx hb hr hlocks (rfl) hP hK hD hS dX4_force_17

set_option maxHeartbeats 4000000 in
set_option maxRecDepth 100000 in
theorem c_X4_speed (l : Launch) (D : va_G) (cD : ClassId) (x y : UInt64) (hs : fz_stOk x y) (n0 : vf_n64 (fz_reach (FP.ddiv y x) (fz_root x))) : fz_C l D [(cD, .double)] yX4_speed wsX4_speed ({ frames := 1, cells := 0, slots := 0, locals := 30 }) [.double x, .double y] [] [] (some (.double (fz_reach (FP.ddiv y x) (fz_root x)))) := by
  refine fz_start (cc := cX4_speed) (maxL := 4) (ret := (some .double)) (by decide) rfl (Nat.le_of_ble_eq_true rfl) ?_
  intro p e s m below meth c A hx hb hr hlocks hml hown hts hK hA hNW H locs hP hD hS ls hl
  have hl : lv_has ls 4 [(0, .double x), (2, .double y)] := hl
  have hown : s.vm.findClass RX4 = some m.cls := hown
  refine lv_dload_n hx hb dX4_speed_0 rfl (lv_at hl 1 rfl) ?_
  refine lv_dload_n hx hb dX4_speed_1 rfl (lv_at hl 0 rfl) ?_
  refine lv_ddiv hx hb dX4_speed_2 (hs.2.1) ?_
  refine fz_callS (ws' := []) (wr := []) (As := [.double (FP.ddiv y x)]) (rest := []) ⟨hx, hb, hml, hown, hts⟩ (c_X4_size l D cD (FP.ddiv y x)) (va_cwS 1 hts gX4_speed_X4_size rfl rfl rfl (by decide +kernel) ⟨Nat.le_of_ble_eq_true rfl, Nat.le_of_ble_eq_true rfl⟩) hK hNW hP hD hS hA [] [] [] rfl rfl rfl rfl (by decide) rfl rfl rfl hl.1 rfl (Nat.le_of_ble_eq_true rfl) dX4_speed_3 ⟨Nat.zero_le _, Nat.zero_le _⟩ (fun H locs hP hD hS => ?_)
  refine lv_dload_n hx hb dX4_speed_6 rfl (lv_at hl 0 rfl) ?_
  refine fz_callS (ws' := []) (wr := []) (As := [.double x]) (rest := [.double (fz_abs (FP.ddiv y x))]) ⟨hx, hb, hml, hown, hts⟩ (c_X4_root l D cD x (hs.2.2)) (va_cwS 1 hts gX4_speed_X4_root rfl rfl rfl (by decide +kernel) ⟨Nat.le_of_ble_eq_true rfl, Nat.le_of_ble_eq_true rfl⟩) hK hNW hP hD hS hA [] [] [] rfl rfl rfl rfl (by decide) rfl rfl rfl hl.1 rfl (Nat.le_of_ble_eq_true rfl) dX4_speed_7 ⟨Nat.zero_le _, Nat.zero_le _⟩ (fun H locs hP hD hS => ?_)
  refine lv_dadd hx hb dX4_speed_10 (n0) ?_
  exact fz_dret hx hb hr hlocks (rfl) hP hK hD hS dX4_speed_11

set_option maxHeartbeats 4000000 in
set_option maxRecDepth 100000 in
theorem c_X4_broad (l : Launch) (D : va_G) (cD : ClassId) (x y w1 lo hi : UInt64) (hok : fz_brdOk w1 x y lo hi) : fz_C l D [(cD, .double)] yX4_broad wsX4_broad ({ frames := 0, cells := 0, slots := 0, locals := 0 }) [.double x, .double y, .double w1, .double lo, .double hi] [] [] (some (.double (fz_brd w1 x y lo hi))) := by
  refine fz_start (cc := cX4_broad) (maxL := 10) (ret := (some .double)) (by decide) rfl (Nat.le_of_ble_eq_true rfl) ?_
  intro p e s m below meth c A hx hb hr hlocks hml hown hts hK hA hNW H locs hP hD hS ls hl
  have hl : lv_has ls 10 [(0, .double x), (2, .double y), (4, .double w1), (6, .double lo), (8, .double hi)] := hl
  have hown : s.vm.findClass RX4 = some m.cls := hown
  have hw_constantDouble_RX4_63_4602678819172646912 := hts (.constantDouble RX4 63 (4602678819172646912)) (by decide +kernel)
  refine lv_ldc2d hx hb hown hw_constantDouble_RX4_63_4602678819172646912 dX4_broad_0 ?_
  refine lv_dload_n hx hb dX4_broad_3 rfl (lv_at hl 0 rfl) ?_
  refine lv_dload_n hx hb dX4_broad_4 rfl (lv_at hl 1 rfl) ?_
  refine lv_dadd hx hb dX4_broad_5 (hok.1) ?_
  refine lv_dmul hx hb dX4_broad_6 (hok.2.1) ?_
  refine lv_ldc2d hx hb hown hw_constantDouble_RX4_63_4602678819172646912 dX4_broad_7 ?_
  refine lv_dload hx hb dX4_broad_10 (lv_at hl 2 rfl) ?_
  refine lv_dmul hx hb dX4_broad_12 (hok.2.2.1) ?_
  refine lv_dload hx hb dX4_broad_13 (lv_at hl 4 rfl) ?_
  refine lv_dload hx hb dX4_broad_15 (lv_at hl 3 rfl) ?_
  refine lv_dsub hx hb dX4_broad_17 (hok.2.2.2.1) ?_
  refine lv_dmul hx hb dX4_broad_18 (hok.2.2.2.2.1) ?_
  refine lv_dsub hx hb dX4_broad_19 (hok.2.2.2.2.2) ?_
  exact fz_dret hx hb hr hlocks (rfl) hP hK hD hS dX4_broad_20

set_option maxHeartbeats 4000000 in
set_option maxRecDepth 100000 in
theorem c_X4_narrow (l : Launch) (D : va_G) (cD : ClassId) (x y w1 w2 lo hi : UInt64) (nj : vf_n64 (FP.dsub hi lo)) (hok : fz_bldOk w1 w2 x y (FP.dsub hi lo)) : fz_C l D [(cD, .double)] yX4_narrow wsX4_narrow ({ frames := 0, cells := 0, slots := 0, locals := 0 }) [.double x, .double y, .double w1, .double w2, .double lo, .double hi] [] [] (some (.double (fz_bld w1 w2 x y (FP.dsub hi lo)))) := by
  refine fz_start (cc := cX4_narrow) (maxL := 12) (ret := (some .double)) (by decide) rfl (Nat.le_of_ble_eq_true rfl) ?_
  intro p e s m below meth c A hx hb hr hlocks hml hown hts hK hA hNW H locs hP hD hS ls hl
  have hl : lv_has ls 12 [(0, .double x), (2, .double y), (4, .double w1), (6, .double w2), (8, .double lo), (10, .double hi)] := hl
  have hown : s.vm.findClass RX4 = some m.cls := hown
  refine lv_dload hx hb dX4_narrow_0 (lv_at hl 2 rfl) ?_
  refine lv_dconst0 hx hb dX4_narrow_2 ?_
  refine fz_dg_lt (tgt := 9) hx hb dX4_narrow_3 dX4_narrow_4 (by decide) (fun c3 => ?_) (fun c3 => ?_)
  · refine lv_dload hx hb dX4_narrow_9 (lv_at hl 3 rfl) ?_
    refine lv_dconst0 hx hb dX4_narrow_11 ?_
    refine fz_dl_gt (tgt := 18) hx hb dX4_narrow_12 dX4_narrow_13 (by decide) (fun c12 => ?_) (fun c12 => ?_)
    · refine lv_dload hx hb dX4_narrow_18 (lv_at hl 3 rfl) ?_
      refine lv_dload_n hx hb dX4_narrow_20 rfl (lv_at hl 0 rfl) ?_
      refine lv_dmul hx hb dX4_narrow_21 ((hok c3 c12).1) ?_
      refine lv_dload hx hb dX4_narrow_22 (lv_at hl 2 rfl) ?_
      refine lv_dload_n hx hb dX4_narrow_24 rfl (lv_at hl 1 rfl) ?_
      refine lv_dmul hx hb dX4_narrow_25 ((hok c3 c12).2.1) ?_
      refine lv_dsub hx hb dX4_narrow_26 ((hok c3 c12).2.2.1) ?_
      refine lv_dload hx hb dX4_narrow_27 (lv_at hl 2 rfl) ?_
      refine lv_dload hx hb dX4_narrow_29 (lv_at hl 3 rfl) ?_
      refine lv_dmul hx hb dX4_narrow_31 ((hok c3 c12).2.2.2.1) ?_
      refine lv_dload hx hb dX4_narrow_32 (lv_at hl 5 rfl) ?_
      refine lv_dload hx hb dX4_narrow_34 (lv_at hl 4 rfl) ?_
      refine lv_dsub hx hb dX4_narrow_36 (nj) ?_
      refine lv_dmul hx hb dX4_narrow_37 ((hok c3 c12).2.2.2.2.1) ?_
      refine lv_dadd hx hb dX4_narrow_38 ((hok c3 c12).2.2.2.2.2.1) ?_
      refine lv_dload hx hb dX4_narrow_39 (lv_at hl 3 rfl) ?_
      refine lv_dload hx hb dX4_narrow_41 (lv_at hl 2 rfl) ?_
      refine lv_dsub hx hb dX4_narrow_43 ((hok c3 c12).2.2.2.2.2.2.1) ?_
      refine lv_ddiv hx hb dX4_narrow_44 ((hok c3 c12).2.2.2.2.2.2.2) ?_
      exact fz_dret hx hb hr hlocks (by simp [fz_bld, c3, c12]) hP hK hD hS dX4_narrow_45
    · refine lv_dload_n hx hb dX4_narrow_16 rfl (lv_at hl 1 rfl) ?_
      exact fz_dret hx hb hr hlocks (by simp [fz_bld, c3, c12]) hP hK hD hS dX4_narrow_17
  · refine lv_dload_n hx hb dX4_narrow_7 rfl (lv_at hl 0 rfl) ?_
    exact fz_dret hx hb hr hlocks (by simp [fz_bld, c3]) hP hK hD hS dX4_narrow_8

set_option maxHeartbeats 4000000 in
set_option maxRecDepth 100000 in
theorem c_X4_thrown (l : Launch) (D : va_G) (cD : ClassId) (o dp mp n kd lim sol ord : Nat) (dR mR : Nat → UInt64) (thr : Int32) (tm v0 v1 v2 v3 v4 v5 v6 v7 : UInt64) (cst cfl crf : Int32) : fz_C l D [(cD, .double)] yX4_thrown wsX4_thrown ({ frames := 0, cells := 0, slots := 0, locals := 0 }) [.ref o] [(o, .inr (4, [.int thr, .int (nI n), .int (nI kd), .int (nI lim), .int (nI sol), .int (nI ord), .double tm, .int cst, .int cfl, .int crf, .ref dp, .ref mp, .double v0, .double v1, .double v2, .double v3, .double v4, .double v5, .double v6, .double v7]))] [(o, .inr (4, [.int thr, .int (nI n), .int (nI kd), .int (nI lim), .int (nI sol), .int (nI ord), .double tm, .int cst, .int cfl, .int crf, .ref dp, .ref mp, .double v0, .double v1, .double v2, .double v3, .double v4, .double v5, .double v6, .double v7]))] (some (.int thr)) := by
  refine fz_start (cc := cX4_thrown) (maxL := 1) (ret := (some .int)) (by decide) rfl (Nat.le_of_ble_eq_true rfl) ?_
  intro p e s m below meth c A hx hb hr hlocks hml hown hts hK hA hNW H locs hP hD hS ls hl
  have hl : lv_has ls 1 [(0, .ref o)] := hl
  have hown : s.vm.findClass RX4 = some m.cls := hown
  have hw_fieldLink_RX4_27_FlowGridModel_thrown_I := hts (.fieldLink RX4 27 "FlowGridModel" "thrown" "I") (by decide +kernel)
  have hin_X4 : ∀ w ∈ u_ws RX4 TX4 20, w ∈ wsX4_thrown := by decide +kernel
  refine lv_aload_n hx hb dX4_thrown_0 rfl (lv_at hl 0 rfl) ?_
  refine va_get (D := D) (ci := 4) (v := .int thr) (C := RX4) (T := TX4) (N := 20) hx hb hts hin_X4 hown hK hP 0 rfl rfl 0 (by decide) hw_fieldLink_RX4_27_FlowGridModel_thrown_I (fun _ h9 => h9) rfl dX4_thrown_1 ?_
  exact fz_iret hx hb hr hlocks (rfl) hP hK hD hS dX4_thrown_4

set_option maxHeartbeats 4000000 in
set_option maxRecDepth 100000 in
theorem c_X4_fails (l : Launch) (D : va_G) (cD : ClassId) (o dp mp n kd lim sol ord : Nat) (dR mR : Nat → UInt64) (thr : Int32) (tm v0 v1 v2 v3 v4 v5 v6 v7 : UInt64) (cst cfl crf : Int32) (bb : Bool) (cd : Nat) : fz_C l D [(cD, .double)] yX4_fails wsX4_fails ({ frames := 0, cells := 0, slots := 0, locals := 0 }) [.ref o, .int (fz_b bb), .int (nI cd)] [(o, .inr (4, [.int thr, .int (nI n), .int (nI kd), .int (nI lim), .int (nI sol), .int (nI ord), .double tm, .int cst, .int cfl, .int crf, .ref dp, .ref mp, .double v0, .double v1, .double v2, .double v3, .double v4, .double v5, .double v6, .double v7]))] [(o, .inr (4, [.int (fz_thr bb (nI cd)), .int (nI n), .int (nI kd), .int (nI lim), .int (nI sol), .int (nI ord), .double tm, .int cst, .int cfl, .int crf, .ref dp, .ref mp, .double v0, .double v1, .double v2, .double v3, .double v4, .double v5, .double v6, .double v7]))] (some (.int (fz_b bb))) := by
  refine fz_start (cc := cX4_fails) (maxL := 3) (ret := (some .boolean)) (by decide) rfl (Nat.le_of_ble_eq_true rfl) ?_
  intro p e s m below meth c A hx hb hr hlocks hml hown hts hK hA hNW H locs hP hD hS ls hl
  have hl : lv_has ls 3 [(0, .ref o), (1, .int (fz_b bb)), (2, .int (nI cd))] := hl
  have hown : s.vm.findClass RX4 = some m.cls := hown
  have hw_fieldLink_RX4_27_FlowGridModel_thrown_I := hts (.fieldLink RX4 27 "FlowGridModel" "thrown" "I") (by decide +kernel)
  have hin_X4 : ∀ w ∈ u_ws RX4 TX4 20, w ∈ wsX4_fails := by decide +kernel
  refine lv_aload_n hx hb dX4_fails_0 rfl (lv_at hl 0 rfl) ?_
  refine lv_iload_n hx hb dX4_fails_1 rfl (lv_at hl 1 rfl) ?_
  have jn5 : ∀ v : Int32, v = fz_thr bb (nI cd) → ∀ (H : Heap) (locs : List Loc), va_P D vwCl [(o, .inr (4, [.int thr, .int (nI n), .int (nI kd), .int (nI lim), .int (nI sol), .int (nI ord), .double tm, .int cst, .int cfl, .int crf, .ref dp, .ref mp, .double v0, .double v1, .double v2, .double v3, .double v4, .double v5, .double v6, .double v7]))] H → va_D A [(o, .inr (4, [.int thr, .int (nI n), .int (nI kd), .int (nI lim), .int (nI sol), .int (nI ord), .double tm, .int cst, .int cfl, .int crf, .ref dp, .ref mp, .double v0, .double v1, .double v2, .double v3, .double v4, .double v5, .double v6, .double v7]))] → va_S A s.heap H locs → W p l e ({ frames := 0, cells := 0, slots := 0, locals := 0 }) s m ([.ref o, .int (fz_b bb), .int (nI cd)] : List Value).toArray below meth c H locs 0 0 (MQ below (fz_O D [(cD, .double)] [(o, .inr (4, [.int (fz_thr bb (nI cd)), .int (nI n), .int (nI kd), .int (nI lim), .int (nI sol), .int (nI ord), .double tm, .int cst, .int cfl, .int crf, .ref dp, .ref mp, .double v0, .double v1, .double v2, .double v3, .double v4, .double v5, .double v6, .double v7]))] (some (.int (fz_b bb))) A) ([.ref o, .int (fz_b bb), .int (nI cd)] : List Value).toArray s 0 0 A) (F0 m 10 ls [.int v, .ref o]) := by
    intro v ev H locs hP hD hS
    subst ev
    refine va_put (D := D) (ci := 4) (v := .int (fz_thr bb (nI cd))) (ty := .int) (C := RX4) (T := TX4) (N := 20) hx hb hts hin_X4 tyX4 tyX4_ok nmX4 hown hK hP hD hS 0 rfl rfl 0 (by decide) hw_fieldLink_RX4_27_FlowGridModel_thrown_I (fun _ h9 => h9) rfl (by decide +kernel) rfl rfl (Nat.le_of_ble_eq_true rfl) dX4_fails_10 (fun H locs hP hD hS => ?_)
    have hP : va_P D vwCl [(o, .inr (4, [.int (fz_thr bb (nI cd)), .int (nI n), .int (nI kd), .int (nI lim), .int (nI sol), .int (nI ord), .double tm, .int cst, .int cfl, .int crf, .ref dp, .ref mp, .double v0, .double v1, .double v2, .double v3, .double v4, .double v5, .double v6, .double v7]))] H := hP
    have hD : va_D A [(o, .inr (4, [.int (fz_thr bb (nI cd)), .int (nI n), .int (nI kd), .int (nI lim), .int (nI sol), .int (nI ord), .double tm, .int cst, .int cfl, .int crf, .ref dp, .ref mp, .double v0, .double v1, .double v2, .double v3, .double v4, .double v5, .double v6, .double v7]))] := hD
    refine lv_iload_n hx hb dX4_fails_13 rfl (lv_at hl 1 rfl) ?_
    exact fz_zret hx hb hr hlocks fz_nb (rfl) hP hK hD hS dX4_fails_14
  refine lv_if_eq (tgt := 9) hx hb dX4_fails_2 (by decide) (fun c2 => ?_) (fun c2 => ?_)
  · refine lv_iconst (v := nI 0) hx hb dX4_fails_9 (by decide) ?_
    exact jn5 _ (by simp [fz_thr, fz_b0.mp c2]) H locs hP hD hS
  · refine lv_iload_n hx hb dX4_fails_5 rfl (lv_at hl 2 rfl) ?_
    refine lv_goto (tgt := 10) hx hb dX4_fails_6 (by decide) ?_
    exact jn5 _ (by simp [fz_thr, fz_b1.mp c2]) H locs hP hD hS

set_option maxHeartbeats 4000000 in
set_option maxRecDepth 100000 in
theorem c_X4_slope0 (l : Launch) (D : va_G) (cD : ClassId) (o dp mp n kd sol ord : Nat) (dR mR : Nat → UInt64) (thr : Int32) (tm v0 v1 v2 v3 v4 v5 v6 v7 : UInt64) (cst cfl crf : Int32) (x y : UInt64) (hok : fz_slcOk x y) : fz_C l D [(cD, .double)] yX4_slope wsX4_slope ({ frames := 2, cells := 0, slots := 0, locals := 60 }) [.ref o, .double x, .double y] [(o, .inr (4, [.int thr, .int (nI n), .int (nI kd), .int (nI 0), .int (nI sol), .int (nI ord), .double tm, .int cst, .int cfl, .int crf, .ref dp, .ref mp, .double v0, .double v1, .double v2, .double v3, .double v4, .double v5, .double v6, .double v7]))] [(o, .inr (4, [.int thr, .int (nI n), .int (nI kd), .int (nI 0), .int (nI sol), .int (nI ord), .double tm, .int cst, .int cfl, .int crf, .ref dp, .ref mp, .double v0, .double v1, .double v2, .double v3, .double v4, .double v5, .double v6, .double v7]))] (some (.double (fz_slopeM 0 x y))) := by
  refine fz_start (cc := cX4_slope) (maxL := 9) (ret := (some .double)) (by decide) rfl (Nat.le_of_ble_eq_true rfl) ?_
  intro p e s m below meth c A hx hb hr hlocks hml hown hts hK hA hNW H locs hP hD hS ls hl
  have hl : lv_has ls 9 [(0, .ref o), (1, .double x), (3, .double y)] := hl
  have hown : s.vm.findClass RX4 = some m.cls := hown
  have hw_fieldLink_RX4_20_FlowGridModel_limiter_I := hts (.fieldLink RX4 20 "FlowGridModel" "limiter" "I") (by decide +kernel)
  have hin_X4 : ∀ w ∈ u_ws RX4 TX4 20, w ∈ wsX4_slope := by decide +kernel
  refine lv_aload_n hx hb dX4_slope_0 rfl (lv_at hl 0 rfl) ?_
  refine va_get (D := D) (ci := 4) (v := .int (nI 0)) (C := RX4) (T := TX4) (N := 20) hx hb hts hin_X4 hown hK hP 0 rfl rfl 3 (by decide) hw_fieldLink_RX4_20_FlowGridModel_limiter_I (fun _ h9 => h9) rfl dX4_slope_1 ?_
  refine lv_if_eq (tgt := 15) hx hb dX4_slope_4 (by decide) (fun c4 => ?_) (fun c4 => absurd c4 (by decide))
  refine lv_dconst0 hx hb dX4_slope_15 ?_
  exact fz_dret hx hb hr hlocks (by simp [fz_slopeM, fz_mostM]) hP hK hD hS dX4_slope_16

set_option maxHeartbeats 4000000 in
set_option maxRecDepth 100000 in
theorem c_X4_slope1 (l : Launch) (D : va_G) (cD : ClassId) (o dp mp n kd sol ord : Nat) (dR mR : Nat → UInt64) (thr : Int32) (tm v0 v1 v2 v3 v4 v5 v6 v7 : UInt64) (cst cfl crf : Int32) (x y : UInt64) (hok : fz_slcOk x y) : fz_C l D [(cD, .double)] yX4_slope wsX4_slope ({ frames := 2, cells := 0, slots := 0, locals := 60 }) [.ref o, .double x, .double y] [(o, .inr (4, [.int thr, .int (nI n), .int (nI kd), .int (nI 1), .int (nI sol), .int (nI ord), .double tm, .int cst, .int cfl, .int crf, .ref dp, .ref mp, .double v0, .double v1, .double v2, .double v3, .double v4, .double v5, .double v6, .double v7]))] [(o, .inr (4, [.int thr, .int (nI n), .int (nI kd), .int (nI 1), .int (nI sol), .int (nI ord), .double tm, .int cst, .int cfl, .int crf, .ref dp, .ref mp, .double v0, .double v1, .double v2, .double v3, .double v4, .double v5, .double v6, .double v7]))] (some (.double (fz_slopeM 1 x y))) := by
  refine fz_start (cc := cX4_slope) (maxL := 9) (ret := (some .double)) (by decide) rfl (Nat.le_of_ble_eq_true rfl) ?_
  intro p e s m below meth c A hx hb hr hlocks hml hown hts hK hA hNW H locs hP hD hS ls hl
  have hl : lv_has ls 9 [(0, .ref o), (1, .double x), (3, .double y)] := hl
  have hown : s.vm.findClass RX4 = some m.cls := hown
  have hw_fieldLink_RX4_20_FlowGridModel_limiter_I := hts (.fieldLink RX4 20 "FlowGridModel" "limiter" "I") (by decide +kernel)
  have hin_X4 : ∀ w ∈ u_ws RX4 TX4 20, w ∈ wsX4_slope := by decide +kernel
  refine lv_aload_n hx hb dX4_slope_0 rfl (lv_at hl 0 rfl) ?_
  refine va_get (D := D) (ci := 4) (v := .int (nI 1)) (C := RX4) (T := TX4) (N := 20) hx hb hts hin_X4 hown hK hP 0 rfl rfl 3 (by decide) hw_fieldLink_RX4_20_FlowGridModel_limiter_I (fun _ h9 => h9) rfl dX4_slope_1 ?_
  refine lv_if_eq (tgt := 15) hx hb dX4_slope_4 (by decide) (fun c4 => absurd c4 (by decide)) (fun c4 => ?_)
  refine lv_dload_n hx hb dX4_slope_7 rfl (lv_at hl 1 rfl) ?_
  refine lv_dload_n hx hb dX4_slope_8 rfl (lv_at hl 2 rfl) ?_
  refine lv_dmul hx hb dX4_slope_9 (hok.2.2.1) ?_
  refine lv_dconst0 hx hb dX4_slope_10 ?_
  refine fz_dl_gt (tgt := 17) hx hb dX4_slope_11 dX4_slope_12 (by decide) (fun c11 => ?_) (fun c11 => ?_)
  · refine lv_aload_n hx hb dX4_slope_17 rfl (lv_at hl 0 rfl) ?_
    refine va_get (D := D) (ci := 4) (v := .int (nI 1)) (C := RX4) (T := TX4) (N := 20) hx hb hts hin_X4 hown hK hP 0 rfl rfl 3 (by decide) hw_fieldLink_RX4_20_FlowGridModel_limiter_I (fun _ h9 => h9) rfl dX4_slope_18 ?_
    refine lv_iconst (v := nI 1) hx hb dX4_slope_21 (by decide) ?_
    refine fz_icmp_neN (tgt := 31) hx hb (by omega) (by omega) dX4_slope_22 (by decide) (fun c22 => absurd c22 (by decide)) (fun c22 => ?_)
    refine lv_dload_n hx hb dX4_slope_25 rfl (lv_at hl 1 rfl) ?_
    refine lv_dload_n hx hb dX4_slope_26 rfl (lv_at hl 2 rfl) ?_
    refine fz_callS (ws' := [(o, .inr (4, [.int thr, .int (nI n), .int (nI kd), .int (nI 1), .int (nI sol), .int (nI ord), .double tm, .int cst, .int cfl, .int crf, .ref dp, .ref mp, .double v0, .double v1, .double v2, .double v3, .double v4, .double v5, .double v6, .double v7]))]) (wr := [(o, .inr (4, [.int thr, .int (nI n), .int (nI kd), .int (nI 1), .int (nI sol), .int (nI ord), .double tm, .int cst, .int cfl, .int crf, .ref dp, .ref mp, .double v0, .double v1, .double v2, .double v3, .double v4, .double v5, .double v6, .double v7]))]) (As := [.double x, .double y]) (rest := []) ⟨hx, hb, hml, hown, hts⟩ (c_X4_least l D cD x y) (va_cwS 2 hts gX4_slope_X4_least rfl rfl rfl (by decide +kernel) ⟨Nat.le_of_ble_eq_true rfl, Nat.le_of_ble_eq_true rfl⟩) hK hNW hP hD hS hA [] [0] [0] rfl rfl rfl rfl (by decide) rfl rfl rfl hl.1 rfl (Nat.le_of_ble_eq_true rfl) dX4_slope_27 ⟨Nat.zero_le _, Nat.zero_le _⟩ (fun H locs hP hD hS => ?_)
    exact fz_dret hx hb hr hlocks (by simp [fz_slopeM, fz_mostM, c11]) hP hK hD hS dX4_slope_30
  · refine lv_dconst0 hx hb dX4_slope_15 ?_
    exact fz_dret hx hb hr hlocks (by simp [fz_slopeM, fz_mostM, c11]) hP hK hD hS dX4_slope_16

set_option maxHeartbeats 4000000 in
set_option maxRecDepth 100000 in
theorem c_X4_slope2 (l : Launch) (D : va_G) (cD : ClassId) (o dp mp n kd sol ord : Nat) (dR mR : Nat → UInt64) (thr : Int32) (tm v0 v1 v2 v3 v4 v5 v6 v7 : UInt64) (cst cfl crf : Int32) (x y : UInt64) (hok : fz_slcOk x y) : fz_C l D [(cD, .double)] yX4_slope wsX4_slope ({ frames := 2, cells := 0, slots := 0, locals := 60 }) [.ref o, .double x, .double y] [(o, .inr (4, [.int thr, .int (nI n), .int (nI kd), .int (nI 2), .int (nI sol), .int (nI ord), .double tm, .int cst, .int cfl, .int crf, .ref dp, .ref mp, .double v0, .double v1, .double v2, .double v3, .double v4, .double v5, .double v6, .double v7]))] [(o, .inr (4, [.int thr, .int (nI n), .int (nI kd), .int (nI 2), .int (nI sol), .int (nI ord), .double tm, .int cst, .int cfl, .int crf, .ref dp, .ref mp, .double v0, .double v1, .double v2, .double v3, .double v4, .double v5, .double v6, .double v7]))] (some (.double (fz_slopeM 2 x y))) := by
  refine fz_start (cc := cX4_slope) (maxL := 9) (ret := (some .double)) (by decide) rfl (Nat.le_of_ble_eq_true rfl) ?_
  intro p e s m below meth c A hx hb hr hlocks hml hown hts hK hA hNW H locs hP hD hS ls hl
  have hl : lv_has ls 9 [(0, .ref o), (1, .double x), (3, .double y)] := hl
  have hown : s.vm.findClass RX4 = some m.cls := hown
  have hw_fieldLink_RX4_20_FlowGridModel_limiter_I := hts (.fieldLink RX4 20 "FlowGridModel" "limiter" "I") (by decide +kernel)
  have hin_X4 : ∀ w ∈ u_ws RX4 TX4 20, w ∈ wsX4_slope := by decide +kernel
  have hw_constantDouble_RX4_76_4611686018427387904 := hts (.constantDouble RX4 76 (4611686018427387904)) (by decide +kernel)
  refine lv_aload_n hx hb dX4_slope_0 rfl (lv_at hl 0 rfl) ?_
  refine va_get (D := D) (ci := 4) (v := .int (nI 2)) (C := RX4) (T := TX4) (N := 20) hx hb hts hin_X4 hown hK hP 0 rfl rfl 3 (by decide) hw_fieldLink_RX4_20_FlowGridModel_limiter_I (fun _ h9 => h9) rfl dX4_slope_1 ?_
  refine lv_if_eq (tgt := 15) hx hb dX4_slope_4 (by decide) (fun c4 => absurd c4 (by decide)) (fun c4 => ?_)
  refine lv_dload_n hx hb dX4_slope_7 rfl (lv_at hl 1 rfl) ?_
  refine lv_dload_n hx hb dX4_slope_8 rfl (lv_at hl 2 rfl) ?_
  refine lv_dmul hx hb dX4_slope_9 (hok.2.2.1) ?_
  refine lv_dconst0 hx hb dX4_slope_10 ?_
  refine fz_dl_gt (tgt := 17) hx hb dX4_slope_11 dX4_slope_12 (by decide) (fun c11 => ?_) (fun c11 => ?_)
  · refine lv_aload_n hx hb dX4_slope_17 rfl (lv_at hl 0 rfl) ?_
    refine va_get (D := D) (ci := 4) (v := .int (nI 2)) (C := RX4) (T := TX4) (N := 20) hx hb hts hin_X4 hown hK hP 0 rfl rfl 3 (by decide) hw_fieldLink_RX4_20_FlowGridModel_limiter_I (fun _ h9 => h9) rfl dX4_slope_18 ?_
    refine lv_iconst (v := nI 1) hx hb dX4_slope_21 (by decide) ?_
    refine fz_icmp_neN (tgt := 31) hx hb (by omega) (by omega) dX4_slope_22 (by decide) (fun c22 => ?_) (fun c22 => absurd c22 (by decide))
    refine lv_aload_n hx hb dX4_slope_31 rfl (lv_at hl 0 rfl) ?_
    refine va_get (D := D) (ci := 4) (v := .int (nI 2)) (C := RX4) (T := TX4) (N := 20) hx hb hts hin_X4 hown hK hP 0 rfl rfl 3 (by decide) hw_fieldLink_RX4_20_FlowGridModel_limiter_I (fun _ h9 => h9) rfl dX4_slope_32 ?_
    refine lv_iconst (v := nI 3) hx hb dX4_slope_35 (by decide) ?_
    refine fz_icmp_neN (tgt := 51) hx hb (by omega) (by omega) dX4_slope_36 (by decide) (fun c36 => ?_) (fun c36 => absurd c36 (by decide))
    refine lv_ldc2d hx hb hown hw_constantDouble_RX4_76_4611686018427387904 dX4_slope_51 ?_
    refine lv_dload_n hx hb dX4_slope_54 rfl (lv_at hl 1 rfl) ?_
    refine lv_dmul hx hb dX4_slope_55 (hok.2.2.2.1) ?_
    refine lv_dload_n hx hb dX4_slope_56 rfl (lv_at hl 2 rfl) ?_
    refine fz_callS (ws' := [(o, .inr (4, [.int thr, .int (nI n), .int (nI kd), .int (nI 2), .int (nI sol), .int (nI ord), .double tm, .int cst, .int cfl, .int crf, .ref dp, .ref mp, .double v0, .double v1, .double v2, .double v3, .double v4, .double v5, .double v6, .double v7]))]) (wr := [(o, .inr (4, [.int thr, .int (nI n), .int (nI kd), .int (nI 2), .int (nI sol), .int (nI ord), .double tm, .int cst, .int cfl, .int crf, .ref dp, .ref mp, .double v0, .double v1, .double v2, .double v3, .double v4, .double v5, .double v6, .double v7]))]) (As := [.double (FP.dmul 4611686018427387904 x), .double y]) (rest := []) ⟨hx, hb, hml, hown, hts⟩ (c_X4_least l D cD (FP.dmul 4611686018427387904 x) y) (va_cwS 2 hts gX4_slope_X4_least rfl rfl rfl (by decide +kernel) ⟨Nat.le_of_ble_eq_true rfl, Nat.le_of_ble_eq_true rfl⟩) hK hNW hP hD hS hA [] [0] [0] rfl rfl rfl rfl (by decide) rfl rfl rfl hl.1 rfl (Nat.le_of_ble_eq_true rfl) dX4_slope_57 ⟨Nat.zero_le _, Nat.zero_le _⟩ (fun H locs hP hD hS => ?_)
    refine lv_dstore (lv' := [(5, .double (fz_leastM (FP.dmul 4611686018427387904 x) y)), (0, .ref o), (1, .double x), (3, .double y)]) hx hb dX4_slope_60 hl (by decide) rfl (fun ls hl => ?_)
    refine lv_dload_n hx hb dX4_slope_62 rfl (lv_at hl 2 rfl) ?_
    refine lv_ldc2d hx hb hown hw_constantDouble_RX4_76_4611686018427387904 dX4_slope_63 ?_
    refine lv_dload_n hx hb dX4_slope_66 rfl (lv_at hl 3 rfl) ?_
    refine lv_dmul hx hb dX4_slope_67 (hok.2.2.2.2.1) ?_
    refine fz_callS (ws' := [(o, .inr (4, [.int thr, .int (nI n), .int (nI kd), .int (nI 2), .int (nI sol), .int (nI ord), .double tm, .int cst, .int cfl, .int crf, .ref dp, .ref mp, .double v0, .double v1, .double v2, .double v3, .double v4, .double v5, .double v6, .double v7]))]) (wr := [(o, .inr (4, [.int thr, .int (nI n), .int (nI kd), .int (nI 2), .int (nI sol), .int (nI ord), .double tm, .int cst, .int cfl, .int crf, .ref dp, .ref mp, .double v0, .double v1, .double v2, .double v3, .double v4, .double v5, .double v6, .double v7]))]) (As := [.double x, .double (FP.dmul 4611686018427387904 y)]) (rest := []) ⟨hx, hb, hml, hown, hts⟩ (c_X4_least l D cD x (FP.dmul 4611686018427387904 y)) (va_cwS 2 hts gX4_slope_X4_least rfl rfl rfl (by decide +kernel) ⟨Nat.le_of_ble_eq_true rfl, Nat.le_of_ble_eq_true rfl⟩) hK hNW hP hD hS hA [] [0] [0] rfl rfl rfl rfl (by decide) rfl rfl rfl hl.1 rfl (Nat.le_of_ble_eq_true rfl) dX4_slope_68 ⟨Nat.zero_le _, Nat.zero_le _⟩ (fun H locs hP hD hS => ?_)
    refine lv_dstore (lv' := [(7, .double (fz_leastM x (FP.dmul 4611686018427387904 y))), (5, .double (fz_leastM (FP.dmul 4611686018427387904 x) y)), (0, .ref o), (1, .double x), (3, .double y)]) hx hb dX4_slope_71 hl (by decide) rfl (fun ls hl => ?_)
    refine lv_dload hx hb dX4_slope_73 (lv_at hl 1 rfl) ?_
    refine fz_callS (ws' := [(o, .inr (4, [.int thr, .int (nI n), .int (nI kd), .int (nI 2), .int (nI sol), .int (nI ord), .double tm, .int cst, .int cfl, .int crf, .ref dp, .ref mp, .double v0, .double v1, .double v2, .double v3, .double v4, .double v5, .double v6, .double v7]))]) (wr := [(o, .inr (4, [.int thr, .int (nI n), .int (nI kd), .int (nI 2), .int (nI sol), .int (nI ord), .double tm, .int cst, .int cfl, .int crf, .ref dp, .ref mp, .double v0, .double v1, .double v2, .double v3, .double v4, .double v5, .double v6, .double v7]))]) (As := [.double (fz_leastM (FP.dmul 4611686018427387904 x) y)]) (rest := []) ⟨hx, hb, hml, hown, hts⟩ (c_X4_size l D cD (fz_leastM (FP.dmul 4611686018427387904 x) y)) (va_cwS 1 hts gX4_slope_X4_size rfl rfl rfl (by decide +kernel) ⟨Nat.le_of_ble_eq_true rfl, Nat.le_of_ble_eq_true rfl⟩) hK hNW hP hD hS hA [] [0] [0] rfl rfl rfl rfl (by decide) rfl rfl rfl hl.1 rfl (Nat.le_of_ble_eq_true rfl) dX4_slope_75 ⟨Nat.zero_le _, Nat.zero_le _⟩ (fun H locs hP hD hS => ?_)
    refine lv_dload hx hb dX4_slope_78 (lv_at hl 0 rfl) ?_
    refine fz_callS (ws' := [(o, .inr (4, [.int thr, .int (nI n), .int (nI kd), .int (nI 2), .int (nI sol), .int (nI ord), .double tm, .int cst, .int cfl, .int crf, .ref dp, .ref mp, .double v0, .double v1, .double v2, .double v3, .double v4, .double v5, .double v6, .double v7]))]) (wr := [(o, .inr (4, [.int thr, .int (nI n), .int (nI kd), .int (nI 2), .int (nI sol), .int (nI ord), .double tm, .int cst, .int cfl, .int crf, .ref dp, .ref mp, .double v0, .double v1, .double v2, .double v3, .double v4, .double v5, .double v6, .double v7]))]) (As := [.double (fz_leastM x (FP.dmul 4611686018427387904 y))]) (rest := [.double (fz_abs (fz_leastM (FP.dmul 4611686018427387904 x) y))]) ⟨hx, hb, hml, hown, hts⟩ (c_X4_size l D cD (fz_leastM x (FP.dmul 4611686018427387904 y))) (va_cwS 1 hts gX4_slope_X4_size rfl rfl rfl (by decide +kernel) ⟨Nat.le_of_ble_eq_true rfl, Nat.le_of_ble_eq_true rfl⟩) hK hNW hP hD hS hA [] [0] [0] rfl rfl rfl rfl (by decide) rfl rfl rfl hl.1 rfl (Nat.le_of_ble_eq_true rfl) dX4_slope_80 ⟨Nat.zero_le _, Nat.zero_le _⟩ (fun H locs hP hD hS => ?_)
    refine fz_dl_lt (tgt := 92) hx hb dX4_slope_83 dX4_slope_84 (by decide) (fun c83 => ?_) (fun c83 => ?_)
    · refine lv_dload hx hb dX4_slope_92 (lv_at hl 0 rfl) ?_
      exact fz_dret hx hb hr hlocks (by simp [fz_slopeM, fz_mostM, c11, c83]) hP hK hD hS dX4_slope_94
    · refine lv_dload hx hb dX4_slope_87 (lv_at hl 1 rfl) ?_
      refine lv_goto (tgt := 94) hx hb dX4_slope_89 (by decide) ?_
      exact fz_dret hx hb hr hlocks (by simp [fz_slopeM, fz_mostM, c11, c83]) hP hK hD hS dX4_slope_94
  · refine lv_dconst0 hx hb dX4_slope_15 ?_
    exact fz_dret hx hb hr hlocks (by simp [fz_slopeM, fz_mostM, c11]) hP hK hD hS dX4_slope_16

set_option maxHeartbeats 4000000 in
set_option maxRecDepth 100000 in
theorem c_X4_slope3 (l : Launch) (D : va_G) (cD : ClassId) (o dp mp n kd sol ord : Nat) (dR mR : Nat → UInt64) (thr : Int32) (tm v0 v1 v2 v3 v4 v5 v6 v7 : UInt64) (cst cfl crf : Int32) (x y : UInt64) (hok : fz_slcOk x y) : fz_C l D [(cD, .double)] yX4_slope wsX4_slope ({ frames := 2, cells := 0, slots := 0, locals := 60 }) [.ref o, .double x, .double y] [(o, .inr (4, [.int thr, .int (nI n), .int (nI kd), .int (nI 3), .int (nI sol), .int (nI ord), .double tm, .int cst, .int cfl, .int crf, .ref dp, .ref mp, .double v0, .double v1, .double v2, .double v3, .double v4, .double v5, .double v6, .double v7]))] [(o, .inr (4, [.int thr, .int (nI n), .int (nI kd), .int (nI 3), .int (nI sol), .int (nI ord), .double tm, .int cst, .int cfl, .int crf, .ref dp, .ref mp, .double v0, .double v1, .double v2, .double v3, .double v4, .double v5, .double v6, .double v7]))] (some (.double (fz_slopeM 3 x y))) := by
  refine fz_start (cc := cX4_slope) (maxL := 9) (ret := (some .double)) (by decide) rfl (Nat.le_of_ble_eq_true rfl) ?_
  intro p e s m below meth c A hx hb hr hlocks hml hown hts hK hA hNW H locs hP hD hS ls hl
  have hl : lv_has ls 9 [(0, .ref o), (1, .double x), (3, .double y)] := hl
  have hown : s.vm.findClass RX4 = some m.cls := hown
  have hw_fieldLink_RX4_20_FlowGridModel_limiter_I := hts (.fieldLink RX4 20 "FlowGridModel" "limiter" "I") (by decide +kernel)
  have hin_X4 : ∀ w ∈ u_ws RX4 TX4 20, w ∈ wsX4_slope := by decide +kernel
  have hw_constantDouble_RX4_76_4611686018427387904 := hts (.constantDouble RX4 76 (4611686018427387904)) (by decide +kernel)
  refine lv_aload_n hx hb dX4_slope_0 rfl (lv_at hl 0 rfl) ?_
  refine va_get (D := D) (ci := 4) (v := .int (nI 3)) (C := RX4) (T := TX4) (N := 20) hx hb hts hin_X4 hown hK hP 0 rfl rfl 3 (by decide) hw_fieldLink_RX4_20_FlowGridModel_limiter_I (fun _ h9 => h9) rfl dX4_slope_1 ?_
  refine lv_if_eq (tgt := 15) hx hb dX4_slope_4 (by decide) (fun c4 => absurd c4 (by decide)) (fun c4 => ?_)
  refine lv_dload_n hx hb dX4_slope_7 rfl (lv_at hl 1 rfl) ?_
  refine lv_dload_n hx hb dX4_slope_8 rfl (lv_at hl 2 rfl) ?_
  refine lv_dmul hx hb dX4_slope_9 (hok.2.2.1) ?_
  refine lv_dconst0 hx hb dX4_slope_10 ?_
  refine fz_dl_gt (tgt := 17) hx hb dX4_slope_11 dX4_slope_12 (by decide) (fun c11 => ?_) (fun c11 => ?_)
  · refine lv_aload_n hx hb dX4_slope_17 rfl (lv_at hl 0 rfl) ?_
    refine va_get (D := D) (ci := 4) (v := .int (nI 3)) (C := RX4) (T := TX4) (N := 20) hx hb hts hin_X4 hown hK hP 0 rfl rfl 3 (by decide) hw_fieldLink_RX4_20_FlowGridModel_limiter_I (fun _ h9 => h9) rfl dX4_slope_18 ?_
    refine lv_iconst (v := nI 1) hx hb dX4_slope_21 (by decide) ?_
    refine fz_icmp_neN (tgt := 31) hx hb (by omega) (by omega) dX4_slope_22 (by decide) (fun c22 => ?_) (fun c22 => absurd c22 (by decide))
    refine lv_aload_n hx hb dX4_slope_31 rfl (lv_at hl 0 rfl) ?_
    refine va_get (D := D) (ci := 4) (v := .int (nI 3)) (C := RX4) (T := TX4) (N := 20) hx hb hts hin_X4 hown hK hP 0 rfl rfl 3 (by decide) hw_fieldLink_RX4_20_FlowGridModel_limiter_I (fun _ h9 => h9) rfl dX4_slope_32 ?_
    refine lv_iconst (v := nI 3) hx hb dX4_slope_35 (by decide) ?_
    refine fz_icmp_neN (tgt := 51) hx hb (by omega) (by omega) dX4_slope_36 (by decide) (fun c36 => absurd c36 (by decide)) (fun c36 => ?_)
    refine lv_ldc2d hx hb hown hw_constantDouble_RX4_76_4611686018427387904 dX4_slope_39 ?_
    refine lv_dload_n hx hb dX4_slope_42 rfl (lv_at hl 1 rfl) ?_
    refine lv_dmul hx hb dX4_slope_43 (hok.2.2.2.1) ?_
    refine lv_dload_n hx hb dX4_slope_44 rfl (lv_at hl 2 rfl) ?_
    refine lv_dmul hx hb dX4_slope_45 (hok.2.2.2.2.2.1) ?_
    refine lv_dload_n hx hb dX4_slope_46 rfl (lv_at hl 1 rfl) ?_
    refine lv_dload_n hx hb dX4_slope_47 rfl (lv_at hl 2 rfl) ?_
    refine lv_dadd hx hb dX4_slope_48 (hok.2.2.2.2.2.2.1) ?_
    refine lv_ddiv hx hb dX4_slope_49 (hok.2.2.2.2.2.2.2 c11) ?_
    exact fz_dret hx hb hr hlocks (by simp [fz_slopeM, fz_mostM, c11]) hP hK hD hS dX4_slope_50
  · refine lv_dconst0 hx hb dX4_slope_15 ?_
    exact fz_dret hx hb hr hlocks (by simp [fz_slopeM, fz_mostM, c11]) hP hK hD hS dX4_slope_16

theorem c_X4_slope (l : Launch) (D : va_G) (cD : ClassId) (o dp mp n kd lim sol ord : Nat) (dR mR : Nat → UInt64) (thr : Int32) (tm v0 v1 v2 v3 v4 v5 v6 v7 : UInt64) (cst cfl crf : Int32) (x y : UInt64) (hlim : lim ≤ 3) (hok : fz_slcOk x y) : fz_C l D [(cD, .double)] yX4_slope wsX4_slope ({ frames := 2, cells := 0, slots := 0, locals := 60 }) [.ref o, .double x, .double y] [(o, .inr (4, [.int thr, .int (nI n), .int (nI kd), .int (nI lim), .int (nI sol), .int (nI ord), .double tm, .int cst, .int cfl, .int crf, .ref dp, .ref mp, .double v0, .double v1, .double v2, .double v3, .double v4, .double v5, .double v6, .double v7]))] [(o, .inr (4, [.int thr, .int (nI n), .int (nI kd), .int (nI lim), .int (nI sol), .int (nI ord), .double tm, .int cst, .int cfl, .int crf, .ref dp, .ref mp, .double v0, .double v1, .double v2, .double v3, .double v4, .double v5, .double v6, .double v7]))] (some (.double (fz_slopeM lim x y))) := by
  rcases (show lim = 0 ∨ lim = 1 ∨ lim = 2 ∨ lim = 3 by omega) with rfl | rfl | rfl | rfl
  · exact c_X4_slope0 l D cD o dp mp n kd sol ord dR mR thr tm v0 v1 v2 v3 v4 v5 v6 v7 cst cfl crf x y hok
  · exact c_X4_slope1 l D cD o dp mp n kd sol ord dR mR thr tm v0 v1 v2 v3 v4 v5 v6 v7 cst cfl crf x y hok
  · exact c_X4_slope2 l D cD o dp mp n kd sol ord dR mR thr tm v0 v1 v2 v3 v4 v5 v6 v7 cst cfl crf x y hok
  · exact c_X4_slope3 l D cD o dp mp n kd sol ord dR mR thr tm v0 v1 v2 v3 v4 v5 v6 v7 cst cfl crf x y hok

set_option maxHeartbeats 4000000 in
set_option maxRecDepth 100000 in
theorem c_X4_empty (l : Launch) (D : va_G) (cD : ClassId) (o dp mp n0 kd lim sol ord : Nat) (dR mR : Nat → UInt64) (thr : Int32) (tm v0 v1 v2 v3 v4 v5 v6 v7 : UInt64) (cst cfl crf : Int32) (n : Nat) (hn : n ≤ 24) : fz_C l D [(cD, .double)] yX4_empty wsX4_empty ({ frames := 0, cells := 0, slots := 0, locals := 0 }) [.ref o, .int (nI n)] [(o, .inr (4, [.int thr, .int (nI n0), .int (nI kd), .int (nI lim), .int (nI sol), .int (nI ord), .double tm, .int cst, .int cfl, .int crf, .ref dp, .ref mp, .double v0, .double v1, .double v2, .double v3, .double v4, .double v5, .double v6, .double v7])), (dp, fz_da cD 84 dR), (mp, fz_da cD 84 mR)] [(o, .inr (4, [.int thr, .int (nI n), .int (nI kd), .int (nI lim), .int (nI sol), .int (nI ord), .double FP.dconst0, .int cst, .int cfl, .int crf, .ref dp, .ref mp, .double v0, .double v1, .double v2, .double v3, .double v4, .double v5, .double v6, .double v7])), (dp, fz_da cD 84 (fz_pre 2 n (fun _ => FP.dconst1) dR)), (mp, fz_da cD 84 (fz_pre 2 n (fun _ => FP.dconst0) mR))] (none) := by
  refine fz_start (cc := cX4_empty) (maxL := 3) (ret := none) (by decide) rfl (Nat.le_of_ble_eq_true rfl) ?_
  intro p e s m below meth c A hx hb hr hlocks hml hown hts hK hA hNW H locs hP hD hS ls hl
  have hl : lv_has ls 3 [(0, .ref o), (1, .int (nI n))] := hl
  have hown : s.vm.findClass RX4 = some m.cls := hown
  have hw_fieldLink_RX4_30_FlowGridModel_n_I := hts (.fieldLink RX4 30 "FlowGridModel" "n" "I") (by decide +kernel)
  have hin_X4 : ∀ w ∈ u_ws RX4 TX4 20, w ∈ wsX4_empty := by decide +kernel
  have hw_fieldLink_RX4_33_FlowGridModel_time_D := hts (.fieldLink RX4 33 "FlowGridModel" "time" "D") (by decide +kernel)
  have hw_fieldLink_RX4_7_FlowGridModel_depth_D := hts (.fieldLink RX4 7 "FlowGridModel" "depth" "[D") (by decide +kernel)
  have hw_fieldLink_RX4_13_FlowGridModel_momentum_D := hts (.fieldLink RX4 13 "FlowGridModel" "momentum" "[D") (by decide +kernel)
  refine lv_aload_n hx hb dX4_empty_0 rfl (lv_at hl 0 rfl) ?_
  refine lv_iload_n hx hb dX4_empty_1 rfl (lv_at hl 1 rfl) ?_
  refine va_put (D := D) (ci := 4) (v := .int (nI n)) (ty := .int) (C := RX4) (T := TX4) (N := 20) hx hb hts hin_X4 tyX4 tyX4_ok nmX4 hown hK hP hD hS 0 rfl rfl 1 (by decide) hw_fieldLink_RX4_30_FlowGridModel_n_I (fun _ h9 => h9) rfl (by decide +kernel) rfl rfl (Nat.le_of_ble_eq_true rfl) dX4_empty_2 (fun H locs hP hD hS => ?_)
  have hP : va_P D vwCl [(o, .inr (4, [.int thr, .int (nI n), .int (nI kd), .int (nI lim), .int (nI sol), .int (nI ord), .double tm, .int cst, .int cfl, .int crf, .ref dp, .ref mp, .double v0, .double v1, .double v2, .double v3, .double v4, .double v5, .double v6, .double v7])), (dp, fz_da cD 84 dR), (mp, fz_da cD 84 mR)] H := hP
  have hD : va_D A [(o, .inr (4, [.int thr, .int (nI n), .int (nI kd), .int (nI lim), .int (nI sol), .int (nI ord), .double tm, .int cst, .int cfl, .int crf, .ref dp, .ref mp, .double v0, .double v1, .double v2, .double v3, .double v4, .double v5, .double v6, .double v7])), (dp, fz_da cD 84 dR), (mp, fz_da cD 84 mR)] := hD
  refine lv_aload_n hx hb dX4_empty_5 rfl (lv_at hl 0 rfl) ?_
  refine lv_dconst0 hx hb dX4_empty_6 ?_
  refine va_put (D := D) (ci := 4) (v := .double FP.dconst0) (ty := .double) (C := RX4) (T := TX4) (N := 20) hx hb hts hin_X4 tyX4 tyX4_ok nmX4 hown hK hP hD hS 0 rfl rfl 6 (by decide) hw_fieldLink_RX4_33_FlowGridModel_time_D (fun _ h9 => h9) rfl (by decide +kernel) rfl rfl (Nat.le_of_ble_eq_true rfl) dX4_empty_7 (fun H locs hP hD hS => ?_)
  have hP : va_P D vwCl [(o, .inr (4, [.int thr, .int (nI n), .int (nI kd), .int (nI lim), .int (nI sol), .int (nI ord), .double FP.dconst0, .int cst, .int cfl, .int crf, .ref dp, .ref mp, .double v0, .double v1, .double v2, .double v3, .double v4, .double v5, .double v6, .double v7])), (dp, fz_da cD 84 dR), (mp, fz_da cD 84 mR)] H := hP
  have hD : va_D A [(o, .inr (4, [.int thr, .int (nI n), .int (nI kd), .int (nI lim), .int (nI sol), .int (nI ord), .double FP.dconst0, .int cst, .int cfl, .int crf, .ref dp, .ref mp, .double v0, .double v1, .double v2, .double v3, .double v4, .double v5, .double v6, .double v7])), (dp, fz_da cD 84 dR), (mp, fz_da cD 84 mR)] := hD
  refine lv_iconst (v := nI 0) hx hb dX4_empty_10 (by decide) ?_
  refine lv_istore_n (lv' := [(2, .int (nI 0)), (0, .ref o), (1, .int (nI n))]) hx hb dX4_empty_11 rfl hl (by decide) rfl (fun ls hl => ?_)
  have loop12 : ∀ (it k : Nat), k ≤ n → n < k + it → ∀ (H : Heap) (locs : List Loc) (ls : Array Slot), va_P D vwCl [(o, .inr (4, [.int thr, .int (nI n), .int (nI kd), .int (nI lim), .int (nI sol), .int (nI ord), .double FP.dconst0, .int cst, .int cfl, .int crf, .ref dp, .ref mp, .double v0, .double v1, .double v2, .double v3, .double v4, .double v5, .double v6, .double v7])), (dp, fz_da cD 84 (fz_pre 2 k (fun _ => FP.dconst1) dR)), (mp, fz_da cD 84 (fz_pre 2 k (fun _ => FP.dconst0) mR))] H → va_D A [(o, .inr (4, [.int thr, .int (nI n), .int (nI kd), .int (nI lim), .int (nI sol), .int (nI ord), .double FP.dconst0, .int cst, .int cfl, .int crf, .ref dp, .ref mp, .double v0, .double v1, .double v2, .double v3, .double v4, .double v5, .double v6, .double v7])), (dp, fz_da cD 84 (fz_pre 2 k (fun _ => FP.dconst1) dR)), (mp, fz_da cD 84 (fz_pre 2 k (fun _ => FP.dconst0) mR))] → va_S A s.heap H locs → lv_has ls 3 [(0, .ref o), (1, .int (nI n)), (2, .int (nI k))] → W p l e ({ frames := 0, cells := 0, slots := 0, locals := 0 }) s m ([.ref o, .int (nI n)] : List Value).toArray below meth c H locs 0 0 (MQ below (fz_O D [(cD, .double)] [(o, .inr (4, [.int thr, .int (nI n), .int (nI kd), .int (nI lim), .int (nI sol), .int (nI ord), .double FP.dconst0, .int cst, .int cfl, .int crf, .ref dp, .ref mp, .double v0, .double v1, .double v2, .double v3, .double v4, .double v5, .double v6, .double v7])), (dp, fz_da cD 84 (fz_pre 2 n (fun _ => FP.dconst1) dR)), (mp, fz_da cD 84 (fz_pre 2 n (fun _ => FP.dconst0) mR))] (none) A) ([.ref o, .int (nI n)] : List Value).toArray s 0 0 A) (F0 m 12 ls []) := by
    intro it
    induction it with
    | zero => intro k h1 h2; exact absurd h2 (by omega)
    | succ it ih =>
      intro k hkk hnk H locs ls hP hD hS hl
      refine lv_iload_n hx hb dX4_empty_12 rfl (lv_at hl 2 rfl) ?_
      refine lv_aload_n hx hb dX4_empty_13 rfl (lv_at hl 0 rfl) ?_
      refine va_get (D := D) (ci := 4) (v := .int (nI n)) (C := RX4) (T := TX4) (N := 20) hx hb hts hin_X4 hown hK hP 0 rfl rfl 1 (by decide) hw_fieldLink_RX4_30_FlowGridModel_n_I (fun _ h9 => h9) rfl dX4_empty_14 ?_
      refine fz_icmp_geN (tgt := 44) hx hb (by omega) (by omega) dX4_empty_17 (by decide) (fun c17 => ?_) (fun c17 => ?_)
      · have hkz : n = k := by omega
        subst hkz
        exact fz_vret hx hb hr hlocks (rfl) hP hK hD hS dX4_empty_44
      · refine lv_aload_n hx hb dX4_empty_20 rfl (lv_at hl 0 rfl) ?_
        refine va_get (D := D) (ci := 4) (v := .ref dp) (C := RX4) (T := TX4) (N := 20) hx hb hts hin_X4 hown hK hP 0 rfl rfl 10 (by decide) hw_fieldLink_RX4_7_FlowGridModel_depth_D (fun _ h9 => h9) rfl dX4_empty_21 ?_
        refine lv_iload_n hx hb dX4_empty_24 rfl (lv_at hl 2 rfl) ?_
        refine lv_iconst (v := nI 2) hx hb dX4_empty_25 (by decide) ?_
        refine fz_iaddN hx hb dX4_empty_26 ?_
        refine fz_topn (b := k + 2) (by omega) ?_
        refine lv_dconst1 hx hb dX4_empty_27 ?_
        refine fz_dast (i := k + 2) hx hb hK hP hD hS 1 0 rfl rfl (by omega) (by decide) dX4_empty_28 (fun H locs hP hD hS => ?_)
        have hP : va_P D vwCl [(o, .inr (4, [.int thr, .int (nI n), .int (nI kd), .int (nI lim), .int (nI sol), .int (nI ord), .double FP.dconst0, .int cst, .int cfl, .int crf, .ref dp, .ref mp, .double v0, .double v1, .double v2, .double v3, .double v4, .double v5, .double v6, .double v7])), (dp, fz_da cD 84 (vf_upd (fz_pre 2 k (fun _ => FP.dconst1) dR) (k + 2) FP.dconst1)), (mp, fz_da cD 84 (fz_pre 2 k (fun _ => FP.dconst0) mR))] H := hP
        have hD : va_D A [(o, .inr (4, [.int thr, .int (nI n), .int (nI kd), .int (nI lim), .int (nI sol), .int (nI ord), .double FP.dconst0, .int cst, .int cfl, .int crf, .ref dp, .ref mp, .double v0, .double v1, .double v2, .double v3, .double v4, .double v5, .double v6, .double v7])), (dp, fz_da cD 84 (vf_upd (fz_pre 2 k (fun _ => FP.dconst1) dR) (k + 2) FP.dconst1)), (mp, fz_da cD 84 (fz_pre 2 k (fun _ => FP.dconst0) mR))] := hD
        have hP : va_P D vwCl [(o, .inr (4, [.int thr, .int (nI n), .int (nI kd), .int (nI lim), .int (nI sol), .int (nI ord), .double FP.dconst0, .int cst, .int cfl, .int crf, .ref dp, .ref mp, .double v0, .double v1, .double v2, .double v3, .double v4, .double v5, .double v6, .double v7])), (dp, fz_da cD 84 (fz_pre 2 (k + 1) (fun _ => FP.dconst1) dR)), (mp, fz_da cD 84 (fz_pre 2 k (fun _ => FP.dconst0) mR))] H := by rw [← fz_pre_s 2 k (fun _ => FP.dconst1) dR]; exact hP
        have hD : va_D A [(o, .inr (4, [.int thr, .int (nI n), .int (nI kd), .int (nI lim), .int (nI sol), .int (nI ord), .double FP.dconst0, .int cst, .int cfl, .int crf, .ref dp, .ref mp, .double v0, .double v1, .double v2, .double v3, .double v4, .double v5, .double v6, .double v7])), (dp, fz_da cD 84 (fz_pre 2 (k + 1) (fun _ => FP.dconst1) dR)), (mp, fz_da cD 84 (fz_pre 2 k (fun _ => FP.dconst0) mR))] := by rw [← fz_pre_s 2 k (fun _ => FP.dconst1) dR]; exact hD
        refine lv_aload_n hx hb dX4_empty_29 rfl (lv_at hl 0 rfl) ?_
        refine va_get (D := D) (ci := 4) (v := .ref mp) (C := RX4) (T := TX4) (N := 20) hx hb hts hin_X4 hown hK hP 0 rfl rfl 11 (by decide) hw_fieldLink_RX4_13_FlowGridModel_momentum_D (fun _ h9 => h9) rfl dX4_empty_30 ?_
        refine lv_iload_n hx hb dX4_empty_33 rfl (lv_at hl 2 rfl) ?_
        refine lv_iconst (v := nI 2) hx hb dX4_empty_34 (by decide) ?_
        refine fz_iaddN hx hb dX4_empty_35 ?_
        refine fz_topn (b := k + 2) (by omega) ?_
        refine lv_dconst0 hx hb dX4_empty_36 ?_
        refine fz_dast (i := k + 2) hx hb hK hP hD hS 2 0 rfl rfl (by omega) (by decide) dX4_empty_37 (fun H locs hP hD hS => ?_)
        have hP : va_P D vwCl [(o, .inr (4, [.int thr, .int (nI n), .int (nI kd), .int (nI lim), .int (nI sol), .int (nI ord), .double FP.dconst0, .int cst, .int cfl, .int crf, .ref dp, .ref mp, .double v0, .double v1, .double v2, .double v3, .double v4, .double v5, .double v6, .double v7])), (dp, fz_da cD 84 (fz_pre 2 (k + 1) (fun _ => FP.dconst1) dR)), (mp, fz_da cD 84 (vf_upd (fz_pre 2 k (fun _ => FP.dconst0) mR) (k + 2) FP.dconst0))] H := hP
        have hD : va_D A [(o, .inr (4, [.int thr, .int (nI n), .int (nI kd), .int (nI lim), .int (nI sol), .int (nI ord), .double FP.dconst0, .int cst, .int cfl, .int crf, .ref dp, .ref mp, .double v0, .double v1, .double v2, .double v3, .double v4, .double v5, .double v6, .double v7])), (dp, fz_da cD 84 (fz_pre 2 (k + 1) (fun _ => FP.dconst1) dR)), (mp, fz_da cD 84 (vf_upd (fz_pre 2 k (fun _ => FP.dconst0) mR) (k + 2) FP.dconst0))] := hD
        have hP : va_P D vwCl [(o, .inr (4, [.int thr, .int (nI n), .int (nI kd), .int (nI lim), .int (nI sol), .int (nI ord), .double FP.dconst0, .int cst, .int cfl, .int crf, .ref dp, .ref mp, .double v0, .double v1, .double v2, .double v3, .double v4, .double v5, .double v6, .double v7])), (dp, fz_da cD 84 (fz_pre 2 (k + 1) (fun _ => FP.dconst1) dR)), (mp, fz_da cD 84 (fz_pre 2 (k + 1) (fun _ => FP.dconst0) mR))] H := by rw [← fz_pre_s 2 k (fun _ => FP.dconst0) mR]; exact hP
        have hD : va_D A [(o, .inr (4, [.int thr, .int (nI n), .int (nI kd), .int (nI lim), .int (nI sol), .int (nI ord), .double FP.dconst0, .int cst, .int cfl, .int crf, .ref dp, .ref mp, .double v0, .double v1, .double v2, .double v3, .double v4, .double v5, .double v6, .double v7])), (dp, fz_da cD 84 (fz_pre 2 (k + 1) (fun _ => FP.dconst1) dR)), (mp, fz_da cD 84 (fz_pre 2 (k + 1) (fun _ => FP.dconst0) mR))] := by rw [← fz_pre_s 2 k (fun _ => FP.dconst0) mR]; exact hD
        refine lv_iinc (v := nI (k + 1)) (lv' := [(2, .int (nI (k + 1))), (0, .ref o), (1, .int (nI n))]) hx hb dX4_empty_38 hl (k := 2) rfl (nI_1 _) (by decide) rfl (fun ls hl => ?_)
        refine lv_goto (tgt := 12) hx hb dX4_empty_41 (by decide) ?_
        exact ih (k + 1) (by omega) (by omega) H locs ls (hP) (hD) hS (lv_sub hl [1, 2, 0] rfl)
  exact loop12 (n + 1) 0 (by omega) (by omega) H locs ls (by rw [fz_pre_0, fz_pre_0]; exact hP) (by rw [fz_pre_0, fz_pre_0]; exact hD) hS (lv_sub hl [1, 2, 0] rfl)
