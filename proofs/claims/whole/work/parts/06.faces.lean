/-! FlowGrid$Faces -/
abbrev fz_two : UInt64 := 4611686018427387904
abbrev fz_c01 : UInt64 := 4576918229304087675
def fz_slopeC (lim : Nat) (a b : UInt64) : UInt64 := if lim = 0 then FP.dconst0 else if fz_lt FP.dconst0 (FP.dmul a b) = true then (if lim = 1 then fz_near a b else if lim = 2 then fz_farr (fz_near (FP.dmul fz_two a) b) (fz_near a (FP.dmul fz_two b)) else FP.ddiv (FP.dmul (FP.dmul fz_two a) b) (FP.dadd a b)) else FP.dconst0
def fz_slcOk (a b : UInt64) : Prop := vf_n64 a ∧ vf_n64 b ∧ vf_n64 (FP.dmul a b) ∧ vf_n64 (FP.dmul fz_two a) ∧ vf_n64 (FP.dmul fz_two b) ∧ vf_n64 (FP.dmul (FP.dmul fz_two a) b) ∧ vf_n64 (FP.dadd a b) ∧ (fz_lt FP.dconst0 (FP.dmul a b) = true → vf_n64 (FP.ddiv (FP.dmul (FP.dmul fz_two a) b) (FP.dadd a b)))
abbrev fz_dA (f : Nat → UInt64) (j : Nat) : UInt64 := FP.dsub (f (j + 1)) (f j)
abbrev fz_dB (f : Nat → UInt64) (j : Nat) : UInt64 := FP.dsub (f (j + 2)) (f (j + 1))
def fz_slAt (lim : Nat) (f : Nat → UInt64) (j : Nat) : UInt64 := fz_slopeC lim (fz_dA f j) (fz_dB f j)
def fz_dry (lim : Nat) (d : Nat → UInt64) (j : Nat) : Bool := fz_lt (FP.dadd (d (j + 1)) (FP.dmul fz_half (fz_slAt lim d j))) fz_c01 || fz_lt (FP.dsub (d (j + 1)) (FP.dmul fz_half (fz_slAt lim d j))) fz_c01
def fz_sHg (lim : Nat) (d : Nat → UInt64) (j : Nat) : UInt64 := if fz_dry lim d j = true then FP.dconst0 else fz_slAt lim d j
def fz_sMg (lim : Nat) (d m : Nat → UInt64) (j : Nat) : UInt64 := if fz_dry lim d j = true then FP.dconst0 else fz_slAt lim m j
def fz_fsOk (lim : Nat) (d m : Nat → UInt64) (n : Nat) : Prop := ∀ j, j < n + 2 → fz_slcOk (fz_dA d j) (fz_dB d j) ∧ fz_slcOk (fz_dA m j) (fz_dB m j) ∧ vf_n64 (FP.dmul fz_half (fz_slAt lim d j)) ∧ vf_n64 (FP.dadd (d (j + 1)) (FP.dmul fz_half (fz_slAt lim d j))) ∧ vf_n64 (FP.dsub (d (j + 1)) (FP.dmul fz_half (fz_slAt lim d j)))
abbrev fz_L (d s : Nat → UInt64) (k : Nat) : UInt64 := FP.dadd (d (k + 1)) (FP.dmul fz_half (s (k + 1)))
abbrev fz_R (d s : Nat → UInt64) (k : Nat) : UInt64 := FP.dsub (d (k + 2)) (FP.dmul fz_half (s (k + 2)))
def fz_gsOk (d m sH sM : Nat → UInt64) (k : Nat) : Prop := vf_n64 (FP.dmul fz_half (sH (k + 1))) ∧ vf_n64 (fz_L d sH k) ∧ vf_n64 (FP.dmul fz_half (sM (k + 1))) ∧ vf_n64 (fz_L m sM k) ∧ vf_n64 (FP.dmul fz_half (sH (k + 2))) ∧ vf_n64 (fz_R d sH k) ∧ vf_n64 (FP.dmul fz_half (sM (k + 2))) ∧ vf_n64 (fz_R m sM k) ∧ fz_stOk (fz_L d sH k) (fz_L m sM k) ∧ fz_stOk (fz_R d sH k) (fz_R m sM k)
def fz_brd (s F G l r : UInt64) : UInt64 := FP.dsub (FP.dmul fz_half (FP.dadd F G)) (FP.dmul (FP.dmul fz_half s) (FP.dsub r l))
def fz_brdOk (s F G l r : UInt64) : Prop := vf_n64 (FP.dadd F G) ∧ vf_n64 (FP.dmul fz_half (FP.dadd F G)) ∧ vf_n64 (FP.dmul fz_half s) ∧ vf_n64 (FP.dsub r l) ∧ vf_n64 (FP.dmul (FP.dmul fz_half s) (FP.dsub r l)) ∧ vf_n64 (fz_brd s F G l r)
def fz_bld (x y f g j : UInt64) : UInt64 := if fz_lt x FP.dconst0 = true then (if fz_lt FP.dconst0 y = true then FP.ddiv (FP.dadd (FP.dsub (FP.dmul y f) (FP.dmul x g)) (FP.dmul (FP.dmul x y) j)) (FP.dsub y x) else g) else f
def fz_bldOk (x y f g j : UInt64) : Prop := fz_lt x FP.dconst0 = true → fz_lt FP.dconst0 y = true → vf_n64 (FP.dmul y f) ∧ vf_n64 (FP.dmul x g) ∧ vf_n64 (FP.dsub (FP.dmul y f) (FP.dmul x g)) ∧ vf_n64 (FP.dmul x y) ∧ vf_n64 (FP.dmul (FP.dmul x y) j) ∧ vf_n64 (FP.dadd (FP.dsub (FP.dmul y f) (FP.dmul x g)) (FP.dmul (FP.dmul x y) j)) ∧ vf_n64 (FP.dsub y x) ∧ vf_n64 (FP.ddiv (FP.dadd (FP.dsub (FP.dmul y f) (FP.dmul x g)) (FP.dmul (FP.dmul x y) j)) (FP.dsub y x))
def fz_mfOk (h m u : UInt64) : Prop := vf_n64 (FP.dmul m u) ∧ vf_n64 (FP.dmul fz_half h) ∧ vf_n64 (FP.dmul (FP.dmul fz_half h) h) ∧ vf_n64 (fz_mflux h m u)
abbrev fz_sB (u1 c1 u2 c2 : UInt64) : UInt64 := fz_gtrC (fz_reach u1 c1) (fz_reach u2 c2)
abbrev fz_xN (u1 c1 u2 c2 : UInt64) : UInt64 := fz_lesC (FP.dsub u1 c1) (FP.dsub u2 c2)
abbrev fz_yN (u1 c1 u2 c2 : UInt64) : UInt64 := fz_gtrC (FP.dadd u1 c1) (FP.dadd u2 c2)
def fz_bOk (h1 m1 u1 c1 h2 m2 u2 c2 : UInt64) : Prop := vf_n64 (fz_reach u1 c1) ∧ vf_n64 (fz_reach u2 c2) ∧ fz_mfOk h1 m1 u1 ∧ fz_mfOk h2 m2 u2 ∧ fz_brdOk (fz_sB u1 c1 u2 c2) m1 m2 h1 h2 ∧ fz_brdOk (fz_sB u1 c1 u2 c2) (fz_mflux h1 m1 u1) (fz_mflux h2 m2 u2) m1 m2
def fz_nOk (h1 m1 u1 c1 h2 m2 u2 c2 : UInt64) : Prop := vf_n64 (FP.dsub u1 c1) ∧ vf_n64 (FP.dsub u2 c2) ∧ vf_n64 (FP.dadd u1 c1) ∧ vf_n64 (FP.dadd u2 c2) ∧ fz_mfOk h1 m1 u1 ∧ fz_mfOk h2 m2 u2 ∧ vf_n64 (FP.dsub h2 h1) ∧ vf_n64 (FP.dsub m2 m1) ∧ fz_bldOk (fz_xN u1 c1 u2 c2) (fz_yN u1 c1 u2 c2) m1 m2 (FP.dsub h2 h1) ∧ fz_bldOk (fz_xN u1 c1 u2 c2) (fz_yN u1 c1 u2 c2) (fz_mflux h1 m1 u1) (fz_mflux h2 m2 u2) (FP.dsub m2 m1)
def fz_fluxH (sol : Nat) (h1 m1 h2 m2 : UInt64) : UInt64 := if sol = 1 then fz_bld (fz_xN (FP.ddiv m1 h1) (fz_root h1) (FP.ddiv m2 h2) (fz_root h2)) (fz_yN (FP.ddiv m1 h1) (fz_root h1) (FP.ddiv m2 h2) (fz_root h2)) m1 m2 (FP.dsub h2 h1) else fz_brd (fz_sB (FP.ddiv m1 h1) (fz_root h1) (FP.ddiv m2 h2) (fz_root h2)) m1 m2 h1 h2
def fz_fluxM (sol : Nat) (h1 m1 h2 m2 : UInt64) : UInt64 := if sol = 1 then fz_bld (fz_xN (FP.ddiv m1 h1) (fz_root h1) (FP.ddiv m2 h2) (fz_root h2)) (fz_yN (FP.ddiv m1 h1) (fz_root h1) (FP.ddiv m2 h2) (fz_root h2)) (fz_mflux h1 m1 (FP.ddiv m1 h1)) (fz_mflux h2 m2 (FP.ddiv m2 h2)) (FP.dsub m2 m1) else fz_brd (fz_sB (FP.ddiv m1 h1) (fz_root h1) (FP.ddiv m2 h2) (fz_root h2)) (fz_mflux h1 m1 (FP.ddiv m1 h1)) (fz_mflux h2 m2 (FP.ddiv m2 h2)) m1 m2
def fz_fxOk (sol : Nat) (h1 m1 h2 m2 : UInt64) : Prop := (sol = 1 → fz_nOk h1 m1 (FP.ddiv m1 h1) (fz_root h1) h2 m2 (FP.ddiv m2 h2) (fz_root h2)) ∧ (sol ≠ 1 → fz_bOk h1 m1 (FP.ddiv m1 h1) (fz_root h1) h2 m2 (FP.ddiv m2 h2) (fz_root h2))
def fz_FHg (sol : Nat) (d m sH sM : Nat → UInt64) (k : Nat) : UInt64 := fz_fluxH sol (fz_L d sH k) (fz_L m sM k) (fz_R d sH k) (fz_R m sM k)
def fz_FMg (sol : Nat) (d m sH sM : Nat → UInt64) (k : Nat) : UInt64 := fz_fluxM sol (fz_L d sH k) (fz_L m sM k) (fz_R d sH k) (fz_R m sM k)
/-- what a place held at first, or what round k - 1 left there -/
def fz_pk (a : UInt64) (g : Nat → UInt64) : Nat → UInt64
  | 0 => a
  | k + 1 => g k

set_option maxHeartbeats 4000000 in
set_option maxRecDepth 100000 in
theorem c_X0_slopeAt0 (l : Launch) (D : va_G) (cD : ClassId) (f ad j : Nat) (ff : Nat → UInt64) (hj : j < 26) (hok : fz_slcOk (fz_dA ff j) (fz_dB ff j)) : fz_C l D [(cD, .double)] yX0_slopeAt wsX0_slopeAt ({ frames := 1, cells := 0, slots := 0, locals := 30 }) [.ref f, .ref ad, .int (nI (j + 1)), .int (nI 0)] [(ad, fz_da cD 28 ff)] [(ad, fz_da cD 28 ff)] (some (.double (fz_slAt 0 ff j))) := by
  refine fz_start (cc := cX0_slopeAt) (maxL := 8) (ret := (some .double)) (by decide) rfl (Nat.le_of_ble_eq_true rfl) ?_
  intro p e s m below meth c A hx hb hr hlocks hml hown hts hK hA hNW H locs hP hD hS ls hl
  have hl : lv_has ls 8 [(0, .ref f), (1, .ref ad), (2, .int (nI (j + 1))), (3, .int (nI 0))] := hl
  have hown : s.vm.findClass RX0 = some m.cls := hown
  refine lv_aload_n hx hb dX0_slopeAt_0 rfl (lv_at hl 1 rfl) ?_
  refine lv_iload_n hx hb dX0_slopeAt_1 rfl (lv_at hl 2 rfl) ?_
  refine fz_dald (i := j + 1) hx hb hK hP 0 0 rfl rfl (by omega) (by decide) dX0_slopeAt_2 ?_
  refine lv_aload_n hx hb dX0_slopeAt_3 rfl (lv_at hl 1 rfl) ?_
  refine lv_iload_n hx hb dX0_slopeAt_4 rfl (lv_at hl 2 rfl) ?_
  refine lv_iconst (v := nI 1) hx hb dX0_slopeAt_5 (by decide) ?_
  refine fz_isubN hx hb (by omega) dX0_slopeAt_6 ?_
  refine fz_topn (b := j) (by omega) ?_
  refine fz_dald (i := j) hx hb hK hP 0 0 rfl rfl (by omega) (by decide) dX0_slopeAt_7 ?_
  refine lv_dsub hx hb dX0_slopeAt_8 (hok.1) ?_
  refine lv_dstore (lv' := [(4, .double (FP.dsub (ff (j + 1)) (ff j))), (0, .ref f), (1, .ref ad), (2, .int (nI (j + 1))), (3, .int (nI 0))]) hx hb dX0_slopeAt_9 hl (by decide) rfl (fun ls hl => ?_)
  refine lv_aload_n hx hb dX0_slopeAt_11 rfl (lv_at hl 2 rfl) ?_
  refine lv_iload_n hx hb dX0_slopeAt_12 rfl (lv_at hl 3 rfl) ?_
  refine lv_iconst (v := nI 1) hx hb dX0_slopeAt_13 (by decide) ?_
  refine fz_iaddN hx hb dX0_slopeAt_14 ?_
  refine fz_topn (b := j + 2) (by omega) ?_
  refine fz_dald (i := j + 2) hx hb hK hP 0 0 rfl rfl (by omega) (by decide) dX0_slopeAt_15 ?_
  refine lv_aload_n hx hb dX0_slopeAt_16 rfl (lv_at hl 2 rfl) ?_
  refine lv_iload_n hx hb dX0_slopeAt_17 rfl (lv_at hl 3 rfl) ?_
  refine fz_dald (i := j + 1) hx hb hK hP 0 0 rfl rfl (by omega) (by decide) dX0_slopeAt_18 ?_
  refine lv_dsub hx hb dX0_slopeAt_19 (hok.2.1) ?_
  refine lv_dstore (lv' := [(6, .double (FP.dsub (ff (j + 2)) (ff (j + 1)))), (4, .double (FP.dsub (ff (j + 1)) (ff j))), (0, .ref f), (1, .ref ad), (2, .int (nI (j + 1))), (3, .int (nI 0))]) hx hb dX0_slopeAt_20 hl (by decide) rfl (fun ls hl => ?_)
  refine lv_iload_n hx hb dX0_slopeAt_22 rfl (lv_at hl 5 rfl) ?_
  refine lv_if_eq (tgt := 36) hx hb dX0_slopeAt_23 (by decide) (fun c23 => ?_) (fun c23 => absurd c23 (by decide))
  refine lv_dconst0 hx hb dX0_slopeAt_36 ?_
  exact fz_dret hx hb hr hlocks (by simp [fz_slAt, fz_slopeC]) hP hK hD hS dX0_slopeAt_37

set_option maxHeartbeats 4000000 in
set_option maxRecDepth 100000 in
theorem c_X0_slopeAt1 (l : Launch) (D : va_G) (cD : ClassId) (f ad j : Nat) (ff : Nat → UInt64) (hj : j < 26) (hok : fz_slcOk (fz_dA ff j) (fz_dB ff j)) : fz_C l D [(cD, .double)] yX0_slopeAt wsX0_slopeAt ({ frames := 1, cells := 0, slots := 0, locals := 30 }) [.ref f, .ref ad, .int (nI (j + 1)), .int (nI 1)] [(ad, fz_da cD 28 ff)] [(ad, fz_da cD 28 ff)] (some (.double (fz_slAt 1 ff j))) := by
  refine fz_start (cc := cX0_slopeAt) (maxL := 8) (ret := (some .double)) (by decide) rfl (Nat.le_of_ble_eq_true rfl) ?_
  intro p e s m below meth c A hx hb hr hlocks hml hown hts hK hA hNW H locs hP hD hS ls hl
  have hl : lv_has ls 8 [(0, .ref f), (1, .ref ad), (2, .int (nI (j + 1))), (3, .int (nI 1))] := hl
  have hown : s.vm.findClass RX0 = some m.cls := hown
  refine lv_aload_n hx hb dX0_slopeAt_0 rfl (lv_at hl 1 rfl) ?_
  refine lv_iload_n hx hb dX0_slopeAt_1 rfl (lv_at hl 2 rfl) ?_
  refine fz_dald (i := j + 1) hx hb hK hP 0 0 rfl rfl (by omega) (by decide) dX0_slopeAt_2 ?_
  refine lv_aload_n hx hb dX0_slopeAt_3 rfl (lv_at hl 1 rfl) ?_
  refine lv_iload_n hx hb dX0_slopeAt_4 rfl (lv_at hl 2 rfl) ?_
  refine lv_iconst (v := nI 1) hx hb dX0_slopeAt_5 (by decide) ?_
  refine fz_isubN hx hb (by omega) dX0_slopeAt_6 ?_
  refine fz_topn (b := j) (by omega) ?_
  refine fz_dald (i := j) hx hb hK hP 0 0 rfl rfl (by omega) (by decide) dX0_slopeAt_7 ?_
  refine lv_dsub hx hb dX0_slopeAt_8 (hok.1) ?_
  refine lv_dstore (lv' := [(4, .double (FP.dsub (ff (j + 1)) (ff j))), (0, .ref f), (1, .ref ad), (2, .int (nI (j + 1))), (3, .int (nI 1))]) hx hb dX0_slopeAt_9 hl (by decide) rfl (fun ls hl => ?_)
  refine lv_aload_n hx hb dX0_slopeAt_11 rfl (lv_at hl 2 rfl) ?_
  refine lv_iload_n hx hb dX0_slopeAt_12 rfl (lv_at hl 3 rfl) ?_
  refine lv_iconst (v := nI 1) hx hb dX0_slopeAt_13 (by decide) ?_
  refine fz_iaddN hx hb dX0_slopeAt_14 ?_
  refine fz_topn (b := j + 2) (by omega) ?_
  refine fz_dald (i := j + 2) hx hb hK hP 0 0 rfl rfl (by omega) (by decide) dX0_slopeAt_15 ?_
  refine lv_aload_n hx hb dX0_slopeAt_16 rfl (lv_at hl 2 rfl) ?_
  refine lv_iload_n hx hb dX0_slopeAt_17 rfl (lv_at hl 3 rfl) ?_
  refine fz_dald (i := j + 1) hx hb hK hP 0 0 rfl rfl (by omega) (by decide) dX0_slopeAt_18 ?_
  refine lv_dsub hx hb dX0_slopeAt_19 (hok.2.1) ?_
  refine lv_dstore (lv' := [(6, .double (FP.dsub (ff (j + 2)) (ff (j + 1)))), (4, .double (FP.dsub (ff (j + 1)) (ff j))), (0, .ref f), (1, .ref ad), (2, .int (nI (j + 1))), (3, .int (nI 1))]) hx hb dX0_slopeAt_20 hl (by decide) rfl (fun ls hl => ?_)
  refine lv_iload_n hx hb dX0_slopeAt_22 rfl (lv_at hl 5 rfl) ?_
  refine lv_if_eq (tgt := 36) hx hb dX0_slopeAt_23 (by decide) (fun c23 => absurd c23 (by decide)) (fun c23 => ?_)
  refine lv_dload hx hb dX0_slopeAt_26 (lv_at hl 1 rfl) ?_
  refine lv_dload hx hb dX0_slopeAt_28 (lv_at hl 0 rfl) ?_
  refine lv_dmul hx hb dX0_slopeAt_30 (hok.2.2.1) ?_
  refine lv_dconst0 hx hb dX0_slopeAt_31 ?_
  refine fz_dl_gt (tgt := 38) hx hb dX0_slopeAt_32 dX0_slopeAt_33 (by decide) (fun c32 => ?_) (fun c32 => ?_)
  · refine lv_iload_n hx hb dX0_slopeAt_38 rfl (lv_at hl 5 rfl) ?_
    refine lv_lookup (off := 25) (tgt := 64) hx hb dX0_slopeAt_39 (by decide) (by decide) (by decide) ?_
    refine lv_dload hx hb dX0_slopeAt_64 (lv_at hl 1 rfl) ?_
    refine lv_dload hx hb dX0_slopeAt_66 (lv_at hl 0 rfl) ?_
    refine fz_callS (ws' := [(ad, fz_da cD 28 ff)]) (wr := [(ad, fz_da cD 28 ff)]) (As := [.double (FP.dsub (ff (j + 1)) (ff j)), .double (FP.dsub (ff (j + 2)) (ff (j + 1)))]) (rest := []) ⟨hx, hb, hml, hown, hts⟩ (c_X0_nearer l D cD (FP.dsub (ff (j + 1)) (ff j)) (FP.dsub (ff (j + 2)) (ff (j + 1)))) (va_cwS 2 hts gX0_slopeAt_X0_nearer rfl rfl rfl (by decide +kernel) ⟨Nat.le_of_ble_eq_true rfl, Nat.le_of_ble_eq_true rfl⟩) hK hNW hP hD hS hA [] [0] [0] rfl rfl rfl rfl (by decide) rfl rfl rfl hl.1 rfl (Nat.le_of_ble_eq_true rfl) dX0_slopeAt_68 ⟨Nat.zero_le _, Nat.zero_le _⟩ (fun H locs hP hD hS => ?_)
    exact fz_dret hx hb hr hlocks (by simp [fz_slAt, fz_slopeC, c32]) hP hK hD hS dX0_slopeAt_71
  · refine lv_dconst0 hx hb dX0_slopeAt_36 ?_
    exact fz_dret hx hb hr hlocks (by simp [fz_slAt, fz_slopeC, c32]) hP hK hD hS dX0_slopeAt_37

set_option maxHeartbeats 4000000 in
set_option maxRecDepth 100000 in
theorem c_X0_slopeAt2 (l : Launch) (D : va_G) (cD : ClassId) (f ad j : Nat) (ff : Nat → UInt64) (hj : j < 26) (hok : fz_slcOk (fz_dA ff j) (fz_dB ff j)) : fz_C l D [(cD, .double)] yX0_slopeAt wsX0_slopeAt ({ frames := 1, cells := 0, slots := 0, locals := 30 }) [.ref f, .ref ad, .int (nI (j + 1)), .int (nI 2)] [(ad, fz_da cD 28 ff)] [(ad, fz_da cD 28 ff)] (some (.double (fz_slAt 2 ff j))) := by
  refine fz_start (cc := cX0_slopeAt) (maxL := 8) (ret := (some .double)) (by decide) rfl (Nat.le_of_ble_eq_true rfl) ?_
  intro p e s m below meth c A hx hb hr hlocks hml hown hts hK hA hNW H locs hP hD hS ls hl
  have hl : lv_has ls 8 [(0, .ref f), (1, .ref ad), (2, .int (nI (j + 1))), (3, .int (nI 2))] := hl
  have hown : s.vm.findClass RX0 = some m.cls := hown
  have hw_constantDouble_RX0_72_4611686018427387904 := hts (.constantDouble RX0 72 (4611686018427387904)) (by decide +kernel)
  refine lv_aload_n hx hb dX0_slopeAt_0 rfl (lv_at hl 1 rfl) ?_
  refine lv_iload_n hx hb dX0_slopeAt_1 rfl (lv_at hl 2 rfl) ?_
  refine fz_dald (i := j + 1) hx hb hK hP 0 0 rfl rfl (by omega) (by decide) dX0_slopeAt_2 ?_
  refine lv_aload_n hx hb dX0_slopeAt_3 rfl (lv_at hl 1 rfl) ?_
  refine lv_iload_n hx hb dX0_slopeAt_4 rfl (lv_at hl 2 rfl) ?_
  refine lv_iconst (v := nI 1) hx hb dX0_slopeAt_5 (by decide) ?_
  refine fz_isubN hx hb (by omega) dX0_slopeAt_6 ?_
  refine fz_topn (b := j) (by omega) ?_
  refine fz_dald (i := j) hx hb hK hP 0 0 rfl rfl (by omega) (by decide) dX0_slopeAt_7 ?_
  refine lv_dsub hx hb dX0_slopeAt_8 (hok.1) ?_
  refine lv_dstore (lv' := [(4, .double (FP.dsub (ff (j + 1)) (ff j))), (0, .ref f), (1, .ref ad), (2, .int (nI (j + 1))), (3, .int (nI 2))]) hx hb dX0_slopeAt_9 hl (by decide) rfl (fun ls hl => ?_)
  refine lv_aload_n hx hb dX0_slopeAt_11 rfl (lv_at hl 2 rfl) ?_
  refine lv_iload_n hx hb dX0_slopeAt_12 rfl (lv_at hl 3 rfl) ?_
  refine lv_iconst (v := nI 1) hx hb dX0_slopeAt_13 (by decide) ?_
  refine fz_iaddN hx hb dX0_slopeAt_14 ?_
  refine fz_topn (b := j + 2) (by omega) ?_
  refine fz_dald (i := j + 2) hx hb hK hP 0 0 rfl rfl (by omega) (by decide) dX0_slopeAt_15 ?_
  refine lv_aload_n hx hb dX0_slopeAt_16 rfl (lv_at hl 2 rfl) ?_
  refine lv_iload_n hx hb dX0_slopeAt_17 rfl (lv_at hl 3 rfl) ?_
  refine fz_dald (i := j + 1) hx hb hK hP 0 0 rfl rfl (by omega) (by decide) dX0_slopeAt_18 ?_
  refine lv_dsub hx hb dX0_slopeAt_19 (hok.2.1) ?_
  refine lv_dstore (lv' := [(6, .double (FP.dsub (ff (j + 2)) (ff (j + 1)))), (4, .double (FP.dsub (ff (j + 1)) (ff j))), (0, .ref f), (1, .ref ad), (2, .int (nI (j + 1))), (3, .int (nI 2))]) hx hb dX0_slopeAt_20 hl (by decide) rfl (fun ls hl => ?_)
  refine lv_iload_n hx hb dX0_slopeAt_22 rfl (lv_at hl 5 rfl) ?_
  refine lv_if_eq (tgt := 36) hx hb dX0_slopeAt_23 (by decide) (fun c23 => absurd c23 (by decide)) (fun c23 => ?_)
  refine lv_dload hx hb dX0_slopeAt_26 (lv_at hl 1 rfl) ?_
  refine lv_dload hx hb dX0_slopeAt_28 (lv_at hl 0 rfl) ?_
  refine lv_dmul hx hb dX0_slopeAt_30 (hok.2.2.1) ?_
  refine lv_dconst0 hx hb dX0_slopeAt_31 ?_
  refine fz_dl_gt (tgt := 38) hx hb dX0_slopeAt_32 dX0_slopeAt_33 (by decide) (fun c32 => ?_) (fun c32 => ?_)
  · refine lv_iload_n hx hb dX0_slopeAt_38 rfl (lv_at hl 5 rfl) ?_
    refine lv_lookup (off := 33) (tgt := 72) hx hb dX0_slopeAt_39 (by decide) (by decide) (by decide) ?_
    refine lv_ldc2d hx hb hown hw_constantDouble_RX0_72_4611686018427387904 dX0_slopeAt_72 ?_
    refine lv_dload hx hb dX0_slopeAt_75 (lv_at hl 1 rfl) ?_
    refine lv_dmul hx hb dX0_slopeAt_77 (hok.2.2.2.1) ?_
    refine lv_dload hx hb dX0_slopeAt_78 (lv_at hl 0 rfl) ?_
    refine fz_callS (ws' := [(ad, fz_da cD 28 ff)]) (wr := [(ad, fz_da cD 28 ff)]) (As := [.double (FP.dmul 4611686018427387904 (FP.dsub (ff (j + 1)) (ff j))), .double (FP.dsub (ff (j + 2)) (ff (j + 1)))]) (rest := []) ⟨hx, hb, hml, hown, hts⟩ (c_X0_nearer l D cD (FP.dmul 4611686018427387904 (FP.dsub (ff (j + 1)) (ff j))) (FP.dsub (ff (j + 2)) (ff (j + 1)))) (va_cwS 2 hts gX0_slopeAt_X0_nearer rfl rfl rfl (by decide +kernel) ⟨Nat.le_of_ble_eq_true rfl, Nat.le_of_ble_eq_true rfl⟩) hK hNW hP hD hS hA [] [0] [0] rfl rfl rfl rfl (by decide) rfl rfl rfl hl.1 rfl (Nat.le_of_ble_eq_true rfl) dX0_slopeAt_80 ⟨Nat.zero_le _, Nat.zero_le _⟩ (fun H locs hP hD hS => ?_)
    refine lv_dload hx hb dX0_slopeAt_83 (lv_at hl 1 rfl) ?_
    refine lv_ldc2d hx hb hown hw_constantDouble_RX0_72_4611686018427387904 dX0_slopeAt_85 ?_
    refine lv_dload hx hb dX0_slopeAt_88 (lv_at hl 0 rfl) ?_
    refine lv_dmul hx hb dX0_slopeAt_90 (hok.2.2.2.2.1) ?_
    refine fz_callS (ws' := [(ad, fz_da cD 28 ff)]) (wr := [(ad, fz_da cD 28 ff)]) (As := [.double (FP.dsub (ff (j + 1)) (ff j)), .double (FP.dmul 4611686018427387904 (FP.dsub (ff (j + 2)) (ff (j + 1))))]) (rest := [.double (fz_near (FP.dmul 4611686018427387904 (FP.dsub (ff (j + 1)) (ff j))) (FP.dsub (ff (j + 2)) (ff (j + 1))))]) ⟨hx, hb, hml, hown, hts⟩ (c_X0_nearer l D cD (FP.dsub (ff (j + 1)) (ff j)) (FP.dmul 4611686018427387904 (FP.dsub (ff (j + 2)) (ff (j + 1))))) (va_cwS 2 hts gX0_slopeAt_X0_nearer rfl rfl rfl (by decide +kernel) ⟨Nat.le_of_ble_eq_true rfl, Nat.le_of_ble_eq_true rfl⟩) hK hNW hP hD hS hA [] [0] [0] rfl rfl rfl rfl (by decide) rfl rfl rfl hl.1 rfl (Nat.le_of_ble_eq_true rfl) dX0_slopeAt_91 ⟨Nat.zero_le _, Nat.zero_le _⟩ (fun H locs hP hD hS => ?_)
    refine fz_callS (ws' := [(ad, fz_da cD 28 ff)]) (wr := [(ad, fz_da cD 28 ff)]) (As := [.double (fz_near (FP.dmul 4611686018427387904 (FP.dsub (ff (j + 1)) (ff j))) (FP.dsub (ff (j + 2)) (ff (j + 1)))), .double (fz_near (FP.dsub (ff (j + 1)) (ff j)) (FP.dmul 4611686018427387904 (FP.dsub (ff (j + 2)) (ff (j + 1)))))]) (rest := []) ⟨hx, hb, hml, hown, hts⟩ (c_X0_farther l D cD (fz_near (FP.dmul 4611686018427387904 (FP.dsub (ff (j + 1)) (ff j))) (FP.dsub (ff (j + 2)) (ff (j + 1)))) (fz_near (FP.dsub (ff (j + 1)) (ff j)) (FP.dmul 4611686018427387904 (FP.dsub (ff (j + 2)) (ff (j + 1)))))) (va_cwS 2 hts gX0_slopeAt_X0_farther rfl rfl rfl (by decide +kernel) ⟨Nat.le_of_ble_eq_true rfl, Nat.le_of_ble_eq_true rfl⟩) hK hNW hP hD hS hA [] [0] [0] rfl rfl rfl rfl (by decide) rfl rfl rfl hl.1 rfl (Nat.le_of_ble_eq_true rfl) dX0_slopeAt_94 ⟨Nat.zero_le _, Nat.zero_le _⟩ (fun H locs hP hD hS => ?_)
    exact fz_dret hx hb hr hlocks (by simp [fz_slAt, fz_slopeC, c32]) hP hK hD hS dX0_slopeAt_97
  · refine lv_dconst0 hx hb dX0_slopeAt_36 ?_
    exact fz_dret hx hb hr hlocks (by simp [fz_slAt, fz_slopeC, c32]) hP hK hD hS dX0_slopeAt_37

set_option maxHeartbeats 4000000 in
set_option maxRecDepth 100000 in
theorem c_X0_slopeAt3 (l : Launch) (D : va_G) (cD : ClassId) (f ad j : Nat) (ff : Nat → UInt64) (hj : j < 26) (hok : fz_slcOk (fz_dA ff j) (fz_dB ff j)) : fz_C l D [(cD, .double)] yX0_slopeAt wsX0_slopeAt ({ frames := 1, cells := 0, slots := 0, locals := 30 }) [.ref f, .ref ad, .int (nI (j + 1)), .int (nI 3)] [(ad, fz_da cD 28 ff)] [(ad, fz_da cD 28 ff)] (some (.double (fz_slAt 3 ff j))) := by
  refine fz_start (cc := cX0_slopeAt) (maxL := 8) (ret := (some .double)) (by decide) rfl (Nat.le_of_ble_eq_true rfl) ?_
  intro p e s m below meth c A hx hb hr hlocks hml hown hts hK hA hNW H locs hP hD hS ls hl
  have hl : lv_has ls 8 [(0, .ref f), (1, .ref ad), (2, .int (nI (j + 1))), (3, .int (nI 3))] := hl
  have hown : s.vm.findClass RX0 = some m.cls := hown
  have hw_constantDouble_RX0_72_4611686018427387904 := hts (.constantDouble RX0 72 (4611686018427387904)) (by decide +kernel)
  refine lv_aload_n hx hb dX0_slopeAt_0 rfl (lv_at hl 1 rfl) ?_
  refine lv_iload_n hx hb dX0_slopeAt_1 rfl (lv_at hl 2 rfl) ?_
  refine fz_dald (i := j + 1) hx hb hK hP 0 0 rfl rfl (by omega) (by decide) dX0_slopeAt_2 ?_
  refine lv_aload_n hx hb dX0_slopeAt_3 rfl (lv_at hl 1 rfl) ?_
  refine lv_iload_n hx hb dX0_slopeAt_4 rfl (lv_at hl 2 rfl) ?_
  refine lv_iconst (v := nI 1) hx hb dX0_slopeAt_5 (by decide) ?_
  refine fz_isubN hx hb (by omega) dX0_slopeAt_6 ?_
  refine fz_topn (b := j) (by omega) ?_
  refine fz_dald (i := j) hx hb hK hP 0 0 rfl rfl (by omega) (by decide) dX0_slopeAt_7 ?_
  refine lv_dsub hx hb dX0_slopeAt_8 (hok.1) ?_
  refine lv_dstore (lv' := [(4, .double (FP.dsub (ff (j + 1)) (ff j))), (0, .ref f), (1, .ref ad), (2, .int (nI (j + 1))), (3, .int (nI 3))]) hx hb dX0_slopeAt_9 hl (by decide) rfl (fun ls hl => ?_)
  refine lv_aload_n hx hb dX0_slopeAt_11 rfl (lv_at hl 2 rfl) ?_
  refine lv_iload_n hx hb dX0_slopeAt_12 rfl (lv_at hl 3 rfl) ?_
  refine lv_iconst (v := nI 1) hx hb dX0_slopeAt_13 (by decide) ?_
  refine fz_iaddN hx hb dX0_slopeAt_14 ?_
  refine fz_topn (b := j + 2) (by omega) ?_
  refine fz_dald (i := j + 2) hx hb hK hP 0 0 rfl rfl (by omega) (by decide) dX0_slopeAt_15 ?_
  refine lv_aload_n hx hb dX0_slopeAt_16 rfl (lv_at hl 2 rfl) ?_
  refine lv_iload_n hx hb dX0_slopeAt_17 rfl (lv_at hl 3 rfl) ?_
  refine fz_dald (i := j + 1) hx hb hK hP 0 0 rfl rfl (by omega) (by decide) dX0_slopeAt_18 ?_
  refine lv_dsub hx hb dX0_slopeAt_19 (hok.2.1) ?_
  refine lv_dstore (lv' := [(6, .double (FP.dsub (ff (j + 2)) (ff (j + 1)))), (4, .double (FP.dsub (ff (j + 1)) (ff j))), (0, .ref f), (1, .ref ad), (2, .int (nI (j + 1))), (3, .int (nI 3))]) hx hb dX0_slopeAt_20 hl (by decide) rfl (fun ls hl => ?_)
  refine lv_iload_n hx hb dX0_slopeAt_22 rfl (lv_at hl 5 rfl) ?_
  refine lv_if_eq (tgt := 36) hx hb dX0_slopeAt_23 (by decide) (fun c23 => absurd c23 (by decide)) (fun c23 => ?_)
  refine lv_dload hx hb dX0_slopeAt_26 (lv_at hl 1 rfl) ?_
  refine lv_dload hx hb dX0_slopeAt_28 (lv_at hl 0 rfl) ?_
  refine lv_dmul hx hb dX0_slopeAt_30 (hok.2.2.1) ?_
  refine lv_dconst0 hx hb dX0_slopeAt_31 ?_
  refine fz_dl_gt (tgt := 38) hx hb dX0_slopeAt_32 dX0_slopeAt_33 (by decide) (fun c32 => ?_) (fun c32 => ?_)
  · refine lv_iload_n hx hb dX0_slopeAt_38 rfl (lv_at hl 5 rfl) ?_
    refine lv_lookup (off := 59) (tgt := 98) hx hb dX0_slopeAt_39 (by decide) (by decide) (by decide) ?_
    refine lv_ldc2d hx hb hown hw_constantDouble_RX0_72_4611686018427387904 dX0_slopeAt_98 ?_
    refine lv_dload hx hb dX0_slopeAt_101 (lv_at hl 1 rfl) ?_
    refine lv_dmul hx hb dX0_slopeAt_103 (hok.2.2.2.1) ?_
    refine lv_dload hx hb dX0_slopeAt_104 (lv_at hl 0 rfl) ?_
    refine lv_dmul hx hb dX0_slopeAt_106 (hok.2.2.2.2.2.1) ?_
    refine lv_dload hx hb dX0_slopeAt_107 (lv_at hl 1 rfl) ?_
    refine lv_dload hx hb dX0_slopeAt_109 (lv_at hl 0 rfl) ?_
    refine lv_dadd hx hb dX0_slopeAt_111 (hok.2.2.2.2.2.2.1) ?_
    refine lv_ddiv hx hb dX0_slopeAt_112 (hok.2.2.2.2.2.2.2 c32) ?_
    exact fz_dret hx hb hr hlocks (by simp [fz_slAt, fz_slopeC, c32]) hP hK hD hS dX0_slopeAt_113
  · refine lv_dconst0 hx hb dX0_slopeAt_36 ?_
    exact fz_dret hx hb hr hlocks (by simp [fz_slAt, fz_slopeC, c32]) hP hK hD hS dX0_slopeAt_37

theorem c_X0_slopeAt (l : Launch) (D : va_G) (cD : ClassId) (f ad j lim : Nat) (ff : Nat → UInt64) (hlim : lim ≤ 3) (hj : j < 26) (hok : fz_slcOk (fz_dA ff j) (fz_dB ff j)) : fz_C l D [(cD, .double)] yX0_slopeAt wsX0_slopeAt ({ frames := 1, cells := 0, slots := 0, locals := 30 }) [.ref f, .ref ad, .int (nI (j + 1)), .int (nI lim)] [(ad, fz_da cD 28 ff)] [(ad, fz_da cD 28 ff)] (some (.double (fz_slAt lim ff j))) := by
  rcases (show lim = 0 ∨ lim = 1 ∨ lim = 2 ∨ lim = 3 by omega) with rfl | rfl | rfl | rfl
  · exact c_X0_slopeAt0 l D cD f ad j ff hj hok
  · exact c_X0_slopeAt1 l D cD f ad j ff hj hok
  · exact c_X0_slopeAt2 l D cD f ad j ff hj hok
  · exact c_X0_slopeAt3 l D cD f ad j ff hj hok

set_option maxHeartbeats 4000000 in
set_option maxRecDepth 100000 in
theorem c_X0_fillSlopes (l : Launch) (D : va_G) (cD : ClassId) (r rd rm n : Nat) (dd mm : Nat → UInt64) (f s1 s2 f1 f2 lf rt lim : Nat) (sH sM : Nat → UInt64) (hn : n ≤ 24) (hlim : lim ≤ 3) (hok : fz_fsOk lim dd mm n) : fz_C l D [(cD, .double)] yX0_fillSlopes wsX0_fillSlopes ({ frames := 2, cells := 0, slots := 0, locals := 60 }) [.ref f, .ref r, .int (nI lim)] [(f, .inr (0, [.ref s1, .ref s2, .ref f1, .ref f2, .ref lf, .ref rt])), (s1, fz_da cD 28 sH), (s2, fz_da cD 28 sM), (r, .inr (1, [.ref rd, .ref rm, .int (nI n)])), (rd, fz_da cD 28 dd), (rm, fz_da cD 28 mm)] [(f, .inr (0, [.ref s1, .ref s2, .ref f1, .ref f2, .ref lf, .ref rt])), (s1, fz_da cD 28 (fz_pre 1 (n + 2) (fz_sHg lim dd) sH)), (s2, fz_da cD 28 (fz_pre 1 (n + 2) (fz_sMg lim dd mm) sM)), (r, .inr (1, [.ref rd, .ref rm, .int (nI n)])), (rd, fz_da cD 28 dd), (rm, fz_da cD 28 mm)] (none) := by
  refine fz_start (cc := cX0_fillSlopes) (maxL := 9) (ret := none) (by decide) rfl (Nat.le_of_ble_eq_true rfl) ?_
  intro p e s m below meth c A hx hb hr hlocks hml hown hts hK hA hNW H locs hP hD hS ls hl
  have hl : lv_has ls 9 [(0, .ref f), (1, .ref r), (2, .int (nI lim))] := hl
  have hown : s.vm.findClass RX0 = some m.cls := hown
  have hw_fieldLink_RX0_38_FlowGrid_Row_size_I := hts (.fieldLink RX0 38 "FlowGrid$Row" "size" "I") (by decide +kernel)
  have hin_X1 : ∀ w ∈ u_ws RX1 TX1 3, w ∈ wsX0_fillSlopes := by decide +kernel
  have hw_fieldLink_RX0_54_FlowGrid_Row_depths_D := hts (.fieldLink RX0 54 "FlowGrid$Row" "depths" "[D") (by decide +kernel)
  have hw_constantDouble_RX0_61_4602678819172646912 := hts (.constantDouble RX0 61 (4602678819172646912)) (by decide +kernel)
  have hw_constantDouble_RX0_63_4576918229304087675 := hts (.constantDouble RX0 63 (4576918229304087675)) (by decide +kernel)
  have hw_fieldLink_RX0_9_FlowGrid_Faces_depthSlopes_D := hts (.fieldLink RX0 9 "FlowGrid$Faces" "depthSlopes" "[D") (by decide +kernel)
  have hin_X0 : ∀ w ∈ u_ws RX0 TX0 6, w ∈ wsX0_fillSlopes := by decide +kernel
  have hw_fieldLink_RX0_15_FlowGrid_Faces_momentumSlopes_D := hts (.fieldLink RX0 15 "FlowGrid$Faces" "momentumSlopes" "[D") (by decide +kernel)
  have hw_fieldLink_RX0_65_FlowGrid_Row_momenta_D := hts (.fieldLink RX0 65 "FlowGrid$Row" "momenta" "[D") (by decide +kernel)
  refine lv_iconst (v := nI 1) hx hb dX0_fillSlopes_0 (by decide) ?_
  refine lv_istore_n (lv' := [(3, .int (nI 1)), (0, .ref f), (1, .ref r), (2, .int (nI lim))]) hx hb dX0_fillSlopes_1 rfl hl (by decide) rfl (fun ls hl => ?_)
  have loop2 : ∀ (it k : Nat), k ≤ n + 2 → n + 2 < k + it → ∀ (H : Heap) (locs : List Loc) (ls : Array Slot), va_P D vwCl [(f, .inr (0, [.ref s1, .ref s2, .ref f1, .ref f2, .ref lf, .ref rt])), (s1, fz_da cD 28 (fz_pre 1 k (fz_sHg lim dd) sH)), (s2, fz_da cD 28 (fz_pre 1 k (fz_sMg lim dd mm) sM)), (r, .inr (1, [.ref rd, .ref rm, .int (nI n)])), (rd, fz_da cD 28 dd), (rm, fz_da cD 28 mm)] H → va_D A [(f, .inr (0, [.ref s1, .ref s2, .ref f1, .ref f2, .ref lf, .ref rt])), (s1, fz_da cD 28 (fz_pre 1 k (fz_sHg lim dd) sH)), (s2, fz_da cD 28 (fz_pre 1 k (fz_sMg lim dd mm) sM)), (r, .inr (1, [.ref rd, .ref rm, .int (nI n)])), (rd, fz_da cD 28 dd), (rm, fz_da cD 28 mm)] → va_S A s.heap H locs → lv_has ls 9 [(0, .ref f), (1, .ref r), (2, .int (nI lim)), (3, .int (nI (k + 1)))] → W p l e ({ frames := 2, cells := 0, slots := 0, locals := 60 }) s m ([.ref f, .ref r, .int (nI lim)] : List Value).toArray below meth c H locs 0 0 (MQ below (fz_O D [(cD, .double)] [(f, .inr (0, [.ref s1, .ref s2, .ref f1, .ref f2, .ref lf, .ref rt])), (s1, fz_da cD 28 (fz_pre 1 (n + 2) (fz_sHg lim dd) sH)), (s2, fz_da cD 28 (fz_pre 1 (n + 2) (fz_sMg lim dd mm) sM)), (r, .inr (1, [.ref rd, .ref rm, .int (nI n)])), (rd, fz_da cD 28 dd), (rm, fz_da cD 28 mm)] (none) A) ([.ref f, .ref r, .int (nI lim)] : List Value).toArray s 0 0 A) (F0 m 2 ls []) := by
    intro it
    induction it with
    | zero => intro k h1 h2; exact absurd h2 (by omega)
    | succ it ih =>
      intro k hkk hnk H locs ls hP hD hS hl
      refine lv_iload_n hx hb dX0_fillSlopes_2 rfl (lv_at hl 3 rfl) ?_
      refine lv_iconst (v := nI 2) hx hb dX0_fillSlopes_3 (by decide) ?_
      refine lv_aload_n hx hb dX0_fillSlopes_4 rfl (lv_at hl 1 rfl) ?_
      refine va_get (D := D) (ci := 1) (v := .int (nI n)) (C := RX1) (T := TX1) (N := 3) hx hb hts hin_X1 hown hK hP 3 rfl rfl 2 (by decide) hw_fieldLink_RX0_38_FlowGrid_Row_size_I (fun _ h9 => h9) rfl dX0_fillSlopes_5 ?_
      refine fz_iaddN hx hb dX0_fillSlopes_8 ?_
      refine fz_topn (b := n + 2) (by omega) ?_
      refine fz_icmp_gtN (tgt := 119) hx hb (by omega) (by omega) dX0_fillSlopes_9 (by decide) (fun c9 => ?_) (fun c9 => ?_)
      · have hkz : n + 2 = k := by omega
        subst hkz
        exact fz_vret hx hb hr hlocks (rfl) hP hK hD hS dX0_fillSlopes_119
      · refine lv_aload_n hx hb dX0_fillSlopes_12 rfl (lv_at hl 1 rfl) ?_
        refine va_get (D := D) (ci := 1) (v := .ref rd) (C := RX1) (T := TX1) (N := 3) hx hb hts hin_X1 hown hK hP 3 rfl rfl 0 (by decide) hw_fieldLink_RX0_54_FlowGrid_Row_depths_D (fun _ h9 => h9) rfl dX0_fillSlopes_13 ?_
        refine lv_iload_n hx hb dX0_fillSlopes_16 rfl (lv_at hl 3 rfl) ?_
        refine fz_dald (i := k + 1) hx hb hK hP 4 0 rfl rfl (by omega) (by decide) dX0_fillSlopes_17 ?_
        refine lv_dstore (lv' := [(4, .double (dd (k + 1))), (0, .ref f), (1, .ref r), (2, .int (nI lim)), (3, .int (nI (k + 1)))]) hx hb dX0_fillSlopes_18 hl (by decide) rfl (fun ls hl => ?_)
        refine lv_aload_n hx hb dX0_fillSlopes_20 rfl (lv_at hl 1 rfl) ?_
        refine lv_aload_n hx hb dX0_fillSlopes_21 rfl (lv_at hl 2 rfl) ?_
        refine va_get (D := D) (ci := 1) (v := .ref rd) (C := RX1) (T := TX1) (N := 3) hx hb hts hin_X1 hown hK hP 3 rfl rfl 0 (by decide) hw_fieldLink_RX0_54_FlowGrid_Row_depths_D (fun _ h9 => h9) rfl dX0_fillSlopes_22 ?_
        refine lv_iload_n hx hb dX0_fillSlopes_25 rfl (lv_at hl 4 rfl) ?_
        refine lv_iload_n hx hb dX0_fillSlopes_26 rfl (lv_at hl 3 rfl) ?_
        refine fz_callV (ws' := [(f, .inr (0, [.ref s1, .ref s2, .ref f1, .ref f2, .ref lf, .ref rt])), (s1, fz_da cD 28 (fz_pre 1 k (fz_sHg lim dd) sH)), (s2, fz_da cD 28 (fz_pre 1 k (fz_sMg lim dd mm) sM)), (r, .inr (1, [.ref rd, .ref rm, .int (nI n)])), (rd, fz_da cD 28 dd), (rm, fz_da cD 28 mm)]) (wr := [(f, .inr (0, [.ref s1, .ref s2, .ref f1, .ref f2, .ref lf, .ref rt])), (s1, fz_da cD 28 (fz_pre 1 k (fz_sHg lim dd) sH)), (s2, fz_da cD 28 (fz_pre 1 k (fz_sMg lim dd mm) sM)), (r, .inr (1, [.ref rd, .ref rm, .int (nI n)])), (rm, fz_da cD 28 mm)]) (As := [.ref rd, .int (nI (k + 1)), .int (nI lim)]) (rest := []) ⟨hx, hb, hml, hown, hts⟩ (c_X0_slopeAt l D cD f rd k lim dd hlim (by omega) ((hok k (by omega)).1)) (cwV 3 hts gX0_fillSlopes_X0_slopeAt rfl rfl rfl (by decide +kernel) ⟨Nat.le_of_ble_eq_true rfl, Nat.le_of_ble_eq_true rfl⟩) hK hNW hP hD hS hA [4] [0, 1, 2, 3, 5] [0, 1, 2, 3, 5, 4] rfl rfl rfl rfl (by decide) rfl rfl (q0 := 0) (ci := 0) rfl rfl rfl rfl hl.1 rfl (Nat.le_of_ble_eq_true rfl) dX0_fillSlopes_27 ⟨Nat.zero_le _, Nat.zero_le _⟩ (fun H locs hP hD hS => ?_)
        refine lv_dstore (lv' := [(6, .double (fz_slAt lim dd k)), (4, .double (dd (k + 1))), (0, .ref f), (1, .ref r), (2, .int (nI lim)), (3, .int (nI (k + 1)))]) hx hb dX0_fillSlopes_30 hl (by decide) rfl (fun ls hl => ?_)
        refine lv_dload hx hb dX0_fillSlopes_32 (lv_at hl 1 rfl) ?_
        refine lv_ldc2d hx hb hown hw_constantDouble_RX0_61_4602678819172646912 dX0_fillSlopes_34 ?_
        refine lv_dload hx hb dX0_fillSlopes_37 (lv_at hl 0 rfl) ?_
        refine lv_dmul hx hb dX0_fillSlopes_39 ((hok k (by omega)).2.2.1) ?_
        refine lv_dadd hx hb dX0_fillSlopes_40 ((hok k (by omega)).2.2.2.1) ?_
        refine lv_ldc2d hx hb hown hw_constantDouble_RX0_63_4576918229304087675 dX0_fillSlopes_41 ?_
        have jn1 : ∀ v : Int32, v = fz_b (fz_dry lim dd k) → ∀ (H : Heap) (locs : List Loc), va_P D vwCl [(f, .inr (0, [.ref s1, .ref s2, .ref f1, .ref f2, .ref lf, .ref rt])), (s1, fz_da cD 28 (fz_pre 1 k (fz_sHg lim dd) sH)), (s2, fz_da cD 28 (fz_pre 1 k (fz_sMg lim dd mm) sM)), (r, .inr (1, [.ref rd, .ref rm, .int (nI n)])), (rd, fz_da cD 28 dd), (rm, fz_da cD 28 mm)] H → va_D A [(f, .inr (0, [.ref s1, .ref s2, .ref f1, .ref f2, .ref lf, .ref rt])), (s1, fz_da cD 28 (fz_pre 1 k (fz_sHg lim dd) sH)), (s2, fz_da cD 28 (fz_pre 1 k (fz_sMg lim dd mm) sM)), (r, .inr (1, [.ref rd, .ref rm, .int (nI n)])), (rd, fz_da cD 28 dd), (rm, fz_da cD 28 mm)] → va_S A s.heap H locs → W p l e ({ frames := 2, cells := 0, slots := 0, locals := 60 }) s m ([.ref f, .ref r, .int (nI lim)] : List Value).toArray below meth c H locs 0 0 (MQ below (fz_O D [(cD, .double)] [(f, .inr (0, [.ref s1, .ref s2, .ref f1, .ref f2, .ref lf, .ref rt])), (s1, fz_da cD 28 (fz_pre 1 (n + 2) (fz_sHg lim dd) sH)), (s2, fz_da cD 28 (fz_pre 1 (n + 2) (fz_sMg lim dd mm) sM)), (r, .inr (1, [.ref rd, .ref rm, .int (nI n)])), (rd, fz_da cD 28 dd), (rm, fz_da cD 28 mm)] (none) A) ([.ref f, .ref r, .int (nI lim)] : List Value).toArray s 0 0 A) (F0 m 69 ls [.int v]) := by
          intro v ev H locs hP hD hS
          subst ev
          refine lv_istore (lv' := [(8, .int (fz_b (fz_dry lim dd k))), (6, .double (fz_slAt lim dd k)), (4, .double (dd (k + 1))), (0, .ref f), (1, .ref r), (2, .int (nI lim)), (3, .int (nI (k + 1)))]) hx hb dX0_fillSlopes_69 hl (by decide) rfl (fun ls hl => ?_)
          refine lv_aload_n hx hb dX0_fillSlopes_71 rfl (lv_at hl 3 rfl) ?_
          refine va_get (D := D) (ci := 0) (v := .ref s1) (C := RX0) (T := TX0) (N := 6) hx hb hts hin_X0 hown hK hP 0 rfl rfl 0 (by decide) hw_fieldLink_RX0_9_FlowGrid_Faces_depthSlopes_D (fun _ h9 => h9) rfl dX0_fillSlopes_72 ?_
          refine lv_iload_n hx hb dX0_fillSlopes_75 rfl (lv_at hl 6 rfl) ?_
          refine lv_iload hx hb dX0_fillSlopes_76 (lv_at hl 0 rfl) ?_
          have jn2 : ∀ v : UInt64, v = fz_sHg lim dd k → ∀ (H : Heap) (locs : List Loc), va_P D vwCl [(f, .inr (0, [.ref s1, .ref s2, .ref f1, .ref f2, .ref lf, .ref rt])), (s1, fz_da cD 28 (fz_pre 1 k (fz_sHg lim dd) sH)), (s2, fz_da cD 28 (fz_pre 1 k (fz_sMg lim dd mm) sM)), (r, .inr (1, [.ref rd, .ref rm, .int (nI n)])), (rd, fz_da cD 28 dd), (rm, fz_da cD 28 mm)] H → va_D A [(f, .inr (0, [.ref s1, .ref s2, .ref f1, .ref f2, .ref lf, .ref rt])), (s1, fz_da cD 28 (fz_pre 1 k (fz_sHg lim dd) sH)), (s2, fz_da cD 28 (fz_pre 1 k (fz_sMg lim dd mm) sM)), (r, .inr (1, [.ref rd, .ref rm, .int (nI n)])), (rd, fz_da cD 28 dd), (rm, fz_da cD 28 mm)] → va_S A s.heap H locs → W p l e ({ frames := 2, cells := 0, slots := 0, locals := 60 }) s m ([.ref f, .ref r, .int (nI lim)] : List Value).toArray below meth c H locs 0 0 (MQ below (fz_O D [(cD, .double)] [(f, .inr (0, [.ref s1, .ref s2, .ref f1, .ref f2, .ref lf, .ref rt])), (s1, fz_da cD 28 (fz_pre 1 (n + 2) (fz_sHg lim dd) sH)), (s2, fz_da cD 28 (fz_pre 1 (n + 2) (fz_sMg lim dd mm) sM)), (r, .inr (1, [.ref rd, .ref rm, .int (nI n)])), (rd, fz_da cD 28 dd), (rm, fz_da cD 28 mm)] (none) A) ([.ref f, .ref r, .int (nI lim)] : List Value).toArray s 0 0 A) (F0 m 87 ls [.double v, .int (nI (k + 1)), .ref s1]) := by
            intro v ev H locs hP hD hS
            subst ev
            refine fz_dast (i := k + 1) hx hb hK hP hD hS 1 0 rfl rfl (by omega) (by decide) dX0_fillSlopes_87 (fun H locs hP hD hS => ?_)
            have hP : va_P D vwCl [(f, .inr (0, [.ref s1, .ref s2, .ref f1, .ref f2, .ref lf, .ref rt])), (s1, fz_da cD 28 (vf_upd (fz_pre 1 k (fz_sHg lim dd) sH) (k + 1) (fz_sHg lim dd k))), (s2, fz_da cD 28 (fz_pre 1 k (fz_sMg lim dd mm) sM)), (r, .inr (1, [.ref rd, .ref rm, .int (nI n)])), (rd, fz_da cD 28 dd), (rm, fz_da cD 28 mm)] H := hP
            have hD : va_D A [(f, .inr (0, [.ref s1, .ref s2, .ref f1, .ref f2, .ref lf, .ref rt])), (s1, fz_da cD 28 (vf_upd (fz_pre 1 k (fz_sHg lim dd) sH) (k + 1) (fz_sHg lim dd k))), (s2, fz_da cD 28 (fz_pre 1 k (fz_sMg lim dd mm) sM)), (r, .inr (1, [.ref rd, .ref rm, .int (nI n)])), (rd, fz_da cD 28 dd), (rm, fz_da cD 28 mm)] := hD
            have hP : va_P D vwCl [(f, .inr (0, [.ref s1, .ref s2, .ref f1, .ref f2, .ref lf, .ref rt])), (s1, fz_da cD 28 (fz_pre 1 (k + 1) (fz_sHg lim dd) sH)), (s2, fz_da cD 28 (fz_pre 1 k (fz_sMg lim dd mm) sM)), (r, .inr (1, [.ref rd, .ref rm, .int (nI n)])), (rd, fz_da cD 28 dd), (rm, fz_da cD 28 mm)] H := by rw [← fz_pre_s 1 k (fz_sHg lim dd) sH]; exact hP
            have hD : va_D A [(f, .inr (0, [.ref s1, .ref s2, .ref f1, .ref f2, .ref lf, .ref rt])), (s1, fz_da cD 28 (fz_pre 1 (k + 1) (fz_sHg lim dd) sH)), (s2, fz_da cD 28 (fz_pre 1 k (fz_sMg lim dd mm) sM)), (r, .inr (1, [.ref rd, .ref rm, .int (nI n)])), (rd, fz_da cD 28 dd), (rm, fz_da cD 28 mm)] := by rw [← fz_pre_s 1 k (fz_sHg lim dd) sH]; exact hD
            refine lv_aload_n hx hb dX0_fillSlopes_88 rfl (lv_at hl 3 rfl) ?_
            refine va_get (D := D) (ci := 0) (v := .ref s2) (C := RX0) (T := TX0) (N := 6) hx hb hts hin_X0 hown hK hP 0 rfl rfl 1 (by decide) hw_fieldLink_RX0_15_FlowGrid_Faces_momentumSlopes_D (fun _ h9 => h9) rfl dX0_fillSlopes_89 ?_
            refine lv_iload_n hx hb dX0_fillSlopes_92 rfl (lv_at hl 6 rfl) ?_
            refine lv_iload hx hb dX0_fillSlopes_93 (lv_at hl 0 rfl) ?_
            have jn3 : ∀ v : UInt64, v = fz_sMg lim dd mm k → ∀ (H : Heap) (locs : List Loc), va_P D vwCl [(f, .inr (0, [.ref s1, .ref s2, .ref f1, .ref f2, .ref lf, .ref rt])), (s1, fz_da cD 28 (fz_pre 1 (k + 1) (fz_sHg lim dd) sH)), (s2, fz_da cD 28 (fz_pre 1 k (fz_sMg lim dd mm) sM)), (r, .inr (1, [.ref rd, .ref rm, .int (nI n)])), (rd, fz_da cD 28 dd), (rm, fz_da cD 28 mm)] H → va_D A [(f, .inr (0, [.ref s1, .ref s2, .ref f1, .ref f2, .ref lf, .ref rt])), (s1, fz_da cD 28 (fz_pre 1 (k + 1) (fz_sHg lim dd) sH)), (s2, fz_da cD 28 (fz_pre 1 k (fz_sMg lim dd mm) sM)), (r, .inr (1, [.ref rd, .ref rm, .int (nI n)])), (rd, fz_da cD 28 dd), (rm, fz_da cD 28 mm)] → va_S A s.heap H locs → W p l e ({ frames := 2, cells := 0, slots := 0, locals := 60 }) s m ([.ref f, .ref r, .int (nI lim)] : List Value).toArray below meth c H locs 0 0 (MQ below (fz_O D [(cD, .double)] [(f, .inr (0, [.ref s1, .ref s2, .ref f1, .ref f2, .ref lf, .ref rt])), (s1, fz_da cD 28 (fz_pre 1 (n + 2) (fz_sHg lim dd) sH)), (s2, fz_da cD 28 (fz_pre 1 (n + 2) (fz_sMg lim dd mm) sM)), (r, .inr (1, [.ref rd, .ref rm, .int (nI n)])), (rd, fz_da cD 28 dd), (rm, fz_da cD 28 mm)] (none) A) ([.ref f, .ref r, .int (nI lim)] : List Value).toArray s 0 0 A) (F0 m 112 ls [.double v, .int (nI (k + 1)), .ref s2]) := by
              intro v ev H locs hP hD hS
              subst ev
              refine fz_dast (i := k + 1) hx hb hK hP hD hS 2 0 rfl rfl (by omega) (by decide) dX0_fillSlopes_112 (fun H locs hP hD hS => ?_)
              have hP : va_P D vwCl [(f, .inr (0, [.ref s1, .ref s2, .ref f1, .ref f2, .ref lf, .ref rt])), (s1, fz_da cD 28 (fz_pre 1 (k + 1) (fz_sHg lim dd) sH)), (s2, fz_da cD 28 (vf_upd (fz_pre 1 k (fz_sMg lim dd mm) sM) (k + 1) (fz_sMg lim dd mm k))), (r, .inr (1, [.ref rd, .ref rm, .int (nI n)])), (rd, fz_da cD 28 dd), (rm, fz_da cD 28 mm)] H := hP
              have hD : va_D A [(f, .inr (0, [.ref s1, .ref s2, .ref f1, .ref f2, .ref lf, .ref rt])), (s1, fz_da cD 28 (fz_pre 1 (k + 1) (fz_sHg lim dd) sH)), (s2, fz_da cD 28 (vf_upd (fz_pre 1 k (fz_sMg lim dd mm) sM) (k + 1) (fz_sMg lim dd mm k))), (r, .inr (1, [.ref rd, .ref rm, .int (nI n)])), (rd, fz_da cD 28 dd), (rm, fz_da cD 28 mm)] := hD
              have hP : va_P D vwCl [(f, .inr (0, [.ref s1, .ref s2, .ref f1, .ref f2, .ref lf, .ref rt])), (s1, fz_da cD 28 (fz_pre 1 (k + 1) (fz_sHg lim dd) sH)), (s2, fz_da cD 28 (fz_pre 1 (k + 1) (fz_sMg lim dd mm) sM)), (r, .inr (1, [.ref rd, .ref rm, .int (nI n)])), (rd, fz_da cD 28 dd), (rm, fz_da cD 28 mm)] H := by rw [← fz_pre_s 1 k (fz_sMg lim dd mm) sM]; exact hP
              have hD : va_D A [(f, .inr (0, [.ref s1, .ref s2, .ref f1, .ref f2, .ref lf, .ref rt])), (s1, fz_da cD 28 (fz_pre 1 (k + 1) (fz_sHg lim dd) sH)), (s2, fz_da cD 28 (fz_pre 1 (k + 1) (fz_sMg lim dd mm) sM)), (r, .inr (1, [.ref rd, .ref rm, .int (nI n)])), (rd, fz_da cD 28 dd), (rm, fz_da cD 28 mm)] := by rw [← fz_pre_s 1 k (fz_sMg lim dd mm) sM]; exact hD
              refine lv_iinc (v := nI (k + 2)) (lv' := [(3, .int (nI (k + 2))), (8, .int (fz_b (fz_dry lim dd k))), (6, .double (fz_slAt lim dd k)), (4, .double (dd (k + 1))), (0, .ref f), (1, .ref r), (2, .int (nI lim))]) hx hb dX0_fillSlopes_113 hl (k := 6) rfl (nI_1 _) (by decide) rfl (fun ls hl => ?_)
              refine lv_goto (tgt := 2) hx hb dX0_fillSlopes_116 (by decide) ?_
              exact ih (k + 1) (by omega) (by omega) H locs ls (hP) (hD) hS (lv_sub hl [4, 5, 6, 0] rfl)
            refine lv_if_eq (tgt := 102) hx hb dX0_fillSlopes_95 (by decide) (fun c95 => ?_) (fun c95 => ?_)
            · refine lv_aload_n hx hb dX0_fillSlopes_102 rfl (lv_at hl 3 rfl) ?_
              refine lv_aload_n hx hb dX0_fillSlopes_103 rfl (lv_at hl 4 rfl) ?_
              refine va_get (D := D) (ci := 1) (v := .ref rm) (C := RX1) (T := TX1) (N := 3) hx hb hts hin_X1 hown hK hP 3 rfl rfl 1 (by decide) hw_fieldLink_RX0_65_FlowGrid_Row_momenta_D (fun _ h9 => h9) rfl dX0_fillSlopes_104 ?_
              refine lv_iload_n hx hb dX0_fillSlopes_107 rfl (lv_at hl 6 rfl) ?_
              refine lv_iload_n hx hb dX0_fillSlopes_108 rfl (lv_at hl 5 rfl) ?_
              refine fz_callV (ws' := [(f, .inr (0, [.ref s1, .ref s2, .ref f1, .ref f2, .ref lf, .ref rt])), (s1, fz_da cD 28 (fz_pre 1 (k + 1) (fz_sHg lim dd) sH)), (s2, fz_da cD 28 (fz_pre 1 k (fz_sMg lim dd mm) sM)), (r, .inr (1, [.ref rd, .ref rm, .int (nI n)])), (rd, fz_da cD 28 dd), (rm, fz_da cD 28 mm)]) (wr := [(f, .inr (0, [.ref s1, .ref s2, .ref f1, .ref f2, .ref lf, .ref rt])), (s1, fz_da cD 28 (fz_pre 1 (k + 1) (fz_sHg lim dd) sH)), (s2, fz_da cD 28 (fz_pre 1 k (fz_sMg lim dd mm) sM)), (r, .inr (1, [.ref rd, .ref rm, .int (nI n)])), (rd, fz_da cD 28 dd)]) (As := [.ref rm, .int (nI (k + 1)), .int (nI lim)]) (rest := [.int (nI (k + 1)), .ref s2]) ⟨hx, hb, hml, hown, hts⟩ (c_X0_slopeAt l D cD f rm k lim mm hlim (by omega) ((hok k (by omega)).2.1)) (cwV 3 hts gX0_fillSlopes_X0_slopeAt rfl rfl rfl (by decide +kernel) ⟨Nat.le_of_ble_eq_true rfl, Nat.le_of_ble_eq_true rfl⟩) hK hNW hP hD hS hA [5] [0, 1, 2, 3, 4] [0, 1, 2, 3, 4, 5] rfl rfl rfl rfl (by decide) rfl rfl (q0 := 0) (ci := 0) rfl rfl rfl rfl hl.1 rfl (Nat.le_of_ble_eq_true rfl) dX0_fillSlopes_109 ⟨Nat.zero_le _, Nat.zero_le _⟩ (fun H locs hP hD hS => ?_)
              exact jn3 _ (by simp [fz_sMg, fz_b0.mp c95]) H locs hP hD hS
            · refine lv_dconst0 hx hb dX0_fillSlopes_98 ?_
              refine lv_goto (tgt := 112) hx hb dX0_fillSlopes_99 (by decide) ?_
              exact jn3 _ (by simp [fz_sMg, fz_b1.mp c95]) H locs hP hD hS
          refine lv_if_eq (tgt := 85) hx hb dX0_fillSlopes_78 (by decide) (fun c78 => ?_) (fun c78 => ?_)
          · refine lv_dload hx hb dX0_fillSlopes_85 (lv_at hl 1 rfl) ?_
            exact jn2 _ (by simp [fz_sHg, fz_b0.mp c78]) H locs hP hD hS
          · refine lv_dconst0 hx hb dX0_fillSlopes_81 ?_
            refine lv_goto (tgt := 87) hx hb dX0_fillSlopes_82 (by decide) ?_
            exact jn2 _ (by simp [fz_sHg, fz_b1.mp c78]) H locs hP hD hS
        refine fz_dg_lt (tgt := 64) hx hb dX0_fillSlopes_44 dX0_fillSlopes_45 (by decide) (fun c44 => ?_) (fun c44 => ?_)
        · refine lv_iconst (v := nI 1) hx hb dX0_fillSlopes_64 (by decide) ?_
          refine lv_goto (tgt := 69) hx hb dX0_fillSlopes_65 (by decide) ?_
          exact jn1 _ (by simp [fz_b, fz_dry, nI_0, fz_nI1, c9, c44]) H locs hP hD hS
        · refine lv_dload hx hb dX0_fillSlopes_48 (lv_at hl 1 rfl) ?_
          refine lv_ldc2d hx hb hown hw_constantDouble_RX0_61_4602678819172646912 dX0_fillSlopes_50 ?_
          refine lv_dload hx hb dX0_fillSlopes_53 (lv_at hl 0 rfl) ?_
          refine lv_dmul hx hb dX0_fillSlopes_55 ((hok k (by omega)).2.2.1) ?_
          refine lv_dsub hx hb dX0_fillSlopes_56 ((hok k (by omega)).2.2.2.2) ?_
          refine lv_ldc2d hx hb hown hw_constantDouble_RX0_63_4576918229304087675 dX0_fillSlopes_57 ?_
          refine fz_dg_ge (tgt := 68) hx hb dX0_fillSlopes_60 dX0_fillSlopes_61 (by decide) (fun c60 => ?_) (fun c60 => ?_)
          · refine lv_iconst (v := nI 0) hx hb dX0_fillSlopes_68 (by decide) ?_
            exact jn1 _ (by simp [fz_b, fz_dry, nI_0, fz_nI1, c9, c44, c60]) H locs hP hD hS
          · refine lv_iconst (v := nI 1) hx hb dX0_fillSlopes_64 (by decide) ?_
            refine lv_goto (tgt := 69) hx hb dX0_fillSlopes_65 (by decide) ?_
            exact jn1 _ (by simp [fz_b, fz_dry, nI_0, fz_nI1, c9, c44, c60]) H locs hP hD hS
  exact loop2 (n + 2 + 1) 0 (by omega) (by omega) H locs ls (by rw [fz_pre_0, fz_pre_0]; exact hP) (by rw [fz_pre_0, fz_pre_0]; exact hD) hS (lv_sub hl [1, 2, 3, 0] rfl)

set_option maxHeartbeats 4000000 in
set_option maxRecDepth 100000 in
theorem c_X0_blend (l : Launch) (D : va_G) (cD : ClassId) (x y g1 g2 jp : UInt64) (hok : fz_bldOk x y g1 g2 jp) : fz_C l D [(cD, .double)] yX0_blend wsX0_blend ({ frames := 0, cells := 0, slots := 0, locals := 0 }) [.double x, .double y, .double g1, .double g2, .double jp] [] [] (some (.double (fz_bld x y g1 g2 jp))) := by
  refine fz_start (cc := cX0_blend) (maxL := 10) (ret := (some .double)) (by decide) rfl (Nat.le_of_ble_eq_true rfl) ?_
  intro p e s m below meth c A hx hb hr hlocks hml hown hts hK hA hNW H locs hP hD hS ls hl
  have hl : lv_has ls 10 [(0, .double x), (2, .double y), (4, .double g1), (6, .double g2), (8, .double jp)] := hl
  have hown : s.vm.findClass RX0 = some m.cls := hown
  refine lv_dload_n hx hb dX0_blend_0 rfl (lv_at hl 0 rfl) ?_
  refine lv_dconst0 hx hb dX0_blend_1 ?_
  refine fz_dg_lt (tgt := 9) hx hb dX0_blend_2 dX0_blend_3 (by decide) (fun c2 => ?_) (fun c2 => ?_)
  · refine lv_dload_n hx hb dX0_blend_9 rfl (lv_at hl 1 rfl) ?_
    refine lv_dconst0 hx hb dX0_blend_10 ?_
    refine fz_dl_gt (tgt := 18) hx hb dX0_blend_11 dX0_blend_12 (by decide) (fun c11 => ?_) (fun c11 => ?_)
    · refine lv_dload_n hx hb dX0_blend_18 rfl (lv_at hl 1 rfl) ?_
      refine lv_dload hx hb dX0_blend_19 (lv_at hl 2 rfl) ?_
      refine lv_dmul hx hb dX0_blend_21 ((hok c2 c11).1) ?_
      refine lv_dload_n hx hb dX0_blend_22 rfl (lv_at hl 0 rfl) ?_
      refine lv_dload hx hb dX0_blend_23 (lv_at hl 3 rfl) ?_
      refine lv_dmul hx hb dX0_blend_25 ((hok c2 c11).2.1) ?_
      refine lv_dsub hx hb dX0_blend_26 ((hok c2 c11).2.2.1) ?_
      refine lv_dload_n hx hb dX0_blend_27 rfl (lv_at hl 0 rfl) ?_
      refine lv_dload_n hx hb dX0_blend_28 rfl (lv_at hl 1 rfl) ?_
      refine lv_dmul hx hb dX0_blend_29 ((hok c2 c11).2.2.2.1) ?_
      refine lv_dload hx hb dX0_blend_30 (lv_at hl 4 rfl) ?_
      refine lv_dmul hx hb dX0_blend_32 ((hok c2 c11).2.2.2.2.1) ?_
      refine lv_dadd hx hb dX0_blend_33 ((hok c2 c11).2.2.2.2.2.1) ?_
      refine lv_dload_n hx hb dX0_blend_34 rfl (lv_at hl 1 rfl) ?_
      refine lv_dload_n hx hb dX0_blend_35 rfl (lv_at hl 0 rfl) ?_
      refine lv_dsub hx hb dX0_blend_36 ((hok c2 c11).2.2.2.2.2.2.1) ?_
      refine lv_ddiv hx hb dX0_blend_37 ((hok c2 c11).2.2.2.2.2.2.2) ?_
      exact fz_dret hx hb hr hlocks (by simp [fz_bld, c2, c11]) hP hK hD hS dX0_blend_38
    · refine lv_dload hx hb dX0_blend_15 (lv_at hl 3 rfl) ?_
      exact fz_dret hx hb hr hlocks (by simp [fz_bld, c2, c11]) hP hK hD hS dX0_blend_17
  · refine lv_dload hx hb dX0_blend_6 (lv_at hl 2 rfl) ?_
    exact fz_dret hx hb hr hlocks (by simp [fz_bld, c2]) hP hK hD hS dX0_blend_8

set_option maxHeartbeats 4000000 in
set_option maxRecDepth 100000 in
theorem c_X0_guess (l : Launch) (D : va_G) (cD : ClassId) (r rd rm n : Nat) (dd mm : Nat → UInt64) (f s1 s2 f1 f2 lf rt k : Nat) (sH sM : Nat → UInt64) (a0 a1 a2 a3 b0 b1 b2 b3 : UInt64) (hk : k ≤ 24) (hok : fz_gsOk dd mm sH sM k) : fz_C l D [(cD, .double)] yX0_guess wsX0_guess ({ frames := 2, cells := 0, slots := 0, locals := 60 }) [.ref f, .ref r, .int (nI k)] [(f, .inr (0, [.ref s1, .ref s2, .ref f1, .ref f2, .ref lf, .ref rt])), (s1, fz_da cD 28 sH), (s2, fz_da cD 28 sM), (lf, .inr (2, [.double a0, .double a1, .double a2, .double a3])), (rt, .inr (2, [.double b0, .double b1, .double b2, .double b3])), (r, .inr (1, [.ref rd, .ref rm, .int (nI n)])), (rd, fz_da cD 28 dd), (rm, fz_da cD 28 mm)] [(f, .inr (0, [.ref s1, .ref s2, .ref f1, .ref f2, .ref lf, .ref rt])), (s1, fz_da cD 28 sH), (s2, fz_da cD 28 sM), (lf, .inr (2, [.double (fz_L dd sH k), .double (fz_L mm sM k), .double (FP.ddiv (fz_L mm sM k) (fz_L dd sH k)), .double (fz_root (fz_L dd sH k))])), (rt, .inr (2, [.double (fz_R dd sH k), .double (fz_R mm sM k), .double (FP.ddiv (fz_R mm sM k) (fz_R dd sH k)), .double (fz_root (fz_R dd sH k))])), (r, .inr (1, [.ref rd, .ref rm, .int (nI n)])), (rd, fz_da cD 28 dd), (rm, fz_da cD 28 mm)] (none) := by
  refine fz_start (cc := cX0_guess) (maxL := 5) (ret := none) (by decide) rfl (Nat.le_of_ble_eq_true rfl) ?_
  intro p e s m below meth c A hx hb hr hlocks hml hown hts hK hA hNW H locs hP hD hS ls hl
  have hl : lv_has ls 5 [(0, .ref f), (1, .ref r), (2, .int (nI k))] := hl
  have hown : s.vm.findClass RX0 = some m.cls := hown
  have hw_fieldLink_RX0_27_FlowGrid_Faces_left_LFlowGrid_State := hts (.fieldLink RX0 27 "FlowGrid$Faces" "left" "LFlowGrid$State;") (by decide +kernel)
  have hin_X0 : ∀ w ∈ u_ws RX0 TX0 6, w ∈ wsX0_guess := by decide +kernel
  have hw_fieldLink_RX0_54_FlowGrid_Row_depths_D := hts (.fieldLink RX0 54 "FlowGrid$Row" "depths" "[D") (by decide +kernel)
  have hin_X1 : ∀ w ∈ u_ws RX1 TX1 3, w ∈ wsX0_guess := by decide +kernel
  have hw_constantDouble_RX0_61_4602678819172646912 := hts (.constantDouble RX0 61 (4602678819172646912)) (by decide +kernel)
  have hw_fieldLink_RX0_9_FlowGrid_Faces_depthSlopes_D := hts (.fieldLink RX0 9 "FlowGrid$Faces" "depthSlopes" "[D") (by decide +kernel)
  have hw_fieldLink_RX0_65_FlowGrid_Row_momenta_D := hts (.fieldLink RX0 65 "FlowGrid$Row" "momenta" "[D") (by decide +kernel)
  have hw_fieldLink_RX0_15_FlowGrid_Faces_momentumSlopes_D := hts (.fieldLink RX0 15 "FlowGrid$Faces" "momentumSlopes" "[D") (by decide +kernel)
  have hw_fieldLink_RX0_31_FlowGrid_Faces_right_LFlowGrid_State := hts (.fieldLink RX0 31 "FlowGrid$Faces" "right" "LFlowGrid$State;") (by decide +kernel)
  refine lv_iconst (v := nI 2) hx hb dX0_guess_0 (by decide) ?_
  refine lv_iload_n hx hb dX0_guess_1 rfl (lv_at hl 2 rfl) ?_
  refine fz_iaddN hx hb dX0_guess_2 ?_
  refine fz_topn (b := k + 2) (by omega) ?_
  refine lv_iconst (v := nI 1) hx hb dX0_guess_3 (by decide) ?_
  refine fz_isubN hx hb (by omega) dX0_guess_4 ?_
  refine fz_topn (b := k + 1) (by omega) ?_
  refine lv_istore_n (lv' := [(3, .int (nI (k + 1))), (0, .ref f), (1, .ref r), (2, .int (nI k))]) hx hb dX0_guess_5 rfl hl (by decide) rfl (fun ls hl => ?_)
  refine lv_iconst (v := nI 2) hx hb dX0_guess_6 (by decide) ?_
  refine lv_iload_n hx hb dX0_guess_7 rfl (lv_at hl 3 rfl) ?_
  refine fz_iaddN hx hb dX0_guess_8 ?_
  refine fz_topn (b := k + 2) (by omega) ?_
  refine lv_istore (lv' := [(4, .int (nI (k + 2))), (3, .int (nI (k + 1))), (0, .ref f), (1, .ref r), (2, .int (nI k))]) hx hb dX0_guess_9 hl (by decide) rfl (fun ls hl => ?_)
  refine lv_aload_n hx hb dX0_guess_11 rfl (lv_at hl 2 rfl) ?_
  refine va_get (D := D) (ci := 0) (v := .ref lf) (C := RX0) (T := TX0) (N := 6) hx hb hts hin_X0 hown hK hP 0 rfl rfl 4 (by decide) hw_fieldLink_RX0_27_FlowGrid_Faces_left_LFlowGrid_State (fun _ h9 => h9) rfl dX0_guess_12 ?_
  refine lv_aload_n hx hb dX0_guess_15 rfl (lv_at hl 3 rfl) ?_
  refine va_get (D := D) (ci := 1) (v := .ref rd) (C := RX1) (T := TX1) (N := 3) hx hb hts hin_X1 hown hK hP 5 rfl rfl 0 (by decide) hw_fieldLink_RX0_54_FlowGrid_Row_depths_D (fun _ h9 => h9) rfl dX0_guess_16 ?_
  refine lv_iload_n hx hb dX0_guess_19 rfl (lv_at hl 1 rfl) ?_
  refine fz_dald (i := k + 1) hx hb hK hP 6 0 rfl rfl (by omega) (by decide) dX0_guess_20 ?_
  refine lv_ldc2d hx hb hown hw_constantDouble_RX0_61_4602678819172646912 dX0_guess_21 ?_
  refine lv_aload_n hx hb dX0_guess_24 rfl (lv_at hl 2 rfl) ?_
  refine va_get (D := D) (ci := 0) (v := .ref s1) (C := RX0) (T := TX0) (N := 6) hx hb hts hin_X0 hown hK hP 0 rfl rfl 0 (by decide) hw_fieldLink_RX0_9_FlowGrid_Faces_depthSlopes_D (fun _ h9 => h9) rfl dX0_guess_25 ?_
  refine lv_iload_n hx hb dX0_guess_28 rfl (lv_at hl 1 rfl) ?_
  refine fz_dald (i := k + 1) hx hb hK hP 1 0 rfl rfl (by omega) (by decide) dX0_guess_29 ?_
  refine lv_dmul hx hb dX0_guess_30 (hok.1) ?_
  refine lv_dadd hx hb dX0_guess_31 (hok.2.1) ?_
  refine lv_aload_n hx hb dX0_guess_32 rfl (lv_at hl 3 rfl) ?_
  refine va_get (D := D) (ci := 1) (v := .ref rm) (C := RX1) (T := TX1) (N := 3) hx hb hts hin_X1 hown hK hP 5 rfl rfl 1 (by decide) hw_fieldLink_RX0_65_FlowGrid_Row_momenta_D (fun _ h9 => h9) rfl dX0_guess_33 ?_
  refine lv_iload_n hx hb dX0_guess_36 rfl (lv_at hl 1 rfl) ?_
  refine fz_dald (i := k + 1) hx hb hK hP 7 0 rfl rfl (by omega) (by decide) dX0_guess_37 ?_
  refine lv_ldc2d hx hb hown hw_constantDouble_RX0_61_4602678819172646912 dX0_guess_38 ?_
  refine lv_aload_n hx hb dX0_guess_41 rfl (lv_at hl 2 rfl) ?_
  refine va_get (D := D) (ci := 0) (v := .ref s2) (C := RX0) (T := TX0) (N := 6) hx hb hts hin_X0 hown hK hP 0 rfl rfl 1 (by decide) hw_fieldLink_RX0_15_FlowGrid_Faces_momentumSlopes_D (fun _ h9 => h9) rfl dX0_guess_42 ?_
  refine lv_iload_n hx hb dX0_guess_45 rfl (lv_at hl 1 rfl) ?_
  refine fz_dald (i := k + 1) hx hb hK hP 2 0 rfl rfl (by omega) (by decide) dX0_guess_46 ?_
  refine lv_dmul hx hb dX0_guess_47 (hok.2.2.1) ?_
  refine lv_dadd hx hb dX0_guess_48 (hok.2.2.2.1) ?_
  refine fz_callV (ws' := [(f, .inr (0, [.ref s1, .ref s2, .ref f1, .ref f2, .ref lf, .ref rt])), (s1, fz_da cD 28 sH), (s2, fz_da cD 28 sM), (lf, .inr (2, [.double (FP.dadd (dd (k + 1)) (FP.dmul 4602678819172646912 (sH (k + 1)))), .double (FP.dadd (mm (k + 1)) (FP.dmul 4602678819172646912 (sM (k + 1)))), .double (FP.ddiv (FP.dadd (mm (k + 1)) (FP.dmul 4602678819172646912 (sM (k + 1)))) (FP.dadd (dd (k + 1)) (FP.dmul 4602678819172646912 (sH (k + 1))))), .double (fz_root (FP.dadd (dd (k + 1)) (FP.dmul 4602678819172646912 (sH (k + 1)))))])), (rt, .inr (2, [.double b0, .double b1, .double b2, .double b3])), (r, .inr (1, [.ref rd, .ref rm, .int (nI n)])), (rd, fz_da cD 28 dd), (rm, fz_da cD 28 mm)]) (wr := [(f, .inr (0, [.ref s1, .ref s2, .ref f1, .ref f2, .ref lf, .ref rt])), (s1, fz_da cD 28 sH), (s2, fz_da cD 28 sM), (rt, .inr (2, [.double b0, .double b1, .double b2, .double b3])), (r, .inr (1, [.ref rd, .ref rm, .int (nI n)])), (rd, fz_da cD 28 dd), (rm, fz_da cD 28 mm)]) (As := [.double (FP.dadd (dd (k + 1)) (FP.dmul 4602678819172646912 (sH (k + 1)))), .double (FP.dadd (mm (k + 1)) (FP.dmul 4602678819172646912 (sM (k + 1))))]) (rest := []) ⟨hx, hb, hml, hown, hts⟩ (c_X2_become l D cD lf a0 a1 a2 a3 (FP.dadd (dd (k + 1)) (FP.dmul 4602678819172646912 (sH (k + 1)))) (FP.dadd (mm (k + 1)) (FP.dmul 4602678819172646912 (sM (k + 1)))) (hok.2.2.2.2.2.2.2.2.1)) (cwV 2 hts gX0_guess_X2_become rfl rfl rfl (by decide +kernel) ⟨Nat.le_of_ble_eq_true rfl, Nat.le_of_ble_eq_true rfl⟩) hK hNW hP hD hS hA [3] [0, 1, 2, 4, 5, 6, 7] [0, 1, 2, 7, 3, 4, 5, 6] rfl rfl rfl rfl (by decide) rfl rfl (q0 := 3) (ci := 2) rfl rfl rfl rfl hl.1 rfl (Nat.le_of_ble_eq_true rfl) dX0_guess_49 ⟨Nat.zero_le _, Nat.zero_le _⟩ (fun H locs hP hD hS => ?_)
  refine lv_aload_n hx hb dX0_guess_52 rfl (lv_at hl 2 rfl) ?_
  refine va_get (D := D) (ci := 0) (v := .ref rt) (C := RX0) (T := TX0) (N := 6) hx hb hts hin_X0 hown hK hP 0 rfl rfl 5 (by decide) hw_fieldLink_RX0_31_FlowGrid_Faces_right_LFlowGrid_State (fun _ h9 => h9) rfl dX0_guess_53 ?_
  refine lv_aload_n hx hb dX0_guess_56 rfl (lv_at hl 3 rfl) ?_
  refine va_get (D := D) (ci := 1) (v := .ref rd) (C := RX1) (T := TX1) (N := 3) hx hb hts hin_X1 hown hK hP 5 rfl rfl 0 (by decide) hw_fieldLink_RX0_54_FlowGrid_Row_depths_D (fun _ h9 => h9) rfl dX0_guess_57 ?_
  refine lv_iload hx hb dX0_guess_60 (lv_at hl 0 rfl) ?_
  refine fz_dald (i := k + 2) hx hb hK hP 6 0 rfl rfl (by omega) (by decide) dX0_guess_62 ?_
  refine lv_ldc2d hx hb hown hw_constantDouble_RX0_61_4602678819172646912 dX0_guess_63 ?_
  refine lv_aload_n hx hb dX0_guess_66 rfl (lv_at hl 2 rfl) ?_
  refine va_get (D := D) (ci := 0) (v := .ref s1) (C := RX0) (T := TX0) (N := 6) hx hb hts hin_X0 hown hK hP 0 rfl rfl 0 (by decide) hw_fieldLink_RX0_9_FlowGrid_Faces_depthSlopes_D (fun _ h9 => h9) rfl dX0_guess_67 ?_
  refine lv_iload hx hb dX0_guess_70 (lv_at hl 0 rfl) ?_
  refine fz_dald (i := k + 2) hx hb hK hP 1 0 rfl rfl (by omega) (by decide) dX0_guess_72 ?_
  refine lv_dmul hx hb dX0_guess_73 (hok.2.2.2.2.1) ?_
  refine lv_dsub hx hb dX0_guess_74 (hok.2.2.2.2.2.1) ?_
  refine lv_aload_n hx hb dX0_guess_75 rfl (lv_at hl 3 rfl) ?_
  refine va_get (D := D) (ci := 1) (v := .ref rm) (C := RX1) (T := TX1) (N := 3) hx hb hts hin_X1 hown hK hP 5 rfl rfl 1 (by decide) hw_fieldLink_RX0_65_FlowGrid_Row_momenta_D (fun _ h9 => h9) rfl dX0_guess_76 ?_
  refine lv_iload hx hb dX0_guess_79 (lv_at hl 0 rfl) ?_
  refine fz_dald (i := k + 2) hx hb hK hP 7 0 rfl rfl (by omega) (by decide) dX0_guess_81 ?_
  refine lv_ldc2d hx hb hown hw_constantDouble_RX0_61_4602678819172646912 dX0_guess_82 ?_
  refine lv_aload_n hx hb dX0_guess_85 rfl (lv_at hl 2 rfl) ?_
  refine va_get (D := D) (ci := 0) (v := .ref s2) (C := RX0) (T := TX0) (N := 6) hx hb hts hin_X0 hown hK hP 0 rfl rfl 1 (by decide) hw_fieldLink_RX0_15_FlowGrid_Faces_momentumSlopes_D (fun _ h9 => h9) rfl dX0_guess_86 ?_
  refine lv_iload hx hb dX0_guess_89 (lv_at hl 0 rfl) ?_
  refine fz_dald (i := k + 2) hx hb hK hP 2 0 rfl rfl (by omega) (by decide) dX0_guess_91 ?_
  refine lv_dmul hx hb dX0_guess_92 (hok.2.2.2.2.2.2.1) ?_
  refine lv_dsub hx hb dX0_guess_93 (hok.2.2.2.2.2.2.2.1) ?_
  refine fz_callV (ws' := [(f, .inr (0, [.ref s1, .ref s2, .ref f1, .ref f2, .ref lf, .ref rt])), (s1, fz_da cD 28 sH), (s2, fz_da cD 28 sM), (lf, .inr (2, [.double (FP.dadd (dd (k + 1)) (FP.dmul 4602678819172646912 (sH (k + 1)))), .double (FP.dadd (mm (k + 1)) (FP.dmul 4602678819172646912 (sM (k + 1)))), .double (FP.ddiv (FP.dadd (mm (k + 1)) (FP.dmul 4602678819172646912 (sM (k + 1)))) (FP.dadd (dd (k + 1)) (FP.dmul 4602678819172646912 (sH (k + 1))))), .double (fz_root (FP.dadd (dd (k + 1)) (FP.dmul 4602678819172646912 (sH (k + 1)))))])), (rt, .inr (2, [.double (FP.dsub (dd (k + 2)) (FP.dmul 4602678819172646912 (sH (k + 2)))), .double (FP.dsub (mm (k + 2)) (FP.dmul 4602678819172646912 (sM (k + 2)))), .double (FP.ddiv (FP.dsub (mm (k + 2)) (FP.dmul 4602678819172646912 (sM (k + 2)))) (FP.dsub (dd (k + 2)) (FP.dmul 4602678819172646912 (sH (k + 2))))), .double (fz_root (FP.dsub (dd (k + 2)) (FP.dmul 4602678819172646912 (sH (k + 2)))))])), (r, .inr (1, [.ref rd, .ref rm, .int (nI n)])), (rd, fz_da cD 28 dd), (rm, fz_da cD 28 mm)]) (wr := [(f, .inr (0, [.ref s1, .ref s2, .ref f1, .ref f2, .ref lf, .ref rt])), (s1, fz_da cD 28 sH), (s2, fz_da cD 28 sM), (lf, .inr (2, [.double (FP.dadd (dd (k + 1)) (FP.dmul 4602678819172646912 (sH (k + 1)))), .double (FP.dadd (mm (k + 1)) (FP.dmul 4602678819172646912 (sM (k + 1)))), .double (FP.ddiv (FP.dadd (mm (k + 1)) (FP.dmul 4602678819172646912 (sM (k + 1)))) (FP.dadd (dd (k + 1)) (FP.dmul 4602678819172646912 (sH (k + 1))))), .double (fz_root (FP.dadd (dd (k + 1)) (FP.dmul 4602678819172646912 (sH (k + 1)))))])), (r, .inr (1, [.ref rd, .ref rm, .int (nI n)])), (rd, fz_da cD 28 dd), (rm, fz_da cD 28 mm)]) (As := [.double (FP.dsub (dd (k + 2)) (FP.dmul 4602678819172646912 (sH (k + 2)))), .double (FP.dsub (mm (k + 2)) (FP.dmul 4602678819172646912 (sM (k + 2))))]) (rest := []) ⟨hx, hb, hml, hown, hts⟩ (c_X2_become l D cD rt b0 b1 b2 b3 (FP.dsub (dd (k + 2)) (FP.dmul 4602678819172646912 (sH (k + 2)))) (FP.dsub (mm (k + 2)) (FP.dmul 4602678819172646912 (sM (k + 2)))) (hok.2.2.2.2.2.2.2.2.2)) (cwV 2 hts gX0_guess_X2_become rfl rfl rfl (by decide +kernel) ⟨Nat.le_of_ble_eq_true rfl, Nat.le_of_ble_eq_true rfl⟩) hK hNW hP hD hS hA [4] [0, 1, 2, 3, 5, 6, 7] [0, 1, 2, 3, 7, 4, 5, 6] rfl rfl rfl rfl (by decide) rfl rfl (q0 := 4) (ci := 2) rfl rfl rfl rfl hl.1 rfl (Nat.le_of_ble_eq_true rfl) dX0_guess_94 ⟨Nat.zero_le _, Nat.zero_le _⟩ (fun H locs hP hD hS => ?_)
  exact fz_vret hx hb hr hlocks (rfl) hP hK hD hS dX0_guess_97

set_option maxHeartbeats 4000000 in
set_option maxRecDepth 100000 in
theorem c_X0_solveBroad (l : Launch) (D : va_G) (cD : ClassId) (f s1 s2 f1 f2 lf rt k : Nat) (FH FM : Nat → UInt64) (h1 m1 u1 c1 h2 m2 u2 c2 : UInt64) (hk : k ≤ 24) (hok : fz_bOk h1 m1 u1 c1 h2 m2 u2 c2) : fz_C l D [(cD, .double)] yX0_solveBroad wsX0_solveBroad ({ frames := 2, cells := 0, slots := 0, locals := 60 }) [.ref f, .int (nI k)] [(f, .inr (0, [.ref s1, .ref s2, .ref f1, .ref f2, .ref lf, .ref rt])), (f1, fz_da cD 25 FH), (f2, fz_da cD 25 FM), (lf, .inr (2, [.double h1, .double m1, .double u1, .double c1])), (rt, .inr (2, [.double h2, .double m2, .double u2, .double c2]))] [(f, .inr (0, [.ref s1, .ref s2, .ref f1, .ref f2, .ref lf, .ref rt])), (f1, fz_da cD 25 (vf_upd FH k (fz_brd (fz_sB u1 c1 u2 c2) m1 m2 h1 h2))), (f2, fz_da cD 25 (vf_upd FM k (fz_brd (fz_sB u1 c1 u2 c2) (fz_mflux h1 m1 u1) (fz_mflux h2 m2 u2) m1 m2))), (lf, .inr (2, [.double h1, .double m1, .double u1, .double c1])), (rt, .inr (2, [.double h2, .double m2, .double u2, .double c2]))] (none) := by
  refine fz_start (cc := cX0_solveBroad) (maxL := 4) (ret := none) (by decide) rfl (Nat.le_of_ble_eq_true rfl) ?_
  intro p e s m below meth c A hx hb hr hlocks hml hown hts hK hA hNW H locs hP hD hS ls hl
  have hl : lv_has ls 4 [(0, .ref f), (1, .int (nI k))] := hl
  have hown : s.vm.findClass RX0 = some m.cls := hown
  have hw_fieldLink_RX0_27_FlowGrid_Faces_left_LFlowGrid_State := hts (.fieldLink RX0 27 "FlowGrid$Faces" "left" "LFlowGrid$State;") (by decide +kernel)
  have hin_X0 : ∀ w ∈ u_ws RX0 TX0 6, w ∈ wsX0_solveBroad := by decide +kernel
  have hw_fieldLink_RX0_31_FlowGrid_Faces_right_LFlowGrid_State := hts (.fieldLink RX0 31 "FlowGrid$Faces" "right" "LFlowGrid$State;") (by decide +kernel)
  have hw_initialized_RX3 := hts (.initialized RX3) (by decide +kernel)
  have hw_static_yX3_greater := hts (.static yX3_greater) (by decide +kernel)
  have hw_fieldLink_RX0_18_FlowGrid_Faces_depthFluxes_D := hts (.fieldLink RX0 18 "FlowGrid$Faces" "depthFluxes" "[D") (by decide +kernel)
  have hw_constantDouble_RX0_61_4602678819172646912 := hts (.constantDouble RX0 61 (4602678819172646912)) (by decide +kernel)
  have hw_fieldLink_RX0_91_FlowGrid_State_h_D := hts (.fieldLink RX0 91 "FlowGrid$State" "h" "D") (by decide +kernel)
  have hin_X2 : ∀ w ∈ u_ws RX2 TX2 4, w ∈ wsX0_solveBroad := by decide +kernel
  have hw_fieldLink_RX0_21_FlowGrid_Faces_momentumFluxes_D := hts (.fieldLink RX0 21 "FlowGrid$Faces" "momentumFluxes" "[D") (by decide +kernel)
  have hw_fieldLink_RX0_98_FlowGrid_State_m_D := hts (.fieldLink RX0 98 "FlowGrid$State" "m" "D") (by decide +kernel)
  refine lv_aload_n hx hb dX0_solveBroad_0 rfl (lv_at hl 0 rfl) ?_
  refine va_get (D := D) (ci := 0) (v := .ref lf) (C := RX0) (T := TX0) (N := 6) hx hb hts hin_X0 hown hK hP 0 rfl rfl 4 (by decide) hw_fieldLink_RX0_27_FlowGrid_Faces_left_LFlowGrid_State (fun _ h9 => h9) rfl dX0_solveBroad_1 ?_
  refine fz_callV (ws' := [(f, .inr (0, [.ref s1, .ref s2, .ref f1, .ref f2, .ref lf, .ref rt])), (f1, fz_da cD 25 FH), (f2, fz_da cD 25 FM), (lf, .inr (2, [.double h1, .double m1, .double u1, .double c1])), (rt, .inr (2, [.double h2, .double m2, .double u2, .double c2]))]) (wr := [(f, .inr (0, [.ref s1, .ref s2, .ref f1, .ref f2, .ref lf, .ref rt])), (f1, fz_da cD 25 FH), (f2, fz_da cD 25 FM), (rt, .inr (2, [.double h2, .double m2, .double u2, .double c2]))]) (As := []) (rest := []) ⟨hx, hb, hml, hown, hts⟩ (c_X2_reach l D cD lf h1 m1 u1 c1 (hok.1)) (cwV 0 hts gX0_solveBroad_X2_reach rfl rfl rfl (by decide +kernel) ⟨Nat.le_of_ble_eq_true rfl, Nat.le_of_ble_eq_true rfl⟩) hK hNW hP hD hS hA [3] [0, 1, 2, 4] [0, 1, 2, 4, 3] rfl rfl rfl rfl (by decide) rfl rfl (q0 := 3) (ci := 2) rfl rfl rfl rfl hl.1 rfl (Nat.le_of_ble_eq_true rfl) dX0_solveBroad_4 ⟨Nat.zero_le _, Nat.zero_le _⟩ (fun H locs hP hD hS => ?_)
  refine lv_aload_n hx hb dX0_solveBroad_7 rfl (lv_at hl 0 rfl) ?_
  refine va_get (D := D) (ci := 0) (v := .ref rt) (C := RX0) (T := TX0) (N := 6) hx hb hts hin_X0 hown hK hP 0 rfl rfl 5 (by decide) hw_fieldLink_RX0_31_FlowGrid_Faces_right_LFlowGrid_State (fun _ h9 => h9) rfl dX0_solveBroad_8 ?_
  refine fz_callV (ws' := [(f, .inr (0, [.ref s1, .ref s2, .ref f1, .ref f2, .ref lf, .ref rt])), (f1, fz_da cD 25 FH), (f2, fz_da cD 25 FM), (lf, .inr (2, [.double h1, .double m1, .double u1, .double c1])), (rt, .inr (2, [.double h2, .double m2, .double u2, .double c2]))]) (wr := [(f, .inr (0, [.ref s1, .ref s2, .ref f1, .ref f2, .ref lf, .ref rt])), (f1, fz_da cD 25 FH), (f2, fz_da cD 25 FM), (lf, .inr (2, [.double h1, .double m1, .double u1, .double c1]))]) (As := []) (rest := [.double (fz_reach u1 c1)]) ⟨hx, hb, hml, hown, hts⟩ (c_X2_reach l D cD rt h2 m2 u2 c2 (hok.2.1)) (cwV 0 hts gX0_solveBroad_X2_reach rfl rfl rfl (by decide +kernel) ⟨Nat.le_of_ble_eq_true rfl, Nat.le_of_ble_eq_true rfl⟩) hK hNW hP hD hS hA [4] [0, 1, 2, 3] [0, 1, 2, 3, 4] rfl rfl rfl rfl (by decide) rfl rfl (q0 := 4) (ci := 2) rfl rfl rfl rfl hl.1 rfl (Nat.le_of_ble_eq_true rfl) dX0_solveBroad_11 ⟨Nat.zero_le _, Nat.zero_le _⟩ (fun H locs hP hD hS => ?_)
  refine fz_callN (ws' := [(f, .inr (0, [.ref s1, .ref s2, .ref f1, .ref f2, .ref lf, .ref rt])), (f1, fz_da cD 25 FH), (f2, fz_da cD 25 FM), (lf, .inr (2, [.double h1, .double m1, .double u1, .double c1])), (rt, .inr (2, [.double h2, .double m2, .double u2, .double c2]))]) (wr := [(f, .inr (0, [.ref s1, .ref s2, .ref f1, .ref f2, .ref lf, .ref rt])), (f1, fz_da cD 25 FH), (f2, fz_da cD 25 FM), (lf, .inr (2, [.double h1, .double m1, .double u1, .double c1])), (rt, .inr (2, [.double h2, .double m2, .double u2, .double c2]))]) (As := [.double (fz_reach u1 c1), .double (fz_reach u2 c2)]) (rest := []) ⟨hx, hb, hml, hown, hts⟩ (c_X3_greater l D cD (fz_reach u1 c1) (fz_reach u2 c2)) ⟨va_cnB 2 hts gX0_solveBroad_X3_greater_n85 rfl rfl rfl (hNW ("FlowGrid$Faces", 85, ⟨"FlowGrid", "greater", "(DD)D"⟩) (by decide +kernel)) hw_initialized_RX3 (by decide +kernel) ⟨Nat.le_of_ble_eq_true rfl, Nat.le_of_ble_eq_true rfl⟩, hw_static_yX3_greater, trivial⟩ hK hNW hP hD hS hA [] [0, 1, 2, 3, 4] [0, 1, 2, 3, 4] rfl rfl rfl rfl (by decide) rfl rfl rfl hl.1 rfl (Nat.le_of_ble_eq_true rfl) dX0_solveBroad_14 ⟨Nat.zero_le _, Nat.zero_le _⟩ (fun H locs hP hD hS => ?_)
  refine lv_dstore_n (lv' := [(2, .double (fz_gtrC (fz_reach u1 c1) (fz_reach u2 c2))), (0, .ref f), (1, .int (nI k))]) hx hb dX0_solveBroad_17 rfl hl (by decide) rfl (fun ls hl => ?_)
  refine lv_aload_n hx hb dX0_solveBroad_18 rfl (lv_at hl 1 rfl) ?_
  refine va_get (D := D) (ci := 0) (v := .ref f1) (C := RX0) (T := TX0) (N := 6) hx hb hts hin_X0 hown hK hP 0 rfl rfl 2 (by decide) hw_fieldLink_RX0_18_FlowGrid_Faces_depthFluxes_D (fun _ h9 => h9) rfl dX0_solveBroad_19 ?_
  refine lv_iload_n hx hb dX0_solveBroad_22 rfl (lv_at hl 2 rfl) ?_
  refine lv_ldc2d hx hb hown hw_constantDouble_RX0_61_4602678819172646912 dX0_solveBroad_23 ?_
  refine lv_aload_n hx hb dX0_solveBroad_26 rfl (lv_at hl 1 rfl) ?_
  refine va_get (D := D) (ci := 0) (v := .ref lf) (C := RX0) (T := TX0) (N := 6) hx hb hts hin_X0 hown hK hP 0 rfl rfl 4 (by decide) hw_fieldLink_RX0_27_FlowGrid_Faces_left_LFlowGrid_State (fun _ h9 => h9) rfl dX0_solveBroad_27 ?_
  refine fz_callV (ws' := [(f, .inr (0, [.ref s1, .ref s2, .ref f1, .ref f2, .ref lf, .ref rt])), (f1, fz_da cD 25 FH), (f2, fz_da cD 25 FM), (lf, .inr (2, [.double h1, .double m1, .double u1, .double c1])), (rt, .inr (2, [.double h2, .double m2, .double u2, .double c2]))]) (wr := [(f, .inr (0, [.ref s1, .ref s2, .ref f1, .ref f2, .ref lf, .ref rt])), (f1, fz_da cD 25 FH), (f2, fz_da cD 25 FM), (rt, .inr (2, [.double h2, .double m2, .double u2, .double c2]))]) (As := []) (rest := [.double 4602678819172646912, .int (nI k), .ref f1]) ⟨hx, hb, hml, hown, hts⟩ (c_X2_depthFlux l D cD lf h1 m1 u1 c1) (cwV 0 hts gX0_solveBroad_X2_depthFlux rfl rfl rfl (by decide +kernel) ⟨Nat.le_of_ble_eq_true rfl, Nat.le_of_ble_eq_true rfl⟩) hK hNW hP hD hS hA [3] [0, 1, 2, 4] [0, 1, 2, 4, 3] rfl rfl rfl rfl (by decide) rfl rfl (q0 := 3) (ci := 2) rfl rfl rfl rfl hl.1 rfl (Nat.le_of_ble_eq_true rfl) dX0_solveBroad_30 ⟨Nat.zero_le _, Nat.zero_le _⟩ (fun H locs hP hD hS => ?_)
  refine lv_aload_n hx hb dX0_solveBroad_33 rfl (lv_at hl 1 rfl) ?_
  refine va_get (D := D) (ci := 0) (v := .ref rt) (C := RX0) (T := TX0) (N := 6) hx hb hts hin_X0 hown hK hP 0 rfl rfl 5 (by decide) hw_fieldLink_RX0_31_FlowGrid_Faces_right_LFlowGrid_State (fun _ h9 => h9) rfl dX0_solveBroad_34 ?_
  refine fz_callV (ws' := [(f, .inr (0, [.ref s1, .ref s2, .ref f1, .ref f2, .ref lf, .ref rt])), (f1, fz_da cD 25 FH), (f2, fz_da cD 25 FM), (lf, .inr (2, [.double h1, .double m1, .double u1, .double c1])), (rt, .inr (2, [.double h2, .double m2, .double u2, .double c2]))]) (wr := [(f, .inr (0, [.ref s1, .ref s2, .ref f1, .ref f2, .ref lf, .ref rt])), (f1, fz_da cD 25 FH), (f2, fz_da cD 25 FM), (lf, .inr (2, [.double h1, .double m1, .double u1, .double c1]))]) (As := []) (rest := [.double m1, .double 4602678819172646912, .int (nI k), .ref f1]) ⟨hx, hb, hml, hown, hts⟩ (c_X2_depthFlux l D cD rt h2 m2 u2 c2) (cwV 0 hts gX0_solveBroad_X2_depthFlux rfl rfl rfl (by decide +kernel) ⟨Nat.le_of_ble_eq_true rfl, Nat.le_of_ble_eq_true rfl⟩) hK hNW hP hD hS hA [4] [0, 1, 2, 3] [0, 1, 2, 3, 4] rfl rfl rfl rfl (by decide) rfl rfl (q0 := 4) (ci := 2) rfl rfl rfl rfl hl.1 rfl (Nat.le_of_ble_eq_true rfl) dX0_solveBroad_37 ⟨Nat.zero_le _, Nat.zero_le _⟩ (fun H locs hP hD hS => ?_)
  refine lv_dadd hx hb dX0_solveBroad_40 (hok.2.2.2.2.1.1) ?_
  refine lv_dmul hx hb dX0_solveBroad_41 (hok.2.2.2.2.1.2.1) ?_
  refine lv_ldc2d hx hb hown hw_constantDouble_RX0_61_4602678819172646912 dX0_solveBroad_42 ?_
  refine lv_dload_n hx hb dX0_solveBroad_45 rfl (lv_at hl 0 rfl) ?_
  refine lv_dmul hx hb dX0_solveBroad_46 (hok.2.2.2.2.1.2.2.1) ?_
  refine lv_aload_n hx hb dX0_solveBroad_47 rfl (lv_at hl 1 rfl) ?_
  refine va_get (D := D) (ci := 0) (v := .ref rt) (C := RX0) (T := TX0) (N := 6) hx hb hts hin_X0 hown hK hP 0 rfl rfl 5 (by decide) hw_fieldLink_RX0_31_FlowGrid_Faces_right_LFlowGrid_State (fun _ h9 => h9) rfl dX0_solveBroad_48 ?_
  refine va_get (D := D) (ci := 2) (v := .double h2) (C := RX2) (T := TX2) (N := 4) hx hb hts hin_X2 hown hK hP 4 rfl rfl 0 (by decide) hw_fieldLink_RX0_91_FlowGrid_State_h_D (fun _ h9 => h9) rfl dX0_solveBroad_51 ?_
  refine lv_aload_n hx hb dX0_solveBroad_54 rfl (lv_at hl 1 rfl) ?_
  refine va_get (D := D) (ci := 0) (v := .ref lf) (C := RX0) (T := TX0) (N := 6) hx hb hts hin_X0 hown hK hP 0 rfl rfl 4 (by decide) hw_fieldLink_RX0_27_FlowGrid_Faces_left_LFlowGrid_State (fun _ h9 => h9) rfl dX0_solveBroad_55 ?_
  refine va_get (D := D) (ci := 2) (v := .double h1) (C := RX2) (T := TX2) (N := 4) hx hb hts hin_X2 hown hK hP 3 rfl rfl 0 (by decide) hw_fieldLink_RX0_91_FlowGrid_State_h_D (fun _ h9 => h9) rfl dX0_solveBroad_58 ?_
  refine lv_dsub hx hb dX0_solveBroad_61 (hok.2.2.2.2.1.2.2.2.1) ?_
  refine lv_dmul hx hb dX0_solveBroad_62 (hok.2.2.2.2.1.2.2.2.2.1) ?_
  refine lv_dsub hx hb dX0_solveBroad_63 (hok.2.2.2.2.1.2.2.2.2.2) ?_
  refine fz_dast (i := k) hx hb hK hP hD hS 1 0 rfl rfl (by omega) (by decide) dX0_solveBroad_64 (fun H locs hP hD hS => ?_)
  have hP : va_P D vwCl [(f, .inr (0, [.ref s1, .ref s2, .ref f1, .ref f2, .ref lf, .ref rt])), (f1, fz_da cD 25 (vf_upd FH k (FP.dsub (FP.dmul 4602678819172646912 (FP.dadd m1 m2)) (FP.dmul (FP.dmul 4602678819172646912 (fz_gtrC (fz_reach u1 c1) (fz_reach u2 c2))) (FP.dsub h2 h1))))), (f2, fz_da cD 25 FM), (lf, .inr (2, [.double h1, .double m1, .double u1, .double c1])), (rt, .inr (2, [.double h2, .double m2, .double u2, .double c2]))] H := hP
  have hD : va_D A [(f, .inr (0, [.ref s1, .ref s2, .ref f1, .ref f2, .ref lf, .ref rt])), (f1, fz_da cD 25 (vf_upd FH k (FP.dsub (FP.dmul 4602678819172646912 (FP.dadd m1 m2)) (FP.dmul (FP.dmul 4602678819172646912 (fz_gtrC (fz_reach u1 c1) (fz_reach u2 c2))) (FP.dsub h2 h1))))), (f2, fz_da cD 25 FM), (lf, .inr (2, [.double h1, .double m1, .double u1, .double c1])), (rt, .inr (2, [.double h2, .double m2, .double u2, .double c2]))] := hD
  refine lv_aload_n hx hb dX0_solveBroad_65 rfl (lv_at hl 1 rfl) ?_
  refine va_get (D := D) (ci := 0) (v := .ref f2) (C := RX0) (T := TX0) (N := 6) hx hb hts hin_X0 hown hK hP 0 rfl rfl 3 (by decide) hw_fieldLink_RX0_21_FlowGrid_Faces_momentumFluxes_D (fun _ h9 => h9) rfl dX0_solveBroad_66 ?_
  refine lv_iload_n hx hb dX0_solveBroad_69 rfl (lv_at hl 2 rfl) ?_
  refine lv_ldc2d hx hb hown hw_constantDouble_RX0_61_4602678819172646912 dX0_solveBroad_70 ?_
  refine lv_aload_n hx hb dX0_solveBroad_73 rfl (lv_at hl 1 rfl) ?_
  refine va_get (D := D) (ci := 0) (v := .ref lf) (C := RX0) (T := TX0) (N := 6) hx hb hts hin_X0 hown hK hP 0 rfl rfl 4 (by decide) hw_fieldLink_RX0_27_FlowGrid_Faces_left_LFlowGrid_State (fun _ h9 => h9) rfl dX0_solveBroad_74 ?_
  refine fz_callV (ws' := [(f, .inr (0, [.ref s1, .ref s2, .ref f1, .ref f2, .ref lf, .ref rt])), (f1, fz_da cD 25 (vf_upd FH k (FP.dsub (FP.dmul 4602678819172646912 (FP.dadd m1 m2)) (FP.dmul (FP.dmul 4602678819172646912 (fz_gtrC (fz_reach u1 c1) (fz_reach u2 c2))) (FP.dsub h2 h1))))), (f2, fz_da cD 25 FM), (lf, .inr (2, [.double h1, .double m1, .double u1, .double c1])), (rt, .inr (2, [.double h2, .double m2, .double u2, .double c2]))]) (wr := [(f, .inr (0, [.ref s1, .ref s2, .ref f1, .ref f2, .ref lf, .ref rt])), (f1, fz_da cD 25 (vf_upd FH k (FP.dsub (FP.dmul 4602678819172646912 (FP.dadd m1 m2)) (FP.dmul (FP.dmul 4602678819172646912 (fz_gtrC (fz_reach u1 c1) (fz_reach u2 c2))) (FP.dsub h2 h1))))), (f2, fz_da cD 25 FM), (rt, .inr (2, [.double h2, .double m2, .double u2, .double c2]))]) (As := []) (rest := [.double 4602678819172646912, .int (nI k), .ref f2]) ⟨hx, hb, hml, hown, hts⟩ (c_X2_momentumFlux l D cD lf h1 m1 u1 c1 (hok.2.2.1.1) (hok.2.2.1.2.1) (hok.2.2.1.2.2.1) (hok.2.2.1.2.2.2)) (cwV 0 hts gX0_solveBroad_X2_momentumFlux rfl rfl rfl (by decide +kernel) ⟨Nat.le_of_ble_eq_true rfl, Nat.le_of_ble_eq_true rfl⟩) hK hNW hP hD hS hA [3] [0, 1, 2, 4] [0, 1, 2, 4, 3] rfl rfl rfl rfl (by decide) rfl rfl (q0 := 3) (ci := 2) rfl rfl rfl rfl hl.1 rfl (Nat.le_of_ble_eq_true rfl) dX0_solveBroad_77 ⟨Nat.zero_le _, Nat.zero_le _⟩ (fun H locs hP hD hS => ?_)
  refine lv_aload_n hx hb dX0_solveBroad_80 rfl (lv_at hl 1 rfl) ?_
  refine va_get (D := D) (ci := 0) (v := .ref rt) (C := RX0) (T := TX0) (N := 6) hx hb hts hin_X0 hown hK hP 0 rfl rfl 5 (by decide) hw_fieldLink_RX0_31_FlowGrid_Faces_right_LFlowGrid_State (fun _ h9 => h9) rfl dX0_solveBroad_81 ?_
  refine fz_callV (ws' := [(f, .inr (0, [.ref s1, .ref s2, .ref f1, .ref f2, .ref lf, .ref rt])), (f1, fz_da cD 25 (vf_upd FH k (FP.dsub (FP.dmul 4602678819172646912 (FP.dadd m1 m2)) (FP.dmul (FP.dmul 4602678819172646912 (fz_gtrC (fz_reach u1 c1) (fz_reach u2 c2))) (FP.dsub h2 h1))))), (f2, fz_da cD 25 FM), (lf, .inr (2, [.double h1, .double m1, .double u1, .double c1])), (rt, .inr (2, [.double h2, .double m2, .double u2, .double c2]))]) (wr := [(f, .inr (0, [.ref s1, .ref s2, .ref f1, .ref f2, .ref lf, .ref rt])), (f1, fz_da cD 25 (vf_upd FH k (FP.dsub (FP.dmul 4602678819172646912 (FP.dadd m1 m2)) (FP.dmul (FP.dmul 4602678819172646912 (fz_gtrC (fz_reach u1 c1) (fz_reach u2 c2))) (FP.dsub h2 h1))))), (f2, fz_da cD 25 FM), (lf, .inr (2, [.double h1, .double m1, .double u1, .double c1]))]) (As := []) (rest := [.double (fz_mflux h1 m1 u1), .double 4602678819172646912, .int (nI k), .ref f2]) ⟨hx, hb, hml, hown, hts⟩ (c_X2_momentumFlux l D cD rt h2 m2 u2 c2 (hok.2.2.2.1.1) (hok.2.2.2.1.2.1) (hok.2.2.2.1.2.2.1) (hok.2.2.2.1.2.2.2)) (cwV 0 hts gX0_solveBroad_X2_momentumFlux rfl rfl rfl (by decide +kernel) ⟨Nat.le_of_ble_eq_true rfl, Nat.le_of_ble_eq_true rfl⟩) hK hNW hP hD hS hA [4] [0, 1, 2, 3] [0, 1, 2, 3, 4] rfl rfl rfl rfl (by decide) rfl rfl (q0 := 4) (ci := 2) rfl rfl rfl rfl hl.1 rfl (Nat.le_of_ble_eq_true rfl) dX0_solveBroad_84 ⟨Nat.zero_le _, Nat.zero_le _⟩ (fun H locs hP hD hS => ?_)
  refine lv_dadd hx hb dX0_solveBroad_87 (hok.2.2.2.2.2.1) ?_
  refine lv_dmul hx hb dX0_solveBroad_88 (hok.2.2.2.2.2.2.1) ?_
  refine lv_ldc2d hx hb hown hw_constantDouble_RX0_61_4602678819172646912 dX0_solveBroad_89 ?_
  refine lv_dload_n hx hb dX0_solveBroad_92 rfl (lv_at hl 0 rfl) ?_
  refine lv_dmul hx hb dX0_solveBroad_93 (hok.2.2.2.2.2.2.2.1) ?_
  refine lv_aload_n hx hb dX0_solveBroad_94 rfl (lv_at hl 1 rfl) ?_
  refine va_get (D := D) (ci := 0) (v := .ref rt) (C := RX0) (T := TX0) (N := 6) hx hb hts hin_X0 hown hK hP 0 rfl rfl 5 (by decide) hw_fieldLink_RX0_31_FlowGrid_Faces_right_LFlowGrid_State (fun _ h9 => h9) rfl dX0_solveBroad_95 ?_
  refine va_get (D := D) (ci := 2) (v := .double m2) (C := RX2) (T := TX2) (N := 4) hx hb hts hin_X2 hown hK hP 4 rfl rfl 1 (by decide) hw_fieldLink_RX0_98_FlowGrid_State_m_D (fun _ h9 => h9) rfl dX0_solveBroad_98 ?_
  refine lv_aload_n hx hb dX0_solveBroad_101 rfl (lv_at hl 1 rfl) ?_
  refine va_get (D := D) (ci := 0) (v := .ref lf) (C := RX0) (T := TX0) (N := 6) hx hb hts hin_X0 hown hK hP 0 rfl rfl 4 (by decide) hw_fieldLink_RX0_27_FlowGrid_Faces_left_LFlowGrid_State (fun _ h9 => h9) rfl dX0_solveBroad_102 ?_
  refine va_get (D := D) (ci := 2) (v := .double m1) (C := RX2) (T := TX2) (N := 4) hx hb hts hin_X2 hown hK hP 3 rfl rfl 1 (by decide) hw_fieldLink_RX0_98_FlowGrid_State_m_D (fun _ h9 => h9) rfl dX0_solveBroad_105 ?_
  refine lv_dsub hx hb dX0_solveBroad_108 (hok.2.2.2.2.2.2.2.2.1) ?_
  refine lv_dmul hx hb dX0_solveBroad_109 (hok.2.2.2.2.2.2.2.2.2.1) ?_
  refine lv_dsub hx hb dX0_solveBroad_110 (hok.2.2.2.2.2.2.2.2.2.2) ?_
  refine fz_dast (i := k) hx hb hK hP hD hS 2 0 rfl rfl (by omega) (by decide) dX0_solveBroad_111 (fun H locs hP hD hS => ?_)
  have hP : va_P D vwCl [(f, .inr (0, [.ref s1, .ref s2, .ref f1, .ref f2, .ref lf, .ref rt])), (f1, fz_da cD 25 (vf_upd FH k (FP.dsub (FP.dmul 4602678819172646912 (FP.dadd m1 m2)) (FP.dmul (FP.dmul 4602678819172646912 (fz_gtrC (fz_reach u1 c1) (fz_reach u2 c2))) (FP.dsub h2 h1))))), (f2, fz_da cD 25 (vf_upd FM k (FP.dsub (FP.dmul 4602678819172646912 (FP.dadd (fz_mflux h1 m1 u1) (fz_mflux h2 m2 u2))) (FP.dmul (FP.dmul 4602678819172646912 (fz_gtrC (fz_reach u1 c1) (fz_reach u2 c2))) (FP.dsub m2 m1))))), (lf, .inr (2, [.double h1, .double m1, .double u1, .double c1])), (rt, .inr (2, [.double h2, .double m2, .double u2, .double c2]))] H := hP
  have hD : va_D A [(f, .inr (0, [.ref s1, .ref s2, .ref f1, .ref f2, .ref lf, .ref rt])), (f1, fz_da cD 25 (vf_upd FH k (FP.dsub (FP.dmul 4602678819172646912 (FP.dadd m1 m2)) (FP.dmul (FP.dmul 4602678819172646912 (fz_gtrC (fz_reach u1 c1) (fz_reach u2 c2))) (FP.dsub h2 h1))))), (f2, fz_da cD 25 (vf_upd FM k (FP.dsub (FP.dmul 4602678819172646912 (FP.dadd (fz_mflux h1 m1 u1) (fz_mflux h2 m2 u2))) (FP.dmul (FP.dmul 4602678819172646912 (fz_gtrC (fz_reach u1 c1) (fz_reach u2 c2))) (FP.dsub m2 m1))))), (lf, .inr (2, [.double h1, .double m1, .double u1, .double c1])), (rt, .inr (2, [.double h2, .double m2, .double u2, .double c2]))] := hD
  exact fz_vret hx hb hr hlocks (rfl) hP hK hD hS dX0_solveBroad_112

set_option maxHeartbeats 4000000 in
set_option maxRecDepth 100000 in
theorem c_X0_solveNarrow (l : Launch) (D : va_G) (cD : ClassId) (f s1 s2 f1 f2 lf rt k : Nat) (FH FM : Nat → UInt64) (h1 m1 u1 c1 h2 m2 u2 c2 : UInt64) (hk : k ≤ 24) (hok : fz_nOk h1 m1 u1 c1 h2 m2 u2 c2) : fz_C l D [(cD, .double)] yX0_solveNarrow wsX0_solveNarrow ({ frames := 2, cells := 0, slots := 0, locals := 60 }) [.ref f, .int (nI k)] [(f, .inr (0, [.ref s1, .ref s2, .ref f1, .ref f2, .ref lf, .ref rt])), (f1, fz_da cD 25 FH), (f2, fz_da cD 25 FM), (lf, .inr (2, [.double h1, .double m1, .double u1, .double c1])), (rt, .inr (2, [.double h2, .double m2, .double u2, .double c2]))] [(f, .inr (0, [.ref s1, .ref s2, .ref f1, .ref f2, .ref lf, .ref rt])), (f1, fz_da cD 25 (vf_upd FH k (fz_bld (fz_xN u1 c1 u2 c2) (fz_yN u1 c1 u2 c2) m1 m2 (FP.dsub h2 h1)))), (f2, fz_da cD 25 (vf_upd FM k (fz_bld (fz_xN u1 c1 u2 c2) (fz_yN u1 c1 u2 c2) (fz_mflux h1 m1 u1) (fz_mflux h2 m2 u2) (FP.dsub m2 m1)))), (lf, .inr (2, [.double h1, .double m1, .double u1, .double c1])), (rt, .inr (2, [.double h2, .double m2, .double u2, .double c2]))] (none) := by
  refine fz_start (cc := cX0_solveNarrow) (maxL := 6) (ret := none) (by decide) rfl (Nat.le_of_ble_eq_true rfl) ?_
  intro p e s m below meth c A hx hb hr hlocks hml hown hts hK hA hNW H locs hP hD hS ls hl
  have hl : lv_has ls 6 [(0, .ref f), (1, .int (nI k))] := hl
  have hown : s.vm.findClass RX0 = some m.cls := hown
  have hw_fieldLink_RX0_27_FlowGrid_Faces_left_LFlowGrid_State := hts (.fieldLink RX0 27 "FlowGrid$Faces" "left" "LFlowGrid$State;") (by decide +kernel)
  have hin_X0 : ∀ w ∈ u_ws RX0 TX0 6, w ∈ wsX0_solveNarrow := by decide +kernel
  have hw_fieldLink_RX0_101_FlowGrid_State_speed_D := hts (.fieldLink RX0 101 "FlowGrid$State" "speed" "D") (by decide +kernel)
  have hin_X2 : ∀ w ∈ u_ws RX2 TX2 4, w ∈ wsX0_solveNarrow := by decide +kernel
  have hw_fieldLink_RX0_104_FlowGrid_State_wave_D := hts (.fieldLink RX0 104 "FlowGrid$State" "wave" "D") (by decide +kernel)
  have hw_fieldLink_RX0_31_FlowGrid_Faces_right_LFlowGrid_State := hts (.fieldLink RX0 31 "FlowGrid$Faces" "right" "LFlowGrid$State;") (by decide +kernel)
  have hw_initialized_RX3 := hts (.initialized RX3) (by decide +kernel)
  have hw_static_yX3_lesser := hts (.static yX3_lesser) (by decide +kernel)
  have hw_static_yX3_greater := hts (.static yX3_greater) (by decide +kernel)
  have hw_fieldLink_RX0_18_FlowGrid_Faces_depthFluxes_D := hts (.fieldLink RX0 18 "FlowGrid$Faces" "depthFluxes" "[D") (by decide +kernel)
  have hw_fieldLink_RX0_91_FlowGrid_State_h_D := hts (.fieldLink RX0 91 "FlowGrid$State" "h" "D") (by decide +kernel)
  have hw_fieldLink_RX0_21_FlowGrid_Faces_momentumFluxes_D := hts (.fieldLink RX0 21 "FlowGrid$Faces" "momentumFluxes" "[D") (by decide +kernel)
  have hw_fieldLink_RX0_98_FlowGrid_State_m_D := hts (.fieldLink RX0 98 "FlowGrid$State" "m" "D") (by decide +kernel)
  refine lv_aload_n hx hb dX0_solveNarrow_0 rfl (lv_at hl 0 rfl) ?_
  refine va_get (D := D) (ci := 0) (v := .ref lf) (C := RX0) (T := TX0) (N := 6) hx hb hts hin_X0 hown hK hP 0 rfl rfl 4 (by decide) hw_fieldLink_RX0_27_FlowGrid_Faces_left_LFlowGrid_State (fun _ h9 => h9) rfl dX0_solveNarrow_1 ?_
  refine va_get (D := D) (ci := 2) (v := .double u1) (C := RX2) (T := TX2) (N := 4) hx hb hts hin_X2 hown hK hP 3 rfl rfl 2 (by decide) hw_fieldLink_RX0_101_FlowGrid_State_speed_D (fun _ h9 => h9) rfl dX0_solveNarrow_4 ?_
  refine lv_aload_n hx hb dX0_solveNarrow_7 rfl (lv_at hl 0 rfl) ?_
  refine va_get (D := D) (ci := 0) (v := .ref lf) (C := RX0) (T := TX0) (N := 6) hx hb hts hin_X0 hown hK hP 0 rfl rfl 4 (by decide) hw_fieldLink_RX0_27_FlowGrid_Faces_left_LFlowGrid_State (fun _ h9 => h9) rfl dX0_solveNarrow_8 ?_
  refine va_get (D := D) (ci := 2) (v := .double c1) (C := RX2) (T := TX2) (N := 4) hx hb hts hin_X2 hown hK hP 3 rfl rfl 3 (by decide) hw_fieldLink_RX0_104_FlowGrid_State_wave_D (fun _ h9 => h9) rfl dX0_solveNarrow_11 ?_
  refine lv_dsub hx hb dX0_solveNarrow_14 (hok.1) ?_
  refine lv_aload_n hx hb dX0_solveNarrow_15 rfl (lv_at hl 0 rfl) ?_
  refine va_get (D := D) (ci := 0) (v := .ref rt) (C := RX0) (T := TX0) (N := 6) hx hb hts hin_X0 hown hK hP 0 rfl rfl 5 (by decide) hw_fieldLink_RX0_31_FlowGrid_Faces_right_LFlowGrid_State (fun _ h9 => h9) rfl dX0_solveNarrow_16 ?_
  refine va_get (D := D) (ci := 2) (v := .double u2) (C := RX2) (T := TX2) (N := 4) hx hb hts hin_X2 hown hK hP 4 rfl rfl 2 (by decide) hw_fieldLink_RX0_101_FlowGrid_State_speed_D (fun _ h9 => h9) rfl dX0_solveNarrow_19 ?_
  refine lv_aload_n hx hb dX0_solveNarrow_22 rfl (lv_at hl 0 rfl) ?_
  refine va_get (D := D) (ci := 0) (v := .ref rt) (C := RX0) (T := TX0) (N := 6) hx hb hts hin_X0 hown hK hP 0 rfl rfl 5 (by decide) hw_fieldLink_RX0_31_FlowGrid_Faces_right_LFlowGrid_State (fun _ h9 => h9) rfl dX0_solveNarrow_23 ?_
  refine va_get (D := D) (ci := 2) (v := .double c2) (C := RX2) (T := TX2) (N := 4) hx hb hts hin_X2 hown hK hP 4 rfl rfl 3 (by decide) hw_fieldLink_RX0_104_FlowGrid_State_wave_D (fun _ h9 => h9) rfl dX0_solveNarrow_26 ?_
  refine lv_dsub hx hb dX0_solveNarrow_29 (hok.2.1) ?_
  refine fz_callN (ws' := [(f, .inr (0, [.ref s1, .ref s2, .ref f1, .ref f2, .ref lf, .ref rt])), (f1, fz_da cD 25 FH), (f2, fz_da cD 25 FM), (lf, .inr (2, [.double h1, .double m1, .double u1, .double c1])), (rt, .inr (2, [.double h2, .double m2, .double u2, .double c2]))]) (wr := [(f, .inr (0, [.ref s1, .ref s2, .ref f1, .ref f2, .ref lf, .ref rt])), (f1, fz_da cD 25 FH), (f2, fz_da cD 25 FM), (lf, .inr (2, [.double h1, .double m1, .double u1, .double c1])), (rt, .inr (2, [.double h2, .double m2, .double u2, .double c2]))]) (As := [.double (FP.dsub u1 c1), .double (FP.dsub u2 c2)]) (rest := []) ⟨hx, hb, hml, hown, hts⟩ (c_X3_lesser l D cD (FP.dsub u1 c1) (FP.dsub u2 c2)) ⟨va_cnB 2 hts gX0_solveNarrow_X3_lesser_n107 rfl rfl rfl (hNW ("FlowGrid$Faces", 107, ⟨"FlowGrid", "lesser", "(DD)D"⟩) (by decide +kernel)) hw_initialized_RX3 (by decide +kernel) ⟨Nat.le_of_ble_eq_true rfl, Nat.le_of_ble_eq_true rfl⟩, hw_static_yX3_lesser, trivial⟩ hK hNW hP hD hS hA [] [0, 1, 2, 3, 4] [0, 1, 2, 3, 4] rfl rfl rfl rfl (by decide) rfl rfl rfl hl.1 rfl (Nat.le_of_ble_eq_true rfl) dX0_solveNarrow_30 ⟨Nat.zero_le _, Nat.zero_le _⟩ (fun H locs hP hD hS => ?_)
  refine lv_dstore_n (lv' := [(2, .double (fz_lesC (FP.dsub u1 c1) (FP.dsub u2 c2))), (0, .ref f), (1, .int (nI k))]) hx hb dX0_solveNarrow_33 rfl hl (by decide) rfl (fun ls hl => ?_)
  refine lv_aload_n hx hb dX0_solveNarrow_34 rfl (lv_at hl 1 rfl) ?_
  refine va_get (D := D) (ci := 0) (v := .ref lf) (C := RX0) (T := TX0) (N := 6) hx hb hts hin_X0 hown hK hP 0 rfl rfl 4 (by decide) hw_fieldLink_RX0_27_FlowGrid_Faces_left_LFlowGrid_State (fun _ h9 => h9) rfl dX0_solveNarrow_35 ?_
  refine va_get (D := D) (ci := 2) (v := .double u1) (C := RX2) (T := TX2) (N := 4) hx hb hts hin_X2 hown hK hP 3 rfl rfl 2 (by decide) hw_fieldLink_RX0_101_FlowGrid_State_speed_D (fun _ h9 => h9) rfl dX0_solveNarrow_38 ?_
  refine lv_aload_n hx hb dX0_solveNarrow_41 rfl (lv_at hl 1 rfl) ?_
  refine va_get (D := D) (ci := 0) (v := .ref lf) (C := RX0) (T := TX0) (N := 6) hx hb hts hin_X0 hown hK hP 0 rfl rfl 4 (by decide) hw_fieldLink_RX0_27_FlowGrid_Faces_left_LFlowGrid_State (fun _ h9 => h9) rfl dX0_solveNarrow_42 ?_
  refine va_get (D := D) (ci := 2) (v := .double c1) (C := RX2) (T := TX2) (N := 4) hx hb hts hin_X2 hown hK hP 3 rfl rfl 3 (by decide) hw_fieldLink_RX0_104_FlowGrid_State_wave_D (fun _ h9 => h9) rfl dX0_solveNarrow_45 ?_
  refine lv_dadd hx hb dX0_solveNarrow_48 (hok.2.2.1) ?_
  refine lv_aload_n hx hb dX0_solveNarrow_49 rfl (lv_at hl 1 rfl) ?_
  refine va_get (D := D) (ci := 0) (v := .ref rt) (C := RX0) (T := TX0) (N := 6) hx hb hts hin_X0 hown hK hP 0 rfl rfl 5 (by decide) hw_fieldLink_RX0_31_FlowGrid_Faces_right_LFlowGrid_State (fun _ h9 => h9) rfl dX0_solveNarrow_50 ?_
  refine va_get (D := D) (ci := 2) (v := .double u2) (C := RX2) (T := TX2) (N := 4) hx hb hts hin_X2 hown hK hP 4 rfl rfl 2 (by decide) hw_fieldLink_RX0_101_FlowGrid_State_speed_D (fun _ h9 => h9) rfl dX0_solveNarrow_53 ?_
  refine lv_aload_n hx hb dX0_solveNarrow_56 rfl (lv_at hl 1 rfl) ?_
  refine va_get (D := D) (ci := 0) (v := .ref rt) (C := RX0) (T := TX0) (N := 6) hx hb hts hin_X0 hown hK hP 0 rfl rfl 5 (by decide) hw_fieldLink_RX0_31_FlowGrid_Faces_right_LFlowGrid_State (fun _ h9 => h9) rfl dX0_solveNarrow_57 ?_
  refine va_get (D := D) (ci := 2) (v := .double c2) (C := RX2) (T := TX2) (N := 4) hx hb hts hin_X2 hown hK hP 4 rfl rfl 3 (by decide) hw_fieldLink_RX0_104_FlowGrid_State_wave_D (fun _ h9 => h9) rfl dX0_solveNarrow_60 ?_
  refine lv_dadd hx hb dX0_solveNarrow_63 (hok.2.2.2.1) ?_
  refine fz_callN (ws' := [(f, .inr (0, [.ref s1, .ref s2, .ref f1, .ref f2, .ref lf, .ref rt])), (f1, fz_da cD 25 FH), (f2, fz_da cD 25 FM), (lf, .inr (2, [.double h1, .double m1, .double u1, .double c1])), (rt, .inr (2, [.double h2, .double m2, .double u2, .double c2]))]) (wr := [(f, .inr (0, [.ref s1, .ref s2, .ref f1, .ref f2, .ref lf, .ref rt])), (f1, fz_da cD 25 FH), (f2, fz_da cD 25 FM), (lf, .inr (2, [.double h1, .double m1, .double u1, .double c1])), (rt, .inr (2, [.double h2, .double m2, .double u2, .double c2]))]) (As := [.double (FP.dadd u1 c1), .double (FP.dadd u2 c2)]) (rest := []) ⟨hx, hb, hml, hown, hts⟩ (c_X3_greater l D cD (FP.dadd u1 c1) (FP.dadd u2 c2)) ⟨va_cnB 2 hts gX0_solveNarrow_X3_greater_n85 rfl rfl rfl (hNW ("FlowGrid$Faces", 85, ⟨"FlowGrid", "greater", "(DD)D"⟩) (by decide +kernel)) hw_initialized_RX3 (by decide +kernel) ⟨Nat.le_of_ble_eq_true rfl, Nat.le_of_ble_eq_true rfl⟩, hw_static_yX3_greater, trivial⟩ hK hNW hP hD hS hA [] [0, 1, 2, 3, 4] [0, 1, 2, 3, 4] rfl rfl rfl rfl (by decide) rfl rfl rfl hl.1 rfl (Nat.le_of_ble_eq_true rfl) dX0_solveNarrow_64 ⟨Nat.zero_le _, Nat.zero_le _⟩ (fun H locs hP hD hS => ?_)
  refine lv_dstore (lv' := [(4, .double (fz_gtrC (FP.dadd u1 c1) (FP.dadd u2 c2))), (2, .double (fz_lesC (FP.dsub u1 c1) (FP.dsub u2 c2))), (0, .ref f), (1, .int (nI k))]) hx hb dX0_solveNarrow_67 hl (by decide) rfl (fun ls hl => ?_)
  refine lv_aload_n hx hb dX0_solveNarrow_69 rfl (lv_at hl 2 rfl) ?_
  refine va_get (D := D) (ci := 0) (v := .ref f1) (C := RX0) (T := TX0) (N := 6) hx hb hts hin_X0 hown hK hP 0 rfl rfl 2 (by decide) hw_fieldLink_RX0_18_FlowGrid_Faces_depthFluxes_D (fun _ h9 => h9) rfl dX0_solveNarrow_70 ?_
  refine lv_iload_n hx hb dX0_solveNarrow_73 rfl (lv_at hl 3 rfl) ?_
  refine lv_dload_n hx hb dX0_solveNarrow_74 rfl (lv_at hl 1 rfl) ?_
  refine lv_dload hx hb dX0_solveNarrow_75 (lv_at hl 0 rfl) ?_
  refine lv_aload_n hx hb dX0_solveNarrow_77 rfl (lv_at hl 2 rfl) ?_
  refine va_get (D := D) (ci := 0) (v := .ref lf) (C := RX0) (T := TX0) (N := 6) hx hb hts hin_X0 hown hK hP 0 rfl rfl 4 (by decide) hw_fieldLink_RX0_27_FlowGrid_Faces_left_LFlowGrid_State (fun _ h9 => h9) rfl dX0_solveNarrow_78 ?_
  refine fz_callV (ws' := [(f, .inr (0, [.ref s1, .ref s2, .ref f1, .ref f2, .ref lf, .ref rt])), (f1, fz_da cD 25 FH), (f2, fz_da cD 25 FM), (lf, .inr (2, [.double h1, .double m1, .double u1, .double c1])), (rt, .inr (2, [.double h2, .double m2, .double u2, .double c2]))]) (wr := [(f, .inr (0, [.ref s1, .ref s2, .ref f1, .ref f2, .ref lf, .ref rt])), (f1, fz_da cD 25 FH), (f2, fz_da cD 25 FM), (rt, .inr (2, [.double h2, .double m2, .double u2, .double c2]))]) (As := []) (rest := [.double (fz_gtrC (FP.dadd u1 c1) (FP.dadd u2 c2)), .double (fz_lesC (FP.dsub u1 c1) (FP.dsub u2 c2)), .int (nI k), .ref f1]) ⟨hx, hb, hml, hown, hts⟩ (c_X2_depthFlux l D cD lf h1 m1 u1 c1) (cwV 0 hts gX0_solveNarrow_X2_depthFlux rfl rfl rfl (by decide +kernel) ⟨Nat.le_of_ble_eq_true rfl, Nat.le_of_ble_eq_true rfl⟩) hK hNW hP hD hS hA [3] [0, 1, 2, 4] [0, 1, 2, 4, 3] rfl rfl rfl rfl (by decide) rfl rfl (q0 := 3) (ci := 2) rfl rfl rfl rfl hl.1 rfl (Nat.le_of_ble_eq_true rfl) dX0_solveNarrow_81 ⟨Nat.zero_le _, Nat.zero_le _⟩ (fun H locs hP hD hS => ?_)
  refine lv_aload_n hx hb dX0_solveNarrow_84 rfl (lv_at hl 2 rfl) ?_
  refine va_get (D := D) (ci := 0) (v := .ref rt) (C := RX0) (T := TX0) (N := 6) hx hb hts hin_X0 hown hK hP 0 rfl rfl 5 (by decide) hw_fieldLink_RX0_31_FlowGrid_Faces_right_LFlowGrid_State (fun _ h9 => h9) rfl dX0_solveNarrow_85 ?_
  refine fz_callV (ws' := [(f, .inr (0, [.ref s1, .ref s2, .ref f1, .ref f2, .ref lf, .ref rt])), (f1, fz_da cD 25 FH), (f2, fz_da cD 25 FM), (lf, .inr (2, [.double h1, .double m1, .double u1, .double c1])), (rt, .inr (2, [.double h2, .double m2, .double u2, .double c2]))]) (wr := [(f, .inr (0, [.ref s1, .ref s2, .ref f1, .ref f2, .ref lf, .ref rt])), (f1, fz_da cD 25 FH), (f2, fz_da cD 25 FM), (lf, .inr (2, [.double h1, .double m1, .double u1, .double c1]))]) (As := []) (rest := [.double m1, .double (fz_gtrC (FP.dadd u1 c1) (FP.dadd u2 c2)), .double (fz_lesC (FP.dsub u1 c1) (FP.dsub u2 c2)), .int (nI k), .ref f1]) ⟨hx, hb, hml, hown, hts⟩ (c_X2_depthFlux l D cD rt h2 m2 u2 c2) (cwV 0 hts gX0_solveNarrow_X2_depthFlux rfl rfl rfl (by decide +kernel) ⟨Nat.le_of_ble_eq_true rfl, Nat.le_of_ble_eq_true rfl⟩) hK hNW hP hD hS hA [4] [0, 1, 2, 3] [0, 1, 2, 3, 4] rfl rfl rfl rfl (by decide) rfl rfl (q0 := 4) (ci := 2) rfl rfl rfl rfl hl.1 rfl (Nat.le_of_ble_eq_true rfl) dX0_solveNarrow_88 ⟨Nat.zero_le _, Nat.zero_le _⟩ (fun H locs hP hD hS => ?_)
  refine lv_aload_n hx hb dX0_solveNarrow_91 rfl (lv_at hl 2 rfl) ?_
  refine va_get (D := D) (ci := 0) (v := .ref rt) (C := RX0) (T := TX0) (N := 6) hx hb hts hin_X0 hown hK hP 0 rfl rfl 5 (by decide) hw_fieldLink_RX0_31_FlowGrid_Faces_right_LFlowGrid_State (fun _ h9 => h9) rfl dX0_solveNarrow_92 ?_
  refine va_get (D := D) (ci := 2) (v := .double h2) (C := RX2) (T := TX2) (N := 4) hx hb hts hin_X2 hown hK hP 4 rfl rfl 0 (by decide) hw_fieldLink_RX0_91_FlowGrid_State_h_D (fun _ h9 => h9) rfl dX0_solveNarrow_95 ?_
  refine lv_aload_n hx hb dX0_solveNarrow_98 rfl (lv_at hl 2 rfl) ?_
  refine va_get (D := D) (ci := 0) (v := .ref lf) (C := RX0) (T := TX0) (N := 6) hx hb hts hin_X0 hown hK hP 0 rfl rfl 4 (by decide) hw_fieldLink_RX0_27_FlowGrid_Faces_left_LFlowGrid_State (fun _ h9 => h9) rfl dX0_solveNarrow_99 ?_
  refine va_get (D := D) (ci := 2) (v := .double h1) (C := RX2) (T := TX2) (N := 4) hx hb hts hin_X2 hown hK hP 3 rfl rfl 0 (by decide) hw_fieldLink_RX0_91_FlowGrid_State_h_D (fun _ h9 => h9) rfl dX0_solveNarrow_102 ?_
  refine lv_dsub hx hb dX0_solveNarrow_105 (hok.2.2.2.2.2.2.1) ?_
  refine fz_callS (ws' := [(f, .inr (0, [.ref s1, .ref s2, .ref f1, .ref f2, .ref lf, .ref rt])), (f1, fz_da cD 25 FH), (f2, fz_da cD 25 FM), (lf, .inr (2, [.double h1, .double m1, .double u1, .double c1])), (rt, .inr (2, [.double h2, .double m2, .double u2, .double c2]))]) (wr := [(f, .inr (0, [.ref s1, .ref s2, .ref f1, .ref f2, .ref lf, .ref rt])), (f1, fz_da cD 25 FH), (f2, fz_da cD 25 FM), (lf, .inr (2, [.double h1, .double m1, .double u1, .double c1])), (rt, .inr (2, [.double h2, .double m2, .double u2, .double c2]))]) (As := [.double (fz_lesC (FP.dsub u1 c1) (FP.dsub u2 c2)), .double (fz_gtrC (FP.dadd u1 c1) (FP.dadd u2 c2)), .double m1, .double m2, .double (FP.dsub h2 h1)]) (rest := [.int (nI k), .ref f1]) ⟨hx, hb, hml, hown, hts⟩ (c_X0_blend l D cD (fz_lesC (FP.dsub u1 c1) (FP.dsub u2 c2)) (fz_gtrC (FP.dadd u1 c1) (FP.dadd u2 c2)) m1 m2 (FP.dsub h2 h1) (hok.2.2.2.2.2.2.2.2.1)) (va_cwS 5 hts gX0_solveNarrow_X0_blend rfl rfl rfl (by decide +kernel) ⟨Nat.le_of_ble_eq_true rfl, Nat.le_of_ble_eq_true rfl⟩) hK hNW hP hD hS hA [] [0, 1, 2, 3, 4] [0, 1, 2, 3, 4] rfl rfl rfl rfl (by decide) rfl rfl rfl hl.1 rfl (Nat.le_of_ble_eq_true rfl) dX0_solveNarrow_106 ⟨Nat.zero_le _, Nat.zero_le _⟩ (fun H locs hP hD hS => ?_)
  refine fz_dast (i := k) hx hb hK hP hD hS 1 0 rfl rfl (by omega) (by decide) dX0_solveNarrow_109 (fun H locs hP hD hS => ?_)
  have hP : va_P D vwCl [(f, .inr (0, [.ref s1, .ref s2, .ref f1, .ref f2, .ref lf, .ref rt])), (f1, fz_da cD 25 (vf_upd FH k (fz_bld (fz_lesC (FP.dsub u1 c1) (FP.dsub u2 c2)) (fz_gtrC (FP.dadd u1 c1) (FP.dadd u2 c2)) m1 m2 (FP.dsub h2 h1)))), (f2, fz_da cD 25 FM), (lf, .inr (2, [.double h1, .double m1, .double u1, .double c1])), (rt, .inr (2, [.double h2, .double m2, .double u2, .double c2]))] H := hP
  have hD : va_D A [(f, .inr (0, [.ref s1, .ref s2, .ref f1, .ref f2, .ref lf, .ref rt])), (f1, fz_da cD 25 (vf_upd FH k (fz_bld (fz_lesC (FP.dsub u1 c1) (FP.dsub u2 c2)) (fz_gtrC (FP.dadd u1 c1) (FP.dadd u2 c2)) m1 m2 (FP.dsub h2 h1)))), (f2, fz_da cD 25 FM), (lf, .inr (2, [.double h1, .double m1, .double u1, .double c1])), (rt, .inr (2, [.double h2, .double m2, .double u2, .double c2]))] := hD
  refine lv_aload_n hx hb dX0_solveNarrow_110 rfl (lv_at hl 2 rfl) ?_
  refine va_get (D := D) (ci := 0) (v := .ref f2) (C := RX0) (T := TX0) (N := 6) hx hb hts hin_X0 hown hK hP 0 rfl rfl 3 (by decide) hw_fieldLink_RX0_21_FlowGrid_Faces_momentumFluxes_D (fun _ h9 => h9) rfl dX0_solveNarrow_111 ?_
  refine lv_iload_n hx hb dX0_solveNarrow_114 rfl (lv_at hl 3 rfl) ?_
  refine lv_dload_n hx hb dX0_solveNarrow_115 rfl (lv_at hl 1 rfl) ?_
  refine lv_dload hx hb dX0_solveNarrow_116 (lv_at hl 0 rfl) ?_
  refine lv_aload_n hx hb dX0_solveNarrow_118 rfl (lv_at hl 2 rfl) ?_
  refine va_get (D := D) (ci := 0) (v := .ref lf) (C := RX0) (T := TX0) (N := 6) hx hb hts hin_X0 hown hK hP 0 rfl rfl 4 (by decide) hw_fieldLink_RX0_27_FlowGrid_Faces_left_LFlowGrid_State (fun _ h9 => h9) rfl dX0_solveNarrow_119 ?_
  refine fz_callV (ws' := [(f, .inr (0, [.ref s1, .ref s2, .ref f1, .ref f2, .ref lf, .ref rt])), (f1, fz_da cD 25 (vf_upd FH k (fz_bld (fz_lesC (FP.dsub u1 c1) (FP.dsub u2 c2)) (fz_gtrC (FP.dadd u1 c1) (FP.dadd u2 c2)) m1 m2 (FP.dsub h2 h1)))), (f2, fz_da cD 25 FM), (lf, .inr (2, [.double h1, .double m1, .double u1, .double c1])), (rt, .inr (2, [.double h2, .double m2, .double u2, .double c2]))]) (wr := [(f, .inr (0, [.ref s1, .ref s2, .ref f1, .ref f2, .ref lf, .ref rt])), (f1, fz_da cD 25 (vf_upd FH k (fz_bld (fz_lesC (FP.dsub u1 c1) (FP.dsub u2 c2)) (fz_gtrC (FP.dadd u1 c1) (FP.dadd u2 c2)) m1 m2 (FP.dsub h2 h1)))), (f2, fz_da cD 25 FM), (rt, .inr (2, [.double h2, .double m2, .double u2, .double c2]))]) (As := []) (rest := [.double (fz_gtrC (FP.dadd u1 c1) (FP.dadd u2 c2)), .double (fz_lesC (FP.dsub u1 c1) (FP.dsub u2 c2)), .int (nI k), .ref f2]) ⟨hx, hb, hml, hown, hts⟩ (c_X2_momentumFlux l D cD lf h1 m1 u1 c1 (hok.2.2.2.2.1.1) (hok.2.2.2.2.1.2.1) (hok.2.2.2.2.1.2.2.1) (hok.2.2.2.2.1.2.2.2)) (cwV 0 hts gX0_solveNarrow_X2_momentumFlux rfl rfl rfl (by decide +kernel) ⟨Nat.le_of_ble_eq_true rfl, Nat.le_of_ble_eq_true rfl⟩) hK hNW hP hD hS hA [3] [0, 1, 2, 4] [0, 1, 2, 4, 3] rfl rfl rfl rfl (by decide) rfl rfl (q0 := 3) (ci := 2) rfl rfl rfl rfl hl.1 rfl (Nat.le_of_ble_eq_true rfl) dX0_solveNarrow_122 ⟨Nat.zero_le _, Nat.zero_le _⟩ (fun H locs hP hD hS => ?_)
  refine lv_aload_n hx hb dX0_solveNarrow_125 rfl (lv_at hl 2 rfl) ?_
  refine va_get (D := D) (ci := 0) (v := .ref rt) (C := RX0) (T := TX0) (N := 6) hx hb hts hin_X0 hown hK hP 0 rfl rfl 5 (by decide) hw_fieldLink_RX0_31_FlowGrid_Faces_right_LFlowGrid_State (fun _ h9 => h9) rfl dX0_solveNarrow_126 ?_
  refine fz_callV (ws' := [(f, .inr (0, [.ref s1, .ref s2, .ref f1, .ref f2, .ref lf, .ref rt])), (f1, fz_da cD 25 (vf_upd FH k (fz_bld (fz_lesC (FP.dsub u1 c1) (FP.dsub u2 c2)) (fz_gtrC (FP.dadd u1 c1) (FP.dadd u2 c2)) m1 m2 (FP.dsub h2 h1)))), (f2, fz_da cD 25 FM), (lf, .inr (2, [.double h1, .double m1, .double u1, .double c1])), (rt, .inr (2, [.double h2, .double m2, .double u2, .double c2]))]) (wr := [(f, .inr (0, [.ref s1, .ref s2, .ref f1, .ref f2, .ref lf, .ref rt])), (f1, fz_da cD 25 (vf_upd FH k (fz_bld (fz_lesC (FP.dsub u1 c1) (FP.dsub u2 c2)) (fz_gtrC (FP.dadd u1 c1) (FP.dadd u2 c2)) m1 m2 (FP.dsub h2 h1)))), (f2, fz_da cD 25 FM), (lf, .inr (2, [.double h1, .double m1, .double u1, .double c1]))]) (As := []) (rest := [.double (fz_mflux h1 m1 u1), .double (fz_gtrC (FP.dadd u1 c1) (FP.dadd u2 c2)), .double (fz_lesC (FP.dsub u1 c1) (FP.dsub u2 c2)), .int (nI k), .ref f2]) ⟨hx, hb, hml, hown, hts⟩ (c_X2_momentumFlux l D cD rt h2 m2 u2 c2 (hok.2.2.2.2.2.1.1) (hok.2.2.2.2.2.1.2.1) (hok.2.2.2.2.2.1.2.2.1) (hok.2.2.2.2.2.1.2.2.2)) (cwV 0 hts gX0_solveNarrow_X2_momentumFlux rfl rfl rfl (by decide +kernel) ⟨Nat.le_of_ble_eq_true rfl, Nat.le_of_ble_eq_true rfl⟩) hK hNW hP hD hS hA [4] [0, 1, 2, 3] [0, 1, 2, 3, 4] rfl rfl rfl rfl (by decide) rfl rfl (q0 := 4) (ci := 2) rfl rfl rfl rfl hl.1 rfl (Nat.le_of_ble_eq_true rfl) dX0_solveNarrow_129 ⟨Nat.zero_le _, Nat.zero_le _⟩ (fun H locs hP hD hS => ?_)
  refine lv_aload_n hx hb dX0_solveNarrow_132 rfl (lv_at hl 2 rfl) ?_
  refine va_get (D := D) (ci := 0) (v := .ref rt) (C := RX0) (T := TX0) (N := 6) hx hb hts hin_X0 hown hK hP 0 rfl rfl 5 (by decide) hw_fieldLink_RX0_31_FlowGrid_Faces_right_LFlowGrid_State (fun _ h9 => h9) rfl dX0_solveNarrow_133 ?_
  refine va_get (D := D) (ci := 2) (v := .double m2) (C := RX2) (T := TX2) (N := 4) hx hb hts hin_X2 hown hK hP 4 rfl rfl 1 (by decide) hw_fieldLink_RX0_98_FlowGrid_State_m_D (fun _ h9 => h9) rfl dX0_solveNarrow_136 ?_
  refine lv_aload_n hx hb dX0_solveNarrow_139 rfl (lv_at hl 2 rfl) ?_
  refine va_get (D := D) (ci := 0) (v := .ref lf) (C := RX0) (T := TX0) (N := 6) hx hb hts hin_X0 hown hK hP 0 rfl rfl 4 (by decide) hw_fieldLink_RX0_27_FlowGrid_Faces_left_LFlowGrid_State (fun _ h9 => h9) rfl dX0_solveNarrow_140 ?_
  refine va_get (D := D) (ci := 2) (v := .double m1) (C := RX2) (T := TX2) (N := 4) hx hb hts hin_X2 hown hK hP 3 rfl rfl 1 (by decide) hw_fieldLink_RX0_98_FlowGrid_State_m_D (fun _ h9 => h9) rfl dX0_solveNarrow_143 ?_
  refine lv_dsub hx hb dX0_solveNarrow_146 (hok.2.2.2.2.2.2.2.1) ?_
  refine fz_callS (ws' := [(f, .inr (0, [.ref s1, .ref s2, .ref f1, .ref f2, .ref lf, .ref rt])), (f1, fz_da cD 25 (vf_upd FH k (fz_bld (fz_lesC (FP.dsub u1 c1) (FP.dsub u2 c2)) (fz_gtrC (FP.dadd u1 c1) (FP.dadd u2 c2)) m1 m2 (FP.dsub h2 h1)))), (f2, fz_da cD 25 FM), (lf, .inr (2, [.double h1, .double m1, .double u1, .double c1])), (rt, .inr (2, [.double h2, .double m2, .double u2, .double c2]))]) (wr := [(f, .inr (0, [.ref s1, .ref s2, .ref f1, .ref f2, .ref lf, .ref rt])), (f1, fz_da cD 25 (vf_upd FH k (fz_bld (fz_lesC (FP.dsub u1 c1) (FP.dsub u2 c2)) (fz_gtrC (FP.dadd u1 c1) (FP.dadd u2 c2)) m1 m2 (FP.dsub h2 h1)))), (f2, fz_da cD 25 FM), (lf, .inr (2, [.double h1, .double m1, .double u1, .double c1])), (rt, .inr (2, [.double h2, .double m2, .double u2, .double c2]))]) (As := [.double (fz_lesC (FP.dsub u1 c1) (FP.dsub u2 c2)), .double (fz_gtrC (FP.dadd u1 c1) (FP.dadd u2 c2)), .double (fz_mflux h1 m1 u1), .double (fz_mflux h2 m2 u2), .double (FP.dsub m2 m1)]) (rest := [.int (nI k), .ref f2]) ⟨hx, hb, hml, hown, hts⟩ (c_X0_blend l D cD (fz_lesC (FP.dsub u1 c1) (FP.dsub u2 c2)) (fz_gtrC (FP.dadd u1 c1) (FP.dadd u2 c2)) (fz_mflux h1 m1 u1) (fz_mflux h2 m2 u2) (FP.dsub m2 m1) (hok.2.2.2.2.2.2.2.2.2)) (va_cwS 5 hts gX0_solveNarrow_X0_blend rfl rfl rfl (by decide +kernel) ⟨Nat.le_of_ble_eq_true rfl, Nat.le_of_ble_eq_true rfl⟩) hK hNW hP hD hS hA [] [0, 1, 2, 3, 4] [0, 1, 2, 3, 4] rfl rfl rfl rfl (by decide) rfl rfl rfl hl.1 rfl (Nat.le_of_ble_eq_true rfl) dX0_solveNarrow_147 ⟨Nat.zero_le _, Nat.zero_le _⟩ (fun H locs hP hD hS => ?_)
  refine fz_dast (i := k) hx hb hK hP hD hS 2 0 rfl rfl (by omega) (by decide) dX0_solveNarrow_150 (fun H locs hP hD hS => ?_)
  have hP : va_P D vwCl [(f, .inr (0, [.ref s1, .ref s2, .ref f1, .ref f2, .ref lf, .ref rt])), (f1, fz_da cD 25 (vf_upd FH k (fz_bld (fz_lesC (FP.dsub u1 c1) (FP.dsub u2 c2)) (fz_gtrC (FP.dadd u1 c1) (FP.dadd u2 c2)) m1 m2 (FP.dsub h2 h1)))), (f2, fz_da cD 25 (vf_upd FM k (fz_bld (fz_lesC (FP.dsub u1 c1) (FP.dsub u2 c2)) (fz_gtrC (FP.dadd u1 c1) (FP.dadd u2 c2)) (fz_mflux h1 m1 u1) (fz_mflux h2 m2 u2) (FP.dsub m2 m1)))), (lf, .inr (2, [.double h1, .double m1, .double u1, .double c1])), (rt, .inr (2, [.double h2, .double m2, .double u2, .double c2]))] H := hP
  have hD : va_D A [(f, .inr (0, [.ref s1, .ref s2, .ref f1, .ref f2, .ref lf, .ref rt])), (f1, fz_da cD 25 (vf_upd FH k (fz_bld (fz_lesC (FP.dsub u1 c1) (FP.dsub u2 c2)) (fz_gtrC (FP.dadd u1 c1) (FP.dadd u2 c2)) m1 m2 (FP.dsub h2 h1)))), (f2, fz_da cD 25 (vf_upd FM k (fz_bld (fz_lesC (FP.dsub u1 c1) (FP.dsub u2 c2)) (fz_gtrC (FP.dadd u1 c1) (FP.dadd u2 c2)) (fz_mflux h1 m1 u1) (fz_mflux h2 m2 u2) (FP.dsub m2 m1)))), (lf, .inr (2, [.double h1, .double m1, .double u1, .double c1])), (rt, .inr (2, [.double h2, .double m2, .double u2, .double c2]))] := hD
  exact fz_vret hx hb hr hlocks (rfl) hP hK hD hS dX0_solveNarrow_151
