/-! what goes through the ends -/
theorem fq_sub0 {x y : UInt64} (hx : fq_F x) (hy : fq_F y) (h : fq_Z x = fq_Z y) : fq_Z (FP.dsub x y) = 0 := by
  have a := fq_suble hx hy fq_F0 (by rw [fq_Z0]; omega)
  have b := fq_subge hx hy fq_F0 (by rw [fq_Z0]; omega)
  rw [fq_Z0] at a b
  omega
theorem fq_subzz {x y : UInt64} (hx : fq_F x) (hy : fq_F y) (h : fq_Z y = 0) : fq_Z (FP.dsub x y) = fq_Z x := Int.le_antisymm (fq_suble hx hy hx (by omega)) (fq_subge hx hy hx (by omega))
theorem fq_addzz {x y : UInt64} (hx : fq_F x) (hy : fq_F y) (h : fq_Z y = 0) : fq_Z (FP.dadd x y) = fq_Z x := Int.le_antisymm (fq_addle hx hy hx (by omega)) (fq_addge hx hy hx (by omega))
theorem fq_mul0 {x y : UInt64} (hx : fq_F x) (hy : fq_F y) (h : fq_Z x = 0 ∨ fq_Z y = 0) : fq_Z (FP.dmul x y) = 0 := by
  have e : fq_Z x * fq_Z y = 0 := by rcases h with h | h <;> rw [h]; exact Int.zero_mul _; exact Int.mul_zero _
  have a := fq_mulle hx hy fq_F0 (by rw [fq_Z0, e]; omega)
  have b := fq_mulge hx hy fq_F0 (by rw [fq_Z0, e]; omega)
  rw [fq_Z0] at a b
  omega
theorem fq_slz {lim : Nat} {a b : UInt64} (ha : fq_b 1100 a) (hb : fq_b 1100 b) (h : fq_Z a = 0 ∨ fq_Z b = 0) : fz_slopeC lim a b = FP.dconst0 := by
  have m1 := fq_mul ha hb (by decide) (by decide)
  have z := fq_mul0 (ha.f (by decide)) (hb.f (by decide)) h
  have e : ¬ fz_lt FP.dconst0 (FP.dmul a b) = true := by rw [fq_lt fq_F0 (m1.f (by decide)), fq_Z0, z]; omega
  unfold fz_slopeC
  rw [if_neg e, ite_self]
theorem fq_sHz {lim j : Nat} {d m : Nat → UInt64} (a0 : fq_at d m j) (a1 : fq_at d m (j + 1)) (a2 : fq_at d m (j + 2)) (h : d j = d (j + 1) ∨ d (j + 1) = d (j + 2)) : fz_sHg lim d j = FP.dconst0 := by
  have b1 := (fq_sub a1.1.1 a0.1.1 (by decide)).mono (k := 1100) (by decide)
  have b2 := (fq_sub a2.1.1 a1.1.1 (by decide)).mono (k := 1100) (by decide)
  have e : fz_slAt lim d j = FP.dconst0 := by
    unfold fz_slAt
    refine fq_slz b1 b2 ?_
    rcases h with h | h
    · left; exact fq_sub0 (a1.1.1.f (by decide)) (a0.1.1.f (by decide)) (by rw [h])
    · right; exact fq_sub0 (a2.1.1.f (by decide)) (a1.1.1.f (by decide)) (by rw [h])
  unfold fz_sHg
  rw [e, ite_self]
theorem fq_bZ {k j : Nat} {x : UInt64} (h : fq_b k x) (hk : k ≤ 2047) (e : 51 + k ≤ j) (hk1 : 1 ≤ k) : (fq_Z x).natAbs ≤ 2 ^ j := by
  have := fq_Zlt h hk
  rw [← Nat.pow_add] at this
  exact Nat.le_trans (Nat.le_of_lt this) (Nat.pow_le_pow_right (by decide) (by omega))
/-- |x| ≤ 2^k keeps through an operation -/
theorem fq_addP {x y : UInt64} {k : Nat} (hk : k ≤ 2000) (hx : fq_F x) (hy : fq_F y) (h : (fq_Z x + fq_Z y).natAbs ≤ 2 ^ k) : (fq_Z (FP.dadd x y)).natAbs ≤ 2 ^ k := by
  obtain ⟨v, v1, v2⟩ := fq_repP k (by omega)
  have a := fq_addle hx hy v1 (by rw [v2]; generalize 2 ^ k = P at *; omega)
  have b := fq_addge hx hy (fq_Fneg v1) (by rw [fq_neg, v2]; generalize 2 ^ k = P at *; omega)
  rw [fq_neg, v2] at b
  rw [v2] at a
  generalize 2 ^ k = P at *
  omega
theorem fq_halfP {x : UInt64} {k : Nat} (hk : k ≤ 2000) (hx : fq_F x) (h : (fq_Z x).natAbs ≤ 2 ^ k) : (fq_Z (FP.dmul fz_half x)).natAbs ≤ 2 ^ k := by
  obtain ⟨v, v1, v2⟩ := fq_repP k (by omega)
  have a := fq_halfle hx v1 (by rw [v2]; generalize 2 ^ k = P at *; omega)
  have b := fq_halfge (w := x) hx (fq_Fneg v1) (by rw [fq_neg, v2]; generalize 2 ^ k = P at *; omega)
  rw [fq_neg, v2] at b
  rw [v2] at a
  generalize 2 ^ k = P at *
  omega
theorem fq_endN {x y f g j : UInt64} (hx : fq_b 1154 x) (hy : fq_b 1154 y) (hf : fq_b 1045 f) (hg : fq_b 1045 g) (hj : fq_b 1083 j) (hj0 : fq_Z j = 0) : (fq_Z (fz_bld x y f g j)).natAbs ≤ 2 ^ 1100 := by
  have fx := hx.f (by decide)
  have fy := hy.f (by decide)
  have ff := hf.f (by decide)
  have fg := hg.f (by decide)
  have zf := fq_bZ (j := 1096) hf (by decide) (by decide) (by decide)
  have zg := fq_bZ (j := 1096) hg (by decide) (by decide) (by decide)
  have up : (2 : Nat) ^ 1096 ≤ 2 ^ 1100 := Nat.pow_le_pow_right (by decide) (by decide)
  have lx := fq_lt fx fq_F0
  have ly := fq_lt fq_F0 fy
  rw [fq_Z0] at lx ly
  unfold fz_bld
  by_cases h1 : fz_lt x FP.dconst0 = true
  · rw [if_pos h1]
    by_cases h2 : fz_lt FP.dconst0 y = true
    · rw [if_pos h2]
      have x0 := lx.mp h1
      have y0 := ly.mp h2
      have a1 := (fq_mul hy hf (by decide) (by decide)).mono (k := 1275) (by decide)
      have a2 := (fq_mul hx hg (by decide) (by decide)).mono (k := 1275) (by decide)
      have a3 := (fq_sub a1 a2 (by decide)).mono (k := 1347) (by decide)
      have a4 := (fq_mul hx hy (by decide) (by decide)).mono (k := 1286) (by decide)
      have a5 := (fq_mul a4 hj (by decide) (by decide)).mono (k := 1347) (by decide)
      have a6 := fq_add a3 a5 (by decide)
      have a7 := fq_sub hy hx (by decide)
      have e5 := fq_mul0 (a4.f (by decide)) (hj.f (by decide)) (Or.inr hj0)
      have e6 := fq_addzz (a3.f (by decide)) (a5.f (by decide)) e5
      have D1 := fq_subge fy fx fy (by omega)
      have D2 := fq_subge fy fx (fq_Fneg fx) (by rw [fq_neg]; omega)
      rw [fq_neg] at D2
      obtain ⟨v, v1, v2⟩ := fq_repP 1100 (by decide)
      have hv : (fq_Z v).natAbs = 2 ^ 1100 := by rw [v2]; rfl
      rw [← hv]
      refine fq_quole (a6.f (by decide)) (a7.f (by decide)) v1 (by omega) ?_
      rw [e6, hv]
      have zy := fq_zb hy (by decide)
      have zx := fq_zb hx (by decide)
      have bigM : (2 : Nat) ^ 1422 * 2 ^ 1096 ≤ 2 ^ 2097 * fq_one := by
        unfold fq_one
        rw [← Nat.pow_add, ← Nat.pow_add]; exact Nat.pow_le_pow_right (by decide) (by decide)
      have r1 := (fq_rmul fy ff).le2 fq_oneP (by
        rw [Int.natAbs_mul]
        refine Nat.lt_of_lt_of_le ?_ bigM
        exact Nat.lt_of_le_of_lt (Nat.mul_le_mul_left _ zf) (Nat.mul_lt_mul_of_pos_right zy (Nat.two_pow_pos _)))
      have r2 := (fq_rmul fx fg).le2 fq_oneP (by
        rw [Int.natAbs_mul]
        refine Nat.lt_of_lt_of_le ?_ bigM
        exact Nat.lt_of_le_of_lt (Nat.mul_le_mul_left _ zg) (Nat.mul_lt_mul_of_pos_right zx (Nat.two_pow_pos _)))
      have r3 := (fq_rsub (a1.f (by decide)) (a2.f (by decide))).le2 (by decide) (Nat.lt_of_le_of_lt (by omega) (fq_zbE (fq_zb a1 (by decide)) (fq_zb a2 (by decide))))
      rw [Int.natAbs_mul] at r1 r2
      have s1 := Nat.le_trans r1 (Nat.add_le_add_right (Nat.mul_le_mul_left 2 (Nat.mul_le_mul (by omega : (fq_Z y).natAbs ≤ (fq_Z (FP.dsub y x)).natAbs) zf)) _)
      have s2 := Nat.le_trans r2 (Nat.add_le_add_right (Nat.mul_le_mul_left 2 (Nat.mul_le_mul (by omega : (fq_Z x).natAbs ≤ (fq_Z (FP.dsub y x)).natAbs) zg)) _)
      rw [Nat.mul_one] at r3
      have r4 : (fq_Z (FP.dsub (FP.dmul y f) (FP.dmul x g))).natAbs ≤ 2 * (fq_Z (FP.dmul y f)).natAbs + 2 * (fq_Z (FP.dmul x g)).natAbs + 1 := by omega
      have r5 := Nat.mul_le_mul_right fq_one r4
      rw [Nat.add_mul, Nat.add_mul, Nat.mul_assoc, Nat.mul_assoc] at r5
      have hD : 1 ≤ (fq_Z (FP.dsub y x)).natAbs := by omega
      have g1 : fq_one ≤ (fq_Z (FP.dsub y x)).natAbs * 2 ^ 1096 := by
        refine Nat.le_trans ?_ (Nat.le_mul_of_pos_left _ hD)
        exact Nat.pow_le_pow_right (by decide) (by decide)
      have g2 : 2 ^ 1100 * (fq_Z (FP.dsub y x)).natAbs = 16 * ((fq_Z (FP.dsub y x)).natAbs * 2 ^ 1096) := by
        rw [show (2 : Nat) ^ 1100 = 16 * 2 ^ 1096 from by decide +kernel, Nat.mul_assoc, Nat.mul_comm (2 ^ 1096)]
      rw [g2]
      generalize (fq_Z (FP.dsub y x)).natAbs * 2 ^ 1096 = W at *
      generalize (fq_Z (FP.dmul y f)).natAbs * fq_one = Y1 at *
      generalize (fq_Z (FP.dmul x g)).natAbs * fq_one = Y2 at *
      generalize (fq_Z (FP.dsub (FP.dmul y f) (FP.dmul x g))).natAbs * fq_one = Y3 at *
      generalize fq_one = O at *
      omega
    · rw [if_neg h2]; exact Nat.le_trans zg up
  · rw [if_neg h1]; exact Nat.le_trans zf up
theorem fq_endH {sol : Nat} {h1 m1 h2 m2 : UInt64} (s1 : fq_side h1 m1) (s2 : fq_side h2 m2) (he : fq_Z h1 = fq_Z h2) : (fq_Z (fz_fluxH sol h1 m1 h2 m2)).natAbs ≤ 2 ^ 1100 := by
  have f1 := s1.1.1.f (by decide)
  have f2 := s2.1.1.f (by decide)
  have j1 := fq_sub s2.1.1 s1.1.1 (by decide)
  have z1 := fq_sub0 f2 f1 he.symm
  unfold fz_fluxH
  split
  · obtain ⟨x1, x2, x3, x4, x5, x6, x7⟩ := fq_xyB (s1.u.mono (by decide)) s1.c.1 (s2.u.mono (by decide)) s2.c.1 s1.c.2
    exact fq_endN x5 x6 s1.2 s2.2 j1 z1
  · have r1 := s1.r
    have r2 := s2.r
    have hsB : fq_b 1154 (fz_sB (FP.ddiv m1 h1) (fz_root h1) (FP.ddiv m2 h2) (fz_root h2)) := by unfold fz_sB fz_gtrC; exact fq_ite r1.1 r2.1
    have a1 := fq_add s1.2 s2.2 (by decide)
    have a2 := (fq_mul fq_bh a1 (by decide) (by decide)).mono (k := 1216) (by decide)
    have a3 := (fq_mul fq_bh hsB (by decide) (by decide)).mono (k := 1155) (by decide)
    have a5 := (fq_mul a3 j1 (by decide) (by decide)).mono (k := 1216) (by decide)
    have e5 := fq_mul0 (a3.f (by decide)) (j1.f (by decide)) (Or.inr z1)
    unfold fz_brd
    rw [fq_subzz (a2.f (by decide)) (a5.f (by decide)) e5]
    refine fq_halfP (by decide) (a1.f (by decide)) ?_
    refine fq_addP (by decide) (s1.2.f (by decide)) (s2.2.f (by decide)) ?_
    have zf := fq_bZ (j := 1096) s1.2 (by decide) (by decide) (by decide)
    have zg := fq_bZ (j := 1096) s2.2 (by decide) (by decide) (by decide)
    have up : (2 : Nat) ^ 1100 = 16 * 2 ^ 1096 := by decide +kernel
    generalize (2 : Nat) ^ 1096 = P at *
    omega
theorem fq_endF {lim sol k n : Nat} {d m : Nat → UInt64} (h : fq_row n d m) (hk : k ≤ n) (h0 : d k = d (k + 1) ∨ d (k + 1) = d (k + 2)) (h1 : d (k + 1) = d (k + 2) ∨ d (k + 2) = d (k + 3)) (he : d (k + 1) = d (k + 2)) : (fq_Z (fz_FHi lim sol d m k)).natAbs ≤ 2 ^ 1100 := by
  have f1 := fq_faceAt (lim := lim) (h k (by omega)) (h (k + 1) (by omega)) (h (k + 2) (by omega))
  have f2 := fq_faceAt (lim := lim) (h (k + 1) (by omega)) (h (k + 2) (by omega)) (h (k + 3) (by omega))
  have s1 : fq_side (fz_hL lim d k) (fz_mL lim d m k) := ⟨f1.2.1, f1.2.2.2.2.1⟩
  have s2 : fq_side (fz_hR lim d k) (fz_mR lim d m k) := ⟨f2.2.2.1, f2.2.2.2.2.2⟩
  refine fq_endH s1 s2 ?_
  have e1 := fq_sHz (lim := lim) (h k (by omega)) (h (k + 1) (by omega)) (h (k + 2) (by omega)) h0
  have e2 := fq_sHz (lim := lim) (h (k + 1) (by omega)) (h (k + 2) (by omega)) (h (k + 3) (by omega)) h1
  have g1 : fz_hL lim d k = FP.dadd (d (k + 1)) FP.dconst0 := by
    show FP.dadd (d (k + 1)) (FP.dmul fz_half (fz_SH lim d (k + 1))) = _
    rw [fz_SH_1, e1, fq_half0]
  have g2 : fz_hR lim d k = FP.dsub (d (k + 2)) FP.dconst0 := by
    show FP.dsub (d (k + 2)) (FP.dmul fz_half (fz_SH lim d (k + 2))) = _
    rw [fz_SH_2, e2, fq_half0]
  show fq_Z (fz_hL lim d k) = fq_Z (fz_hR lim d k)
  rw [g1, g2, fq_addz ((h (k + 1) (by omega)).1.1.f (by decide)), fq_subz ((h (k + 2) (by omega)).1.1.f (by decide)), he]
