/-! the fluxes at a face -/
def fq_side (h m : UInt64) : Prop := fq_dep 1081 h ∧ fq_b 1045 m
theorem fq_side.u {h m : UInt64} (s : fq_side h m) : fq_b 1053 (FP.ddiv m h) := fq_u s.1 (by decide) s.2 (by decide)
theorem fq_side.c {h m : UInt64} (s : fq_side h m) : fq_b 1152 (fz_root h) ∧ ((2 ^ 1060 : Nat) : Int) ≤ fq_Z (fz_root h) := fq_root (s.1.mono (by decide))
theorem fq_side.st {h m : UInt64} (s : fq_side h m) : fz_stOk h m := fq_stOk (s.1.mono (by decide)) s.2 (by decide)
theorem fq_side.r {h m : UInt64} (s : fq_side h m) : fq_b 1154 (fz_reach (FP.ddiv m h) (fz_root h)) ∧ ((2 ^ 1060 : Nat) : Int) ≤ fq_Z (fz_reach (FP.ddiv m h) (fz_root h)) := fq_reach (s.u.mono (by decide)) s.c.1 s.c.2
theorem fq_side.mf {h m : UInt64} (s : fq_side h m) : fz_mfOk h m (FP.ddiv m h) ∧ fq_b 1143 (fz_mflux h m (FP.ddiv m h)) := by
  have a1 := (fq_mul s.2 s.u (by decide) (by decide)).mono (k := 1141) (by decide)
  have a2 := (fq_mul fq_bh s.1.1 (by decide) (by decide)).mono (k := 1082) (by decide)
  have a3 := (fq_mul a2 s.1.1 (by decide) (by decide)).mono (k := 1141) (by decide)
  have a4 := fq_add a1 a3 (by decide)
  exact ⟨⟨a1.n (by decide), a2.n (by decide), a3.n (by decide), a4.n (by decide)⟩, a4⟩
theorem fq_brd {s F G l r : UInt64} (hs : fq_b 1154 s) (hF : fq_b 1143 F) (hG : fq_b 1143 G) (hl : fq_b 1081 l) (hr : fq_b 1081 r) : fz_brdOk s F G l r ∧ fq_b 1364 (fz_brd s F G l r) := by
  have a1 := fq_add hF hG (by decide)
  have a2 := (fq_mul fq_bh a1 (by decide) (by decide)).mono (k := 1216) (by decide)
  have a3 := (fq_mul fq_bh hs (by decide) (by decide)).mono (k := 1155) (by decide)
  have a4 := fq_sub hr hl (by decide)
  have a5 := (fq_mul a3 a4 (by decide) (by decide)).mono (k := 1216) (by decide)
  have a6 := fq_sub a2 a5 (by decide)
  exact ⟨⟨a1.n (by decide), a2.n (by decide), a3.n (by decide), a4.n (by decide), a5.n (by decide), a6.n (by decide)⟩, a6.mono (by decide)⟩
def fq_wide (x y : UInt64) : Prop := fq_Z x < 0 → 0 < fq_Z y → ((2 ^ 1060 : Nat) : Int) ≤ fq_Z y ∨ fq_Z x ≤ -((2 ^ 1060 : Nat) : Int)
theorem fq_blend {x y f g j : UInt64} (hx : fq_b 1154 x) (hy : fq_b 1154 y) (hf : fq_b 1143 f) (hg : fq_b 1143 g) (hj : fq_b 1083 j) (hw : fq_wide x y) : fz_bldOk x y f g j ∧ fq_b 1364 (fz_bld x y f g j) := by
  have fx := hx.f (by decide)
  have fy := hy.f (by decide)
  have a1 := (fq_mul hy hf (by decide) (by decide)).mono (k := 1275) (by decide)
  have a2 := (fq_mul hx hg (by decide) (by decide)).mono (k := 1275) (by decide)
  have a3 := (fq_sub a1 a2 (by decide)).mono (k := 1347) (by decide)
  have a4 := (fq_mul hx hy (by decide) (by decide)).mono (k := 1286) (by decide)
  have a5 := (fq_mul a4 hj (by decide) (by decide)).mono (k := 1347) (by decide)
  have a6 := fq_add a3 a5 (by decide)
  have a7 := fq_sub hy hx (by decide)
  have f7 := a7.f (by decide)
  have q : fq_Z x < 0 → 0 < fq_Z y → fq_b 1364 (FP.ddiv (FP.dadd (FP.dsub (FP.dmul y f) (FP.dmul x g)) (FP.dmul (FP.dmul x y) j)) (FP.dsub y x)) := fun x0 y0 => by
    obtain ⟨v, v1, v2⟩ := fq_repP 1060 (by decide)
    have hd := fq_subge fy fx v1 (by rw [v2]; rcases hw x0 y0 with h | h <;> omega)
    rw [v2] at hd
    exact (fq_div a6 (fq_big f7 (k := 1060) (by decide) hd) f7 (by decide) (by decide)).mono (by decide)
  have lx := fq_lt fx fq_F0
  have ly := fq_lt fq_F0 fy
  rw [fq_Z0] at lx ly
  refine ⟨fun h1 h2 => ⟨a1.n (by decide), a2.n (by decide), a3.n (by decide), a4.n (by decide), a5.n (by decide), a6.n (by decide), a7.n (by decide), (q (lx.mp h1) (ly.mp h2)).n (by decide)⟩, ?_⟩
  unfold fz_bld
  by_cases h1 : fz_lt x FP.dconst0 = true
  · rw [if_pos h1]
    by_cases h2 : fz_lt FP.dconst0 y = true
    · rw [if_pos h2]; exact q (lx.mp h1) (ly.mp h2)
    · rw [if_neg h2]; exact hg.mono (by decide)
  · rw [if_neg h1]; exact hf.mono (by decide)
theorem fq_bldZ {x x' y y' f g j : UInt64} (hx : x' = x ∨ (fq_F x' ∧ fq_Z x' = 0 ∧ fq_Z x = 0)) (hy : y' = y ∨ (fq_F y' ∧ fq_Z y' = 0 ∧ fq_Z y = 0)) (ok : fz_bldOk x y f g j) : fz_bldOk x' y' f g j := by
  rcases hx with rfl | ⟨h1, h2, _⟩
  · rcases hy with rfl | ⟨g1, g2, _⟩
    · exact ok
    · intro _ q
      have := (fq_lt fq_F0 g1).mp q
      rw [fq_Z0] at this
      omega
  · intro q
    have := (fq_lt h1 fq_F0).mp q
    rw [fq_Z0] at this
    omega
theorem fq_xyB {u1 c1 u2 c2 : UInt64} (hu1 : fq_b 1152 u1) (hc1 : fq_b 1152 c1) (hu2 : fq_b 1152 u2) (hc2 : fq_b 1152 c2) (h1 : ((2 ^ 1060 : Nat) : Int) ≤ fq_Z c1) : fq_b 1154 (FP.dsub u1 c1) ∧ fq_b 1154 (FP.dsub u2 c2) ∧ fq_b 1154 (FP.dadd u1 c1) ∧ fq_b 1154 (FP.dadd u2 c2) ∧ fq_b 1154 (fz_xN u1 c1 u2 c2) ∧ fq_b 1154 (fz_yN u1 c1 u2 c2) ∧ fq_wide (fz_xN u1 c1 u2 c2) (fz_yN u1 c1 u2 c2) := by
  have a1 := fq_sub hu1 hc1 (by decide)
  have a2 := fq_sub hu2 hc2 (by decide)
  have a3 := fq_add hu1 hc1 (by decide)
  have a4 := fq_add hu2 hc2 (by decide)
  refine ⟨a1, a2, a3, a4, by unfold fz_xN fz_lesC; exact fq_ite a1 a2, by unfold fz_yN fz_gtrC; exact fq_ite a3 a4, fun _ _ => ?_⟩
  have fu := hu1.f (by decide)
  have fc := hc1.f (by decide)
  have l := (fq_lesC (a1.f (by decide)) (a2.f (by decide))).2.1
  have g := (fq_gtrC (a3.f (by decide)) (a4.f (by decide))).2.1
  by_cases h0 : 0 ≤ fq_Z u1
  · left
    have := fq_addge fu fc fc (by omega)
    exact Int.le_trans (Int.le_trans h1 this) g
  · right
    have := fq_suble fu fc (fq_Fneg fc) (by rw [fq_neg]; omega)
    rw [fq_neg] at this
    exact Int.le_trans l (Int.le_trans this (Int.neg_le_neg h1))
theorem fq_flux {h1 m1 h2 m2 : UInt64} (s1 : fq_side h1 m1) (s2 : fq_side h2 m2) : fz_bOk h1 m1 (FP.ddiv m1 h1) (fz_root h1) h2 m2 (FP.ddiv m2 h2) (fz_root h2) ∧ fz_nOk h1 m1 (FP.ddiv m1 h1) (fz_root h1) h2 m2 (FP.ddiv m2 h2) (fz_root h2) ∧ fz_chB h1 m1 h2 m2 ∧ fz_chN h1 m1 h2 m2 ∧ ∀ sol, fq_b 1364 (fz_fluxH sol h1 m1 h2 m2) ∧ fq_b 1364 (fz_fluxM sol h1 m1 h2 m2) := by
  have r1 := s1.r
  have r2 := s2.r
  have f1 := s1.mf
  have f2 := s2.mf
  have n1 := s1.2.mono (k := 1143) (by decide)
  have n2 := s2.2.mono (k := 1143) (by decide)
  have p1 := s1.2.mono (k := 1081) (by decide)
  have p2 := s2.2.mono (k := 1081) (by decide)
  have hsB : fq_b 1154 (fz_sB (FP.ddiv m1 h1) (fz_root h1) (FP.ddiv m2 h2) (fz_root h2)) := by unfold fz_sB fz_gtrC; exact fq_ite r1.1 r2.1
  have b1 := fq_brd hsB n1 n2 s1.1.1 s2.1.1
  have b2 := fq_brd hsB f1.2 f2.2 p1 p2
  obtain ⟨x1, x2, x3, x4, x5, x6, x7⟩ := fq_xyB (s1.u.mono (by decide)) s1.c.1 (s2.u.mono (by decide)) s2.c.1 s1.c.2
  have j1 := fq_sub s2.1.1 s1.1.1 (by decide)
  have j2 := (fq_sub s2.2 s1.2 (by decide)).mono (k := 1083) (by decide)
  have d1 := fq_blend x5 x6 n1 n2 j1 x7
  have d2 := fq_blend x5 x6 f1.2 f2.2 j2 x7
  have c1 := fq_lesM (x1.f (by decide)) (x2.f (by decide))
  have c2 := fq_gtrM (x3.f (by decide)) (x4.f (by decide))
  have e1 := fq_gtr (r1.1.f (by decide)) (r2.1.f (by decide)) (Or.inl (Int.ne_of_gt (Int.lt_of_lt_of_le (by exact_mod_cast Nat.two_pow_pos 1060) r1.2)))
  refine ⟨⟨r1.1.n (by decide), r2.1.n (by decide), f1.1, f2.1, b1.1, b2.1⟩, ⟨x1.n (by decide), x2.n (by decide), x3.n (by decide), x4.n (by decide), f1.1, f2.1, j1.n (by decide), j2.n (by decide), d1.1, d2.1⟩, ⟨r1.1.n (by decide), r2.1.n (by decide), e1, b1.1, b2.1⟩, ⟨x1.n (by decide), x2.n (by decide), x3.n (by decide), x4.n (by decide), j1.n (by decide), j2.n (by decide), fq_bldZ c1 c2 d1.1, fq_bldZ c1 c2 d2.1, fq_bld c1 (x5.f (by decide)) c2 (x6.f (by decide)), fq_bld c1 (x5.f (by decide)) c2 (x6.f (by decide))⟩, fun sol => ⟨?_, ?_⟩⟩
  · unfold fz_fluxH; exact fq_ite d1.2 b1.2
  · unfold fz_fluxM; exact fq_ite d2.2 b2.2
/-! a row with its places beyond the ends -/
def fq_cells (n : Nat) (d m : Nat → UInt64) : Prop := ∀ j, j < n → fq_at d m (j + 2)
def fq_row (n : Nat) (d m : Nat → UInt64) : Prop := ∀ q, q ≤ n + 3 → fq_at d m q
theorem fq_rowE {kd n : Nat} {d m : Nat → UInt64} (hn : 4 ≤ n) (h : fq_cells n d m) : fq_row n (fz_ends kd false n d) (fz_ends kd true n m) := by
  have hc : ∀ q, 2 ≤ q → q < n + 2 → fq_at d m q := fun q h1 h2 => by
    have := h (q - 2) (by omega)
    rwa [show q - 2 + 2 = q by omega] at this
  have hng : ∀ x, fq_b 1034 x → fq_b 1034 (FP.dneg x) := fun x hx => fq_bneg hx (by decide) (by decide)
  intro q hq
  have key : ∀ p, 2 ≤ p → p < n + 2 → fq_at d m p := hc
  unfold fq_at fz_ends
  have g0 := key 2 (by omega) (by omega)
  have g1 := key 3 (by omega) (by omega)
  have g2 := key n (by omega) (by omega)
  have g3 := key (n + 1) (by omega) (by omega)
  by_cases q0 : q = 0
  · subst q0
    refine ⟨?_, ?_⟩
    · simp only [Nat.zero_ne_one, if_false, if_true, Bool.false_eq_true]
      split
      · exact g2.1
      split
      · exact g1.1
      · exact g0.1
    · simp only [Nat.zero_ne_one, if_false, if_true]
      split
      · exact g2.2
      split
      · exact hng _ g1.2
      · exact g0.2
  by_cases q1 : q = 1
  · subst q1
    refine ⟨?_, ?_⟩
    · simp only [if_false, if_true, Bool.false_eq_true]
      split
      · exact g3.1
      split
      · exact g0.1
      · exact g0.1
    · simp only [if_true]
      split
      · exact g3.2
      split
      · exact hng _ g0.2
      · exact g0.2
  simp only [if_neg q0, if_neg q1]
  by_cases q2 : q = n + 2
  · simp only [if_pos q2]
    refine ⟨?_, ?_⟩
    · simp only [if_false, Bool.false_eq_true]
      split
      · exact g0.1
      split
      · exact g3.1
      · exact g3.1
    · simp only [if_true]
      split
      · exact g0.2
      split
      · exact hng _ g3.2
      · exact g3.2
  by_cases q3 : q = n + 3
  · simp only [if_neg q2, if_pos q3]
    refine ⟨?_, ?_⟩
    · simp only [if_false, Bool.false_eq_true]
      split
      · exact g1.1
      split
      · exact g2.1
      · exact g3.1
    · simp only [if_true]
      split
      · exact g1.2
      split
      · exact hng _ g2.2
      · exact g3.2
  simp only [if_neg q2, if_neg q3, ite_self]
  exact key q (by omega) (by omega)
