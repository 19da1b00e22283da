/-! slopes and the states at a face -/
theorem fq_oneP : 0 < fq_one := Nat.two_pow_pos 1074
theorem fq_ite {p : Prop} [Decidable p] {B : Nat} {x y : UInt64} (hx : fq_b B x) (hy : fq_b B y) : fq_b B (if p then x else y) := by
  split
  · exact hx
  · exact hy
theorem fq_harm {B : Nat} {a b : UInt64} (hB : 1019 ≤ B) (hB2 : B ≤ 1200) (ha : fq_b B a) (hb : fq_b B b) (hp : fz_lt FP.dconst0 (FP.dmul a b) = true) : fq_b (B + 6) (FP.ddiv (FP.dmul (FP.dmul fz_two a) b) (FP.dadd a b)) := by
  have fa := ha.f (by omega)
  have fb := hb.f (by omega)
  have m1 := fq_mul ha hb (by omega) (by omega)
  have t1 := fq_mul fq_b2 ha (by decide) (by omega)
  have t1 := t1.mono (k := B + 3) (by omega)
  have n1 := fq_mul t1 hb (by omega) (by omega)
  have s1 := fq_add ha hb (by omega)
  have ft := t1.f (by omega)
  have fs := s1.f (by omega)
  have fn := n1.f (by omega)
  have hs := fq_mulpos fa fb (m1.f (by omega)) hp
  have hden : (fq_Z b).natAbs ≤ (fq_Z (FP.dadd a b)).natAbs := by
    rcases hs with h | h
    · have := fq_addge fa fb fb (by omega); omega
    · have := fq_addle fa fb fb (by omega); omega
  have hz := fq_Zlt t1 (by omega)
  rw [← Nat.pow_add, show 52 + (B + 3 - 1) = B + 54 by omega] at hz
  have hb1 : 1 ≤ (fq_Z b).natAbs := by omega
  have E0 : (fq_Z (FP.dmul fz_two a) * fq_Z b).natAbs < 2 ^ 2097 * fq_one := by
    rw [Int.natAbs_mul]
    have h2 := fq_Zlt hb (by omega)
    rw [← Nat.pow_add, show 52 + (B - 1) = B + 51 by omega] at h2
    refine Nat.lt_of_lt_of_le (Nat.mul_lt_mul'' hz h2) ?_
    unfold fq_one
    rw [← Nat.pow_add, ← Nat.pow_add]
    exact Nat.pow_le_pow_right (by decide) (by omega)
  have er := (fq_rmul ft fb).err fq_oneP E0
  obtain ⟨v, v1, v2⟩ := fq_repP (B + 56) (by omega)
  have hv : (fq_Z v).natAbs = 2 ^ (B + 56) := by rw [v2]; rfl
  have hmain : (fq_Z (FP.dmul (FP.dmul fz_two a) b)).natAbs * fq_one ≤ (fq_Z v).natAbs * (fq_Z (FP.dadd a b)).natAbs := by
    refine Nat.le_trans ?_ (Nat.mul_le_mul_left _ hden)
    rw [hv]
    have e1 : ((fq_Z (FP.dmul (FP.dmul fz_two a) b)) * (fq_one : Int)).natAbs = (fq_Z (FP.dmul (FP.dmul fz_two a) b)).natAbs * fq_one := by rw [Int.natAbs_mul]; rfl
    rw [← e1]
    have g1 : (fq_Z (FP.dmul fz_two a) * fq_Z b).natAbs ≤ 2 ^ (B + 54) * (fq_Z b).natAbs := by
      rw [Int.natAbs_mul]; exact Nat.mul_le_mul_right _ (Nat.le_of_lt hz)
    have g2 : fq_one ≤ 2 ^ (B + 55) * (fq_Z b).natAbs := by
      refine Nat.le_trans ?_ (Nat.le_mul_of_pos_right _ hb1)
      exact Nat.pow_le_pow_right (by decide) (by omega)
    have g3 : 2 ^ (B + 55) = 2 * 2 ^ (B + 54) := by rw [Nat.pow_succ, Nat.mul_comm]
    have g4 : 2 ^ (B + 56) = 4 * 2 ^ (B + 54) := by rw [Nat.pow_succ, Nat.pow_succ]; omega
    rw [g3, Nat.mul_assoc] at g2
    rw [g4, Nat.mul_assoc]
    generalize 2 ^ (B + 54) * (fq_Z b).natAbs = W at *
    generalize (fq_Z (FP.dmul fz_two a) * fq_Z b) = X at *
    generalize fq_Z (FP.dmul (FP.dmul fz_two a) b) * (fq_one : Int) = Y at *
    generalize fq_one = O at *
    omega
  have hd0 : fq_Z (FP.dadd a b) ≠ 0 := by omega
  refine fq_bof (fq_quoF fn fs v1 hd0 hmain) (by omega) ?_
  have := fq_quole fn fs v1 hd0 hmain
  rw [hv] at this
  refine Nat.lt_of_le_of_lt this ?_
  rw [← Nat.pow_add]
  exact Nat.pow_lt_pow_right (by decide) (by omega)
theorem fq_slc {B : Nat} {a b : UInt64} (hB : 1019 ≤ B) (hB2 : B ≤ 1200) (ha : fq_b B a) (hb : fq_b B b) : fz_slcOk a b ∧ (∀ lim, fq_b (B + 6) (fz_slopeC lim a b)) ∧ ∀ lim, lim ≤ 3 → fz_slopeM lim a b = fz_slopeC lim a b := by
  have m1 := fq_mul ha hb (by omega) (by omega)
  have t1 := (fq_mul fq_b2 ha (by decide) (by omega)).mono (k := B + 3) (by omega)
  have t2 := (fq_mul fq_b2 hb (by decide) (by omega)).mono (k := B + 3) (by omega)
  have n1 := fq_mul t1 hb (by omega) (by omega)
  have s1 := fq_add ha hb (by omega)
  have nr : ∀ x y : UInt64, fq_b (B + 3) x → fq_b (B + 3) y → fq_b (B + 3) (fz_near x y) := fun x y hx hy => by
    unfold fz_near; exact fq_ite hx hy
  have fr : ∀ x y : UInt64, fq_b (B + 3) x → fq_b (B + 3) y → fq_b (B + 3) (fz_farr x y) := fun x y hx hy => by
    unfold fz_farr; exact fq_ite hx hy
  have a3 := ha.mono (k := B + 3) (by omega)
  have b3 := hb.mono (k := B + 3) (by omega)
  refine ⟨⟨ha.n (by omega), hb.n (by omega), m1.n (by omega), t1.n (by omega), t2.n (by omega), n1.n (by omega), s1.n (by omega), fun hp => (fq_harm hB hB2 ha hb hp).n (by omega)⟩, fun lim => ?_, fun lim hl => fq_slope hl (ha.f (by omega)) (hb.f (by omega)) (m1.f (by omega)) (t1.f (by omega)) (t2.f (by omega))⟩
  unfold fz_slopeC
  split
  · exact fq_b0.mono (by omega)
  split
  · rename_i hp
    split
    · exact (nr _ _ a3 b3).mono (by omega)
    split
    · exact (fr _ _ (nr _ _ t1 b3) (nr _ _ a3 t2)).mono (by omega)
    · exact fq_harm hB hB2 ha hb hp
  · exact fq_b0.mono (by omega)
theorem fq_slAt {B lim j : Nat} {f : Nat → UInt64} (hB : 1019 ≤ B) (hB2 : B ≤ 1190) (h0 : fq_b B (f j)) (h1 : fq_b B (f (j + 1))) (h2 : fq_b B (f (j + 2))) : fz_slcOk (fz_dA f j) (fz_dB f j) ∧ fq_b (B + 8) (fz_slAt lim f j) ∧ (lim ≤ 3 → fz_slopeM lim (fz_dA f j) (fz_dB f j) = fz_slAt lim f j) := by
  have a1 := fq_sub h1 h0 (by omega)
  have a2 := fq_sub h2 h1 (by omega)
  obtain ⟨g1, g2, g3⟩ := fq_slc (by omega) (by omega) a1 a2
  exact ⟨g1, g2 lim, g3 lim⟩
theorem fq_hs {B : Nat} {x : UInt64} (hB : 100 ≤ B) (hB2 : B ≤ 2040) (h : fq_b B x) : fq_b (B + 1) (FP.dmul fz_half x) := (fq_mul fq_bh h (by decide) (by omega)).mono (by omega)
theorem fq_half0 : FP.dmul fz_half FP.dconst0 = FP.dconst0 := by decide +kernel
theorem fq_addz {x : UInt64} (hx : fq_F x) : fq_Z (FP.dadd x FP.dconst0) = fq_Z x := Int.le_antisymm (fq_addle hx fq_F0 hx (by rw [fq_Z0]; omega)) (fq_addge hx fq_F0 hx (by rw [fq_Z0]; omega))
theorem fq_subz {x : UInt64} (hx : fq_F x) : fq_Z (FP.dsub x FP.dconst0) = fq_Z x := Int.le_antisymm (fq_suble hx fq_F0 hx (by rw [fq_Z0]; omega)) (fq_subge hx fq_F0 hx (by rw [fq_Z0]; omega))
def fq_at (d m : Nat → UInt64) (q : Nat) : Prop := fq_dep 1070 (d q) ∧ fq_b 1034 (m q)
def fq_face (d m sH sM : Nat → UInt64) (q : Nat) : Prop := fq_b 1079 (FP.dmul fz_half (sH q)) ∧ fq_dep 1081 (FP.dadd (d q) (FP.dmul fz_half (sH q))) ∧ fq_dep 1081 (FP.dsub (d q) (FP.dmul fz_half (sH q))) ∧ fq_b 1043 (FP.dmul fz_half (sM q)) ∧ fq_b 1045 (FP.dadd (m q) (FP.dmul fz_half (sM q))) ∧ fq_b 1045 (FP.dsub (m q) (FP.dmul fz_half (sM q)))
theorem fq_faceAt {lim j : Nat} {d m : Nat → UInt64} (a0 : fq_at d m j) (a1 : fq_at d m (j + 1)) (a2 : fq_at d m (j + 2)) : fq_face d m (fz_SH lim d) (fz_SM lim d m) (j + 1) := by
  obtain ⟨_, sd, _⟩ := fq_slAt (lim := lim) (by decide) (by decide) a0.1.1 a1.1.1 a2.1.1
  obtain ⟨_, sm, _⟩ := fq_slAt (lim := lim) (by decide) (by decide) a0.2 a1.2 a2.2
  have fd := a1.1.1.f (by decide)
  have k1 := fq_hs (by decide) (by decide) sd
  have k2 := fq_hs (by decide) (by decide) sm
  have c0 : fq_b 1034 (m (j + 1)) := a1.2
  by_cases hd : fz_dry lim d j = true
  · have e1 : fz_SH lim d (j + 1) = FP.dconst0 := by rw [fz_SH_1]; unfold fz_sHg; rw [if_pos hd]
    have e2 : fz_SM lim d m (j + 1) = FP.dconst0 := by rw [fz_SM_1]; unfold fz_sMg; rw [if_pos hd]
    refine ⟨?_, ?_, ?_, ?_, ?_, ?_⟩
    · rw [e1, fq_half0]; exact fq_b0.mono (by decide)
    · rw [e1, fq_half0]; exact ⟨(fq_add a1.1.1 (fq_b0.mono (by decide)) (by decide)).mono (by decide), by rw [fq_addz fd]; exact a1.1.2⟩
    · rw [e1, fq_half0]; exact ⟨(fq_sub a1.1.1 (fq_b0.mono (by decide)) (by decide)).mono (by decide), by rw [fq_subz fd]; exact a1.1.2⟩
    · rw [e2, fq_half0]; exact fq_b0.mono (by decide)
    · rw [e2, fq_half0]; exact (fq_add c0 (fq_b0.mono (by decide)) (by decide)).mono (by decide)
    · rw [e2, fq_half0]; exact (fq_sub c0 (fq_b0.mono (by decide)) (by decide)).mono (by decide)
  · have e1 : fz_SH lim d (j + 1) = fz_slAt lim d j := by rw [fz_SH_1]; unfold fz_sHg; rw [if_neg hd]
    have e2 : fz_SM lim d m (j + 1) = fz_slAt lim m j := by rw [fz_SM_1]; unfold fz_sMg; rw [if_neg hd]
    have p1 := fq_add (a1.1.1.mono (k := 1079) (by decide)) k1 (by decide)
    have p2 := fq_sub (a1.1.1.mono (k := 1079) (by decide)) k1 (by decide)
    have hd' : fz_dry lim d j = false := by simpa using hd
    unfold fz_dry at hd'
    rw [Bool.or_eq_false_iff] at hd'
    refine ⟨?_, ?_, ?_, ?_, ?_, ?_⟩
    · rw [e1]; exact k1
    · rw [e1]; exact ⟨p1, (fq_ltF (p1.f (by decide)) fq_Fc).mp hd'.1⟩
    · rw [e1]; exact ⟨p2, (fq_ltF (p2.f (by decide)) fq_Fc).mp hd'.2⟩
    · rw [e2]; exact k2
    · rw [e2]; exact fq_add (c0.mono (by decide)) k2 (by decide)
    · rw [e2]; exact fq_sub (c0.mono (by decide)) k2 (by decide)
theorem fq_slOkM {lim j : Nat} {d m : Nat → UInt64} (hl : lim ≤ 3) (a0 : fq_at d m j) (a1 : fq_at d m (j + 1)) (a2 : fq_at d m (j + 2)) : fz_slOkM lim d m j := by
  obtain ⟨s1, sd, s2⟩ := fq_slAt (lim := lim) (by decide) (by decide) a0.1.1 a1.1.1 a2.1.1
  obtain ⟨s3, sm, s4⟩ := fq_slAt (lim := lim) (by decide) (by decide) a0.2 a1.2 a2.2
  have k1 := fq_hs (by decide) (by decide) sd
  have p1 := fq_add (a1.1.1.mono (k := 1079) (by decide)) k1 (by decide)
  have p2 := fq_sub (a1.1.1.mono (k := 1079) (by decide)) k1 (by decide)
  exact ⟨s1, s3, k1.n (by decide), p1.n (by decide), p2.n (by decide), s2 hl, s4 hl⟩
