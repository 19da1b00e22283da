/-! choices: the class's and the reference's greater, lesser, least agree; the root is safe -/
theorem fq_F0 : fq_F FP.dconst0 := (FP.Core.fin_bits _).mpr (by decide)
theorem fq_Z0 : fq_Z FP.dconst0 = 0 := by decide +kernel
theorem fq_F1 : fq_F FP.dconst1 := (FP.Core.fin_bits _).mpr (by decide)
theorem fq_Z1 : fq_Z FP.dconst1 = ((2 ^ 1074 : Nat) : Int) := by decide +kernel
theorem fq_Fh : fq_F fz_half := (FP.Core.fin_bits _).mpr (by decide)
theorem fq_Zh : fq_Z fz_half = ((2 ^ 1073 : Nat) : Int) := by decide +kernel
theorem fq_F2 : fq_F fz_two := (FP.Core.fin_bits _).mpr (by decide)
theorem fq_Z2 : fq_Z fz_two = ((2 ^ 1075 : Nat) : Int) := by decide +kernel
theorem fq_b0 : fq_b 1 FP.dconst0 := by unfold fq_b; decide
theorem fq_bh : fq_b 1023 fz_half := by unfold fq_b; decide
theorem fq_b2 : fq_b 1025 fz_two := by unfold fq_b; decide
theorem fq_bc1 : fq_b 1024 FP.dconst1 := by unfold fq_b; decide
theorem fq_Fc : fq_F fz_c01 := (FP.Core.fin_bits _).mpr (by decide)
theorem fq_Zc : ((2 ^ 1067 : Nat) : Int) ≤ fq_Z fz_c01 := by decide +kernel
theorem fq_gtr {a b : UInt64} (ha : fq_F a) (hb : fq_F b) (h0 : fq_Z a ≠ 0 ∨ fq_Z b ≠ 0) : fz_gtrM a b = fz_gtrC a b := by
  unfold fz_gtrM fz_gtrC
  by_cases h : fq_Z b < fq_Z a
  · rw [if_pos ((fq_lt hb ha).mpr h), if_pos ((fq_le hb ha).mpr (by omega))]
  · rw [if_neg (by rw [fq_lt hb ha]; exact h)]
    by_cases h2 : fq_Z b ≤ fq_Z a
    · rw [if_pos ((fq_le hb ha).mpr h2)]
      exact (fq_same ha hb (by omega) (by omega)).symm
    · rw [if_neg (by rw [fq_le hb ha]; exact h2)]
theorem fq_gtrC {a b : UInt64} (ha : fq_F a) (hb : fq_F b) : fq_F (fz_gtrC a b) ∧ fq_Z a ≤ fq_Z (fz_gtrC a b) ∧ fq_Z b ≤ fq_Z (fz_gtrC a b) ∧ (fz_gtrC a b = a ∨ fz_gtrC a b = b) := by
  unfold fz_gtrC
  by_cases h : fz_le b a = true
  · rw [if_pos h]; exact ⟨ha, Int.le_refl _, (fq_le hb ha).mp h, Or.inl rfl⟩
  · rw [if_neg h]
    have := (fq_leF hb ha).mp (by simpa using h)
    exact ⟨hb, by omega, Int.le_refl _, Or.inr rfl⟩
theorem fq_lesC {a b : UInt64} (ha : fq_F a) (hb : fq_F b) : fq_F (fz_lesC a b) ∧ fq_Z (fz_lesC a b) ≤ fq_Z a ∧ fq_Z (fz_lesC a b) ≤ fq_Z b ∧ (fz_lesC a b = a ∨ fz_lesC a b = b) := by
  unfold fz_lesC
  by_cases h : fz_le a b = true
  · rw [if_pos h]; exact ⟨ha, Int.le_refl _, (fq_le ha hb).mp h, Or.inl rfl⟩
  · rw [if_neg h]
    have := (fq_leF ha hb).mp (by simpa using h)
    exact ⟨hb, by omega, Int.le_refl _, Or.inr rfl⟩
theorem fq_lesM {a b : UInt64} (ha : fq_F a) (hb : fq_F b) : fz_lesM a b = fz_lesC a b ∨ (fq_F (fz_lesM a b) ∧ fq_Z (fz_lesM a b) = 0 ∧ fq_Z (fz_lesC a b) = 0) := by
  unfold fz_lesM fz_lesC
  by_cases h : fq_Z a < fq_Z b
  · left; rw [if_pos ((fq_lt ha hb).mpr h), if_pos ((fq_le ha hb).mpr (by omega))]
  · rw [if_neg (by rw [fq_lt ha hb]; exact h)]
    by_cases h2 : fq_Z a ≤ fq_Z b
    · rw [if_pos ((fq_le ha hb).mpr h2)]
      by_cases hz : fq_Z b = 0
      · right; exact ⟨hb, hz, by omega⟩
      · left; exact (fq_same ha hb (by omega) hz).symm
    · left; rw [if_neg (by rw [fq_le ha hb]; exact h2)]
theorem fq_gtrM {a b : UInt64} (ha : fq_F a) (hb : fq_F b) : fz_gtrM a b = fz_gtrC a b ∨ (fq_F (fz_gtrM a b) ∧ fq_Z (fz_gtrM a b) = 0 ∧ fq_Z (fz_gtrC a b) = 0) := by
  by_cases h : fq_Z a ≠ 0 ∨ fq_Z b ≠ 0
  · exact Or.inl (fq_gtr ha hb h)
  · right
    have h1 : fq_Z a = 0 := by omega
    have h2 : fq_Z b = 0 := by omega
    have h3 := fq_gtrC ha hb
    refine ⟨?_, ?_, ?_⟩
    · unfold fz_gtrM; split <;> assumption
    · unfold fz_gtrM; split <;> assumption
    · rcases h3.2.2.2 with h | h <;> rw [h] <;> assumption
/-- the blend doesn't see the sign of a zero -/
theorem fq_bld {x x' y y' f g j : UInt64} (hx : x' = x ∨ (fq_F x' ∧ fq_Z x' = 0 ∧ fq_Z x = 0)) (fx : fq_F x) (hy : y' = y ∨ (fq_F y' ∧ fq_Z y' = 0 ∧ fq_Z y = 0)) (fy : fq_F y) : fz_bld x' y' f g j = fz_bld x y f g j := by
  unfold fz_bld
  rcases hx with rfl | ⟨h1, h2, h3⟩
  · rcases hy with rfl | ⟨g1, g2, g3⟩
    · rfl
    · have e1 : ¬ fz_lt FP.dconst0 y' = true := by rw [fq_lt fq_F0 g1, fq_Z0]; omega
      have e2 : ¬ fz_lt FP.dconst0 y = true := by rw [fq_lt fq_F0 fy, fq_Z0]; omega
      rw [if_neg e1, if_neg e2]
  · have e1 : ¬ fz_lt x' FP.dconst0 = true := by rw [fq_lt h1 fq_F0, fq_Z0]; omega
    have e2 : ¬ fz_lt x FP.dconst0 = true := by rw [fq_lt fx fq_F0, fq_Z0]; omega
    rw [if_neg e1, if_neg e2]
/-- a product above zero: both above, or both below -/
theorem fq_mulpos {a b : UInt64} (ha : fq_F a) (hb : fq_F b) (hm : fq_F (FP.dmul a b)) (h : fz_lt FP.dconst0 (FP.dmul a b) = true) : (0 < fq_Z a ∧ 0 < fq_Z b) ∨ (fq_Z a < 0 ∧ fq_Z b < 0) := by
  have h1 := (fq_lt fq_F0 hm).mp h
  rw [fq_Z0] at h1
  have h2 : 0 < fq_Z a * fq_Z b := by
    refine Int.not_le.mp fun h3 => ?_
    have := fq_mulle ha hb fq_F0 (by rw [fq_Z0]; omega)
    rw [fq_Z0] at this
    omega
  rcases Int.lt_trichotomy (fq_Z a) 0 with h3 | h3 | h3
  · right
    refine ⟨h3, Int.not_le.mp fun h4 => ?_⟩
    have := Int.mul_nonpos_of_nonpos_of_nonneg (Int.le_of_lt h3) h4
    omega
  · rw [h3, Int.zero_mul] at h2; omega
  · left
    refine ⟨h3, Int.not_le.mp fun h4 => ?_⟩
    have := Int.mul_nonpos_of_nonneg_of_nonpos (Int.le_of_lt h3) h4
    omega
def fq_ss (a b : UInt64) : Prop := fq_F a ∧ fq_F b ∧ ((0 < fq_Z a ∧ 0 < fq_Z b) ∨ (fq_Z a < 0 ∧ fq_Z b < 0))
theorem fq_near {a b : UInt64} (h : fq_ss a b) : fz_leastM a b = fz_near a b ∧ (fz_near a b = a ∨ fz_near a b = b) := by
  obtain ⟨ha, hb, h⟩ := h
  obtain ⟨fa, za⟩ := fq_abs ha
  obtain ⟨fb, zb⟩ := fq_abs hb
  unfold fz_leastM fz_near
  have e1 : (fz_le (fz_abs a) (fz_abs b) = true) ↔ ((if fz_lt a FP.dconst0 = true then fz_le b a else fz_le a b) = true) := by
    rw [fq_le fa fb, za, zb]
    by_cases hn : fq_Z a < 0
    · rw [if_pos ((fq_lt ha fq_F0).mpr (by rw [fq_Z0]; exact hn)), fq_le hb ha]; omega
    · rw [if_neg (by rw [fq_lt ha fq_F0, fq_Z0]; exact hn), fq_le ha hb]; omega
  by_cases h2 : fz_le (fz_abs a) (fz_abs b) = true
  · rw [if_pos h2, if_pos (e1.mp h2)]; exact ⟨rfl, Or.inl rfl⟩
  · rw [if_neg h2, if_neg (fun q => h2 (e1.mpr q))]; exact ⟨rfl, Or.inr rfl⟩
theorem fq_far {a b : UInt64} (h : fq_ss a b) : fz_mostM a b = fz_farr a b ∧ (fz_farr a b = a ∨ fz_farr a b = b) := by
  obtain ⟨ha, hb, h⟩ := h
  obtain ⟨fa, za⟩ := fq_abs ha
  obtain ⟨fb, zb⟩ := fq_abs hb
  unfold fz_mostM fz_farr
  have e1 : (fz_le (fz_abs b) (fz_abs a) = true) ↔ ((if fz_lt a FP.dconst0 = true then fz_le a b else fz_le b a) = true) := by
    rw [fq_le fb fa, za, zb]
    by_cases hn : fq_Z a < 0
    · rw [if_pos ((fq_lt ha fq_F0).mpr (by rw [fq_Z0]; exact hn)), fq_le ha hb]; omega
    · rw [if_neg (by rw [fq_lt ha fq_F0, fq_Z0]; exact hn), fq_le hb ha]; omega
  by_cases h2 : fz_le (fz_abs b) (fz_abs a) = true
  · rw [if_pos h2, if_pos (e1.mp h2)]; exact ⟨rfl, Or.inl rfl⟩
  · rw [if_neg h2, if_neg (fun q => h2 (e1.mpr q))]; exact ⟨rfl, Or.inr rfl⟩
/-- twice a number has its sign -/
theorem fq_dbl {a : UInt64} (ha : fq_F a) (h2 : fq_F (FP.dmul fz_two a)) : (0 < fq_Z a → 0 < fq_Z (FP.dmul fz_two a)) ∧ (fq_Z a < 0 → fq_Z (FP.dmul fz_two a) < 0) := by
  have e : fq_Z fz_two * fq_Z a = 2 * fq_Z a * (fq_one : Int) := by
    rw [fq_Z2, show ((2 ^ 1075 : Nat) : Int) = 2 * (fq_one : Int) from by decide +kernel, Int.mul_right_comm]
  refine ⟨fun h => ?_, fun h => ?_⟩
  · have := fq_mulge fq_F2 ha ha (by
      rw [e]; exact Int.mul_le_mul_of_nonneg_right (by omega) (Int.natCast_nonneg _))
    omega
  · have := fq_mulle fq_F2 ha ha (by
      rw [e]; exact Int.mul_le_mul_of_nonneg_right (by omega) (Int.natCast_nonneg _))
    omega
/-- the reference's slope is the class's -/
theorem fq_slope {lim : Nat} {a b : UInt64} (hlim : lim ≤ 3) (ha : fq_F a) (hb : fq_F b) (hm : fq_F (FP.dmul a b)) (h2a : fq_F (FP.dmul fz_two a)) (h2b : fq_F (FP.dmul fz_two b)) : fz_slopeM lim a b = fz_slopeC lim a b := by
  unfold fz_slopeM fz_slopeC
  by_cases h0 : lim = 0
  · rw [if_pos h0, if_pos h0]
  rw [if_neg h0, if_neg h0]
  by_cases hp : fz_lt FP.dconst0 (FP.dmul a b) = true
  · rw [if_pos hp, if_pos hp]
    have hs := fq_mulpos ha hb hm hp
    have d1 := fq_dbl ha h2a
    have d2 := fq_dbl hb h2b
    by_cases h1 : lim = 1
    · rw [if_pos h1, if_pos h1]; exact (fq_near ⟨ha, hb, hs⟩).1
    rw [if_neg h1, if_neg h1]
    by_cases h3 : lim = 3
    · rw [if_pos h3, if_neg (by omega)]
    · rw [if_neg h3, if_pos (by omega)]
      have s1 : fq_ss (FP.dmul fz_two a) b := ⟨h2a, hb, by rcases hs with h | h; exact Or.inl ⟨d1.1 h.1, h.2⟩; exact Or.inr ⟨d1.2 h.1, h.2⟩⟩
      have s2 : fq_ss a (FP.dmul fz_two b) := ⟨ha, h2b, by rcases hs with h | h; exact Or.inl ⟨h.1, d2.1 h.2⟩; exact Or.inr ⟨h.1, d2.2 h.2⟩⟩
      have n1 := fq_near s1
      have n2 := fq_near s2
      rw [n1.1, n2.1]
      refine (fq_far ⟨?_, ?_, ?_⟩).1
      · rcases n1.2 with h | h <;> rw [h] <;> assumption
      · rcases n2.2 with h | h <;> rw [h] <;> assumption
      · rcases n1.2 with h | h <;> rcases n2.2 with g | g <;> rw [h, g] <;> rcases hs with q | q
        · exact Or.inl ⟨d1.1 q.1, q.1⟩
        · exact Or.inr ⟨d1.2 q.1, q.1⟩
        · exact Or.inl ⟨d1.1 q.1, d2.1 q.2⟩
        · exact Or.inr ⟨d1.2 q.1, d2.2 q.2⟩
        · exact Or.inl ⟨q.2, q.1⟩
        · exact Or.inr ⟨q.2, q.1⟩
        · exact Or.inl ⟨q.2, d2.1 q.2⟩
        · exact Or.inr ⟨q.2, d2.2 q.2⟩
  · rw [if_neg hp, if_neg hp]
