/-! doubles: what a finite one is worth (a whole number of the least ones), magnitudes by bits, monotone operations -/
abbrev fq_Z (x : UInt64) : Int := FP.Core.zval FP.Core.b64 (FP.Core.val64 x)
abbrev fq_F (x : UInt64) : Prop := FP.Core.DFin x
def fq_b (k : Nat) (x : UInt64) : Prop := x.toNat % 2 ^ 63 < k * 2 ^ 52
theorem fq_b.f {k : Nat} {x : UInt64} (h : fq_b k x) (hk : k ≤ 2047) : fq_F x := FP.Core.fin_of_lt h hk
theorem fq_n {x : UInt64} (h : fq_F x) : vf_n64 x := by
  have h1 := (FP.Core.fin_bits x).mp h
  unfold vf_n64
  rw [UInt64.le_iff_toNat_le, FP.Core.mask_toNat]
  show _ ≤ 9218868437227405312
  omega
theorem fq_b.n {k : Nat} {x : UInt64} (h : fq_b k x) (hk : k ≤ 2047) : vf_n64 x := fq_n (h.f hk)
theorem fq_b.mono {j k : Nat} {x : UInt64} (h : fq_b j x) (hjk : j ≤ k) : fq_b k x := Nat.lt_of_lt_of_le h (Nat.mul_le_mul_right _ hjk)
theorem fq_add {k : Nat} {x y : UInt64} (hx : fq_b k x) (hy : fq_b k y) (hk : k ≤ 2047) : fq_b (k + 2) (FP.dadd x y) := FP.Core.dadd_mag hx hy hk
theorem fq_sub {k : Nat} {x y : UInt64} (hx : fq_b k x) (hy : fq_b k y) (hk : k ≤ 2047) : fq_b (k + 2) (FP.dsub x y) := FP.Core.dsub_mag hx hy hk
theorem fq_mul {j k : Nat} {x y : UInt64} (hx : fq_b j x) (hy : fq_b k y) (hj : j ≤ 2047) (hk : k ≤ 2047) : fq_b (j + k - 1025 + 3) (FP.dmul x y) := FP.Core.dmul_mag hx hy hj hk
theorem fq_div {K L : Nat} {x y : UInt64} (hx : fq_b K x) (hy : L * 2 ^ 52 ≤ y.toNat % 2 ^ 63) (hf : fq_F y) (hK : K ≤ 2047) (hL : 1 ≤ L) : fq_b (K + (1074 - 52 - 1) - L + 3) (FP.ddiv x y) := by
  have h1 := (FP.Core.fin_bits y).mp hf
  exact FP.Core.ddiv_mag hx hy (by omega) hK hL
theorem fq_nn {x : UInt64} (h : fq_F x) : FP.Core.val64 x ≠ .nan := h.ne_nan
theorem fq_cmp {x y : UInt64} (hx : fq_F x) (hy : fq_F y) : FP.dcmp x y = some (compare (fq_Z x) (fq_Z y)) := FP.Core.dcmp_zval (fq_nn hx) (fq_nn hy)
theorem fq_lt {x y : UInt64} (hx : fq_F x) (hy : fq_F y) : fz_lt x y = true ↔ fq_Z x < fq_Z y := by
  unfold fz_lt
  rw [fq_cmp hx hy, beq_iff_eq, Option.some.injEq, FP.Core.compare_lt_iff]
theorem fq_ltF {x y : UInt64} (hx : fq_F x) (hy : fq_F y) : fz_lt x y = false ↔ fq_Z y ≤ fq_Z x := by
  rw [← Bool.not_eq_true, fq_lt hx hy, Int.not_lt]
theorem fq_le {x y : UInt64} (hx : fq_F x) (hy : fq_F y) : fz_le x y = true ↔ fq_Z x ≤ fq_Z y := by
  unfold fz_le
  rw [fq_cmp hx hy, Bool.or_eq_true, beq_iff_eq, beq_iff_eq, Option.some.injEq, Option.some.injEq, FP.Core.compare_lt_iff, FP.Core.compare_eq_iff]
  omega
theorem fq_leF {x y : UInt64} (hx : fq_F x) (hy : fq_F y) : fz_le x y = false ↔ fq_Z y < fq_Z x := by
  rw [← Bool.not_eq_true, fq_le hx hy, Int.not_le]
theorem fq_eqv {x y : UInt64} (hx : fq_F x) (hy : fq_F y) : fz_eq x y = true ↔ fq_Z x = fq_Z y := by
  unfold fz_eq
  rw [fq_cmp hx hy, beq_iff_eq, Option.some.injEq, FP.Core.compare_eq_iff]
/-- values alike and not zero: the same bits -/
theorem fq_same {x y : UInt64} (hx : fq_F x) (hy : fq_F y) (h : fq_Z x = fq_Z y) (h0 : fq_Z y ≠ 0) : x = y := by
  refine FP.Core.eq_bits (fun hz => h0 hz.zval) ?_
  have := fq_cmp hx hy
  rw [h, FP.Core.compare_self_int] at this
  exact this
theorem fq_Zabs (x : UInt64) : (fq_Z x).natAbs = FP.Core.zmag FP.Core.b64 (FP.Core.val64 x) := FP.Core.natAbs_signed _ _
theorem fq_Zlt {k : Nat} {x : UInt64} (h : fq_b k x) (hk : k ≤ 2047) : (fq_Z x).natAbs < 2 ^ 52 * 2 ^ (k - 1) := by
  rw [fq_Zabs, FP.Core.zmag_bits (fq_nn (h.f hk)), ← FP.Core.tails_b64]
  unfold fq_b at h
  rw [← FP.Core.tails_b64] at h
  exact (FP.Core.units_lt_start h).2
theorem fq_bof {k : Nat} {x : UInt64} (hx : fq_F x) (hk : 1 ≤ k) (h : (fq_Z x).natAbs < 2 ^ 52 * 2 ^ (k - 1)) : fq_b k x := by
  rw [fq_Zabs, FP.Core.zmag_bits (fq_nn hx), ← FP.Core.tails_b64, ← FP.Core.unitsOf_start hk] at h
  unfold fq_b
  rw [← FP.Core.tails_b64]
  exact FP.Core.unitsOf_lt_iff.mp h
theorem fq_gof {k : Nat} {x : UInt64} (hx : fq_F x) (hk : 1 ≤ k) (h : 2 ^ 52 * 2 ^ (k - 1) ≤ (fq_Z x).natAbs) : k * 2 ^ 52 ≤ x.toNat % 2 ^ 63 := by
  rw [fq_Zabs, FP.Core.zmag_bits (fq_nn hx), ← FP.Core.tails_b64, ← FP.Core.unitsOf_start hk] at h
  rw [← FP.Core.tails_b64]
  exact FP.Core.unitsOf_le_iff.mp h
theorem fq_fit (x : UInt64) : FP.Core.fits FP.Core.b64 (FP.Core.val64 x) := FP.Core.val64_fits x
theorem fq_addle {x y v : UInt64} (hx : fq_F x) (hy : fq_F y) (hv : fq_F v) (h : fq_Z x + fq_Z y ≤ fq_Z v) : fq_Z (FP.dadd x y) ≤ fq_Z v := by
  show FP.Core.zval _ (FP.Core.val64 (FP.Core.dadd x y)) ≤ _
  rw [FP.Core.val64_dadd]
  exact FP.Core.sum_le FP.Core.good_b64 hx hy (fq_fit x) (fq_fit y) (fq_fit v) (fq_nn hv) h
theorem fq_addge {x y v : UInt64} (hx : fq_F x) (hy : fq_F y) (hv : fq_F v) (h : fq_Z v ≤ fq_Z x + fq_Z y) : fq_Z v ≤ fq_Z (FP.dadd x y) := by
  show _ ≤ FP.Core.zval _ (FP.Core.val64 (FP.Core.dadd x y))
  rw [FP.Core.val64_dadd]
  exact FP.Core.sum_ge FP.Core.good_b64 hx hy (fq_fit x) (fq_fit y) (fq_fit v) (fq_nn hv) h
theorem fq_negF {x : UInt64} (hx : fq_F x) : ∃ s c q, FP.Core.negate (FP.Core.val64 x) = .fin s c q := by
  obtain ⟨s, c, q, h⟩ := hx
  exact ⟨!s, c, q, by rw [h]; rfl⟩
theorem fq_suble {x y v : UInt64} (hx : fq_F x) (hy : fq_F y) (hv : fq_F v) (h : fq_Z x - fq_Z y ≤ fq_Z v) : fq_Z (FP.dsub x y) ≤ fq_Z v := by
  show FP.Core.zval _ (FP.Core.val64 (FP.Core.dsub x y)) ≤ _
  rw [FP.Core.val64_dsub]
  exact FP.Core.sum_le FP.Core.good_b64 hx (fq_negF hy) (fq_fit x) (FP.Core.negate_fits (fq_fit y)) (fq_fit v) (fq_nn hv) (by rw [FP.Core.zval_negate]; unfold fq_Z at h; omega)
theorem fq_subge {x y v : UInt64} (hx : fq_F x) (hy : fq_F y) (hv : fq_F v) (h : fq_Z v ≤ fq_Z x - fq_Z y) : fq_Z v ≤ fq_Z (FP.dsub x y) := by
  show _ ≤ FP.Core.zval _ (FP.Core.val64 (FP.Core.dsub x y))
  rw [FP.Core.val64_dsub]
  exact FP.Core.sum_ge FP.Core.good_b64 hx (fq_negF hy) (fq_fit x) (FP.Core.negate_fits (fq_fit y)) (fq_fit v) (fq_nn hv) (by rw [FP.Core.zval_negate]; unfold fq_Z at h; omega)
theorem fq_neg (x : UInt64) : fq_Z (FP.dneg x) = - fq_Z x := by
  show FP.Core.zval _ (FP.Core.val64 (FP.dneg x)) = _
  rw [FP.val64_dneg, FP.Core.zval_negate]
theorem fq_Fneg {x : UInt64} (hx : fq_F x) : fq_F (FP.dneg x) := by
  obtain ⟨s, c, q, h⟩ := hx
  exact ⟨!s, c, q, by rw [FP.val64_dneg, h]; rfl⟩
theorem fq_bneg {k : Nat} {x : UInt64} (h : fq_b k x) (hk : k ≤ 2047) (hk1 : 1 ≤ k) : fq_b k (FP.dneg x) := by
  refine fq_bof (fq_Fneg (h.f hk)) hk1 ?_
  rw [fq_neg, Int.natAbs_neg]
  exact fq_Zlt h hk
abbrev fq_one : Nat := 2 ^ 1074
theorem fq_mulU {x y : UInt64} (hx : fq_F x) (hy : fq_F y) : ∃ sg n e, FP.Core.exactProduct (FP.Core.val64 x) (FP.Core.val64 y) = .fin sg n e ∧ 2 * FP.Core.b64.qmin ≤ e ∧ FP.Core.signed sg (FP.Core.inUnits n e (2 * FP.Core.b64.qmin)) = fq_Z x * fq_Z y := by
  have fx := fq_fit x
  have fy := fq_fit y
  unfold fq_Z
  obtain ⟨s, c, q, hx⟩ := hx
  obtain ⟨t, d, r, hy⟩ := hy
  rw [hx] at fx ⊢
  rw [hy] at fy ⊢
  obtain ⟨h1, h2, h3⟩ := FP.Core.product_units fx fy
  refine ⟨_, _, _, h1, h2, ?_⟩
  rw [h3, FP.Core.signed_xor]
  rfl
theorem fq_pow : ((2 ^ (FP.Core.b64.qmin - 2 * FP.Core.b64.qmin).toNat : Nat) : Int) = (fq_one : Int) := by
  rw [FP.Core.qmin_b64]; rfl
theorem fq_mulle {x y v : UInt64} (hx : fq_F x) (hy : fq_F y) (hv : fq_F v) (h : fq_Z x * fq_Z y ≤ fq_Z v * (fq_one : Int)) : fq_Z (FP.dmul x y) ≤ fq_Z v := by
  show FP.Core.zval _ (FP.Core.val64 (FP.Core.dmul x y)) ≤ _
  rw [FP.Core.val64_dmul]
  obtain ⟨sg, n, e, h1, h2, h3⟩ := fq_mulU hx hy
  rw [h1]
  refine FP.Core.zval_round_le FP.Core.good_b64 (fq_fit v) (fq_nn hv) (by rw [FP.Core.qmin_b64]; decide) h2 ?_
  rw [h3, fq_pow]
  exact h
theorem fq_mulge {x y v : UInt64} (hx : fq_F x) (hy : fq_F y) (hv : fq_F v) (h : fq_Z v * (fq_one : Int) ≤ fq_Z x * fq_Z y) : fq_Z v ≤ fq_Z (FP.dmul x y) := by
  show _ ≤ FP.Core.zval _ (FP.Core.val64 (FP.Core.dmul x y))
  rw [FP.Core.val64_dmul]
  obtain ⟨sg, n, e, h1, h2, h3⟩ := fq_mulU hx hy
  rw [h1]
  refine FP.Core.zval_round_ge FP.Core.good_b64 (fq_fit v) (fq_nn hv) (by rw [FP.Core.qmin_b64]; decide) h2 ?_
  rw [h3, fq_pow]
  exact h
/-- the number ± c * 2^k of least ones, as a double -/
theorem fq_rep (c k : Nat) (hc : c < 2 ^ 53) (hk : k ≤ 2045) (hn : k = 0 ∨ 2 ^ 52 ≤ c) : ∃ v : UInt64, fq_F v ∧ fq_Z v = ((c * 2 ^ k : Nat) : Int) := by
  have hf : FP.Core.fits FP.Core.b64 (.fin false c (FP.Core.b64.qmin + k)) := by
    refine ⟨hc, by omega, ?_, ?_⟩
    · rw [show FP.Core.b64.qmax = FP.Core.b64.qmin + 2045 by decide]; omega
    · rcases hn with h | h
      · left; omega
      · right; rw [FP.Core.tails_b64]; exact h
  refine ⟨FP.Core.of64 (.fin false c (FP.Core.b64.qmin + k)), ⟨false, c, _, FP.Core.val64_of64 hf⟩, ?_⟩
  unfold fq_Z
  rw [FP.Core.val64_of64 hf]
  show ((c * 2 ^ (FP.Core.b64.qmin + (k : Int) - FP.Core.b64.qmin).toNat : Nat) : Int) = _
  rw [show (FP.Core.b64.qmin + (k : Int) - FP.Core.b64.qmin).toNat = k by omega]
theorem fq_repP (k : Nat) (hk : k ≤ 2097) : ∃ v : UInt64, fq_F v ∧ fq_Z v = ((2 ^ k : Nat) : Int) := by
  by_cases h : k ≤ 52
  · obtain ⟨v, h1, h2⟩ := fq_rep (2 ^ k) 0 (Nat.lt_of_le_of_lt (Nat.pow_le_pow_right (by decide) h) (by decide)) (by decide) (Or.inl rfl)
    exact ⟨v, h1, by rw [h2, Nat.pow_zero, Nat.mul_one]⟩
  · obtain ⟨v, h1, h2⟩ := fq_rep (2 ^ 52) (k - 52) (by decide) (by omega) (Or.inr (Nat.le_refl _))
    exact ⟨v, h1, by rw [h2, ← Nat.pow_add, show 52 + (k - 52) = k by omega]⟩
theorem fq_abs {x : UInt64} (hx : fq_F x) : fq_F (fz_abs x) ∧ fq_Z (fz_abs x) = ((fq_Z x).natAbs : Int) := by
  have h0 : fq_F FP.dconst0 := (FP.Core.fin_bits _).mpr (by decide)
  have z0 : fq_Z FP.dconst0 = 0 := by decide +kernel
  unfold fz_abs
  by_cases h : fz_lt x FP.dconst0 = true
  · rw [if_pos h]
    have := (fq_lt hx h0).mp h
    exact ⟨fq_Fneg hx, by rw [fq_neg]; omega⟩
  · rw [if_neg h]
    have := (fq_ltF hx h0).mp (by simpa using h)
    exact ⟨hx, by omega⟩
