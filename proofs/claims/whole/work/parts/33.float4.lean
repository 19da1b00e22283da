/-! the root: above 2^-k after k rounds, and not large -/
theorem fq_halfge {x v w : UInt64} (hx : fq_F x) (hv : fq_F v) (h : fq_Z v * 2 ≤ fq_Z x) : fq_Z v ≤ fq_Z (FP.dmul fz_half x) := by
  refine fq_mulge fq_Fh hx hv ?_
  rw [fq_Zh, show (fq_one : Int) = 2 * ((2 ^ 1073 : Nat) : Int) from by decide +kernel]
  have := Int.mul_le_mul_of_nonneg_right h (Int.natCast_nonneg (2 ^ 1073))
  rw [Int.mul_comm (((2 ^ 1073 : Nat) : Int)), ← Int.mul_assoc]
  exact this
theorem fq_halfle {x v : UInt64} (hx : fq_F x) (hv : fq_F v) (h : fq_Z x ≤ fq_Z v * 2) : fq_Z (FP.dmul fz_half x) ≤ fq_Z v := by
  refine fq_mulle fq_Fh hx hv ?_
  rw [fq_Zh, show (fq_one : Int) = 2 * ((2 ^ 1073 : Nat) : Int) from by decide +kernel]
  have := Int.mul_le_mul_of_nonneg_right h (Int.natCast_nonneg (2 ^ 1073))
  rw [Int.mul_comm (((2 ^ 1073 : Nat) : Int)), ← Int.mul_assoc]
  exact this
/-- depths: at least 0.01, below 2^(k-1023) -/
def fq_dep (k : Nat) (x : UInt64) : Prop := fq_b k x ∧ fq_Z fz_c01 ≤ fq_Z x
theorem fq_dep.pos {k : Nat} {x : UInt64} (h : fq_dep k x) : ((2 ^ 1067 : Nat) : Int) ≤ fq_Z x := Int.le_trans fq_Zc h.2
theorem fq_dep.gt {k : Nat} {x : UInt64} (h : fq_dep k x) : 0 < fq_Z x := Int.lt_of_lt_of_le (by exact_mod_cast Nat.two_pow_pos 1067) h.pos
theorem fq_dep.mono {j k : Nat} {x : UInt64} (h : fq_dep j x) (hk : j ≤ k) : fq_dep k x := ⟨h.1.mono hk, h.2⟩
theorem fq_dep.big {k : Nat} {x : UInt64} (h : fq_dep k x) (hk : k ≤ 2047) : 1016 * 2 ^ 52 ≤ x.toNat % 2 ^ 63 := by
  refine fq_gof (h.1.f hk) (by decide) ?_
  have := h.pos
  rw [← Nat.pow_add]
  show 2 ^ 1067 ≤ _
  generalize 2 ^ 1067 = P at *
  omega
theorem fq_big {x : UInt64} {k : Nat} (hx : fq_F x) (hk : 52 ≤ k) (h : ((2 ^ k : Nat) : Int) ≤ fq_Z x) : (k - 51) * 2 ^ 52 ≤ x.toNat % 2 ^ 63 := by
  refine fq_gof hx (by omega) ?_
  rw [← Nat.pow_add, show 52 + (k - 51 - 1) = k by omega]
  generalize 2 ^ k = P at *
  omega
theorem fq_dep.lt0 {k : Nat} {x : UInt64} (h : fq_dep k x) (hk : k ≤ 2047) : fz_lt FP.dconst0 x = true := (fq_lt fq_F0 (h.1.f hk)).mpr (by rw [fq_Z0]; exact h.gt)
theorem fq_rootS {x : UInt64} (hx : fq_dep 1090 x) : ∀ k, k ≤ 14 → fq_b (1110 + 3 * k) (fz_rootN x k) ∧ ((2 ^ (1074 - k) : Nat) : Int) ≤ fq_Z (fz_rootN x k) := by
  have fx := hx.1.f (by decide)
  intro k
  induction k with
  | zero =>
    intro _
    unfold fz_rootN
    by_cases h : fz_lt x FP.dconst1 = true
    · rw [if_pos h]; exact ⟨fq_bc1.mono (by decide), by rw [fq_Z1]; exact Int.le_refl _⟩
    · rw [if_neg h]
      have := (fq_ltF fx fq_F1).mp (by simpa using h)
      rw [fq_Z1] at this
      exact ⟨hx.1.mono (by decide), this⟩
  | succ k ih =>
    intro hk
    obtain ⟨i1, i2⟩ := ih (by omega)
    rw [show fz_rootN x (k + 1) = FP.dmul fz_half (FP.dadd (fz_rootN x k) (FP.ddiv x (fz_rootN x k))) from rfl]
    generalize fz_rootN x k = r at *
    have fr := i1.f (by omega)
    have hb := fq_big fr (k := 1074 - k) (by omega) i2
    have rp : 0 < fq_Z r := Int.lt_of_lt_of_le (by exact_mod_cast Nat.two_pow_pos _) i2
    have d1 := (fq_div hx.1 hb fr (by decide) (by omega)).mono (k := 1110 + 3 * k) (by omega)
    have d2 := fq_add i1 d1 (by omega)
    have d3 := fq_mul fq_bh d2 (by decide) (by omega)
    refine ⟨d3.mono (by omega), ?_⟩
    have q0 := fq_quoP fx fr (Int.le_of_lt hx.gt) rp
    have a1 := fq_addge fr (d1.f (by omega)) fr (by omega)
    obtain ⟨v, v1, v2⟩ := fq_repP (1074 - (k + 1)) (by omega)
    have := fq_halfge (w := v) (d2.f (by omega)) v1 (by
      rw [v2]
      have e : ((2 ^ (1074 - (k + 1)) : Nat) : Int) * 2 = ((2 ^ (1074 - k) : Nat) : Int) := by
        rw [show 1074 - k = 1074 - (k + 1) + 1 by omega, Nat.pow_succ]; push_cast; rfl
      rw [e]
      exact Int.le_trans i2 a1)
    rw [v2] at this
    exact this
theorem fq_rootOk {x : UInt64} (hx : fq_dep 1090 x) : fz_rootOk x := fun k hk => by
  have fx := hx.1.f (by decide)
  obtain ⟨i1, i2⟩ := fq_rootS hx k (by omega)
  have fr := i1.f (by omega)
  have hb := fq_big fr (k := 1074 - k) (by omega) i2
  have d1 := (fq_div hx.1 hb fr (by decide) (by omega)).mono (k := 1110 + 3 * k) (by omega)
  have d2 := fq_add i1 d1 (by omega)
  have d3 := fq_mul fq_bh d2 (by decide) (by omega)
  refine ⟨(fq_lt fq_F0 fr).mpr ?_, d1.n (by omega), d2.n (by omega), d3.n (by omega)⟩
  rw [fq_Z0]
  exact Int.lt_of_lt_of_le (by exact_mod_cast Nat.two_pow_pos _) i2
theorem fq_root {x : UInt64} (hx : fq_dep 1090 x) : fq_b 1152 (fz_root x) ∧ ((2 ^ 1060 : Nat) : Int) ≤ fq_Z (fz_root x) := fq_rootS hx 14 (by decide)
theorem fq_u {k : Nat} {h m : UInt64} (hh : fq_dep k h) (hk : k ≤ 2047) {j : Nat} (hm : fq_b j m) (hj : j ≤ 2000) : fq_b (j + 8) (FP.ddiv m h) := (fq_div hm (hh.big hk) (hh.1.f hk) (by omega) (by decide)).mono (by omega)
theorem fq_stOk {h m : UInt64} (hh : fq_dep 1090 h) {j : Nat} (hm : fq_b j m) (hj : j ≤ 2000) : fz_stOk h m := ⟨hh.lt0 (by decide), (fq_u hh (by decide) hm hj).n (by omega), fq_rootOk hh⟩
theorem fq_babs {k : Nat} {x : UInt64} (h : fq_b k x) (hk : k ≤ 2047) (hk1 : 1 ≤ k) : fq_b k (fz_abs x) := by
  unfold fz_abs; split
  · exact fq_bneg h hk hk1
  · exact h
/-- the reach: positive -/
theorem fq_reach {u c : UInt64} (hu : fq_b 1152 u) (hc : fq_b 1152 c) (hc0 : ((2 ^ 1060 : Nat) : Int) ≤ fq_Z c) : fq_b 1154 (fz_reach u c) ∧ ((2 ^ 1060 : Nat) : Int) ≤ fq_Z (fz_reach u c) := by
  have fu := hu.f (by decide)
  obtain ⟨f1, z1⟩ := fq_abs fu
  refine ⟨fq_add (fq_babs hu (by decide) (by decide)) hc (by decide), ?_⟩
  have := fq_addge f1 (hc.f (by decide)) (hc.f (by decide)) (by rw [z1]; omega)
  exact Int.le_trans hc0 this
