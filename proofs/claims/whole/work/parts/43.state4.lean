/-! cells, put, and the numbers that a script holds -/
theorem fq_S_upd {d : Nat → UInt64} {i : Nat} {x : UInt64} : ∀ n, fq_S (vf_upd d (i + 2) x) n = if i < n then fq_S d n - fq_Z (d (i + 2)) + fq_Z x else fq_S d n := by
  intro n
  induction n with
  | zero => rw [if_neg (by omega)]; rfl
  | succ n ih =>
    unfold fq_S
    rw [ih]
    by_cases h1 : i < n
    · rw [if_pos h1, if_pos (by omega)]
      have : vf_upd d (i + 2) x (n + 2) = d (n + 2) := if_neg (by omega)
      rw [this]; omega
    · rw [if_neg h1]
      by_cases h2 : i = n
      · subst h2
        have : vf_upd d (i + 2) x (i + 2) = x := if_pos rfl
        rw [this, if_pos (by omega)]; omega
      · have : vf_upd d (i + 2) x (n + 2) = d (n + 2) := if_neg (by omega)
        rw [this, if_neg (by omega)]
theorem fq_St.put {S : Int} {n i : Nat} {d m : Nat → UInt64} {x y : UInt64} (h : fq_St S n d m) (hi : i < n) (hc : fq_cell x y) (hx : fq_Z x ≤ 20 * (fq_one : Int)) : fq_St (S + 2 ^ 32 * (fq_one : Int)) n (vf_upd d (i + 2) x) (vf_upd m (i + 2) y) := by
  refine ⟨fun j hj => ?_, ?_⟩
  · by_cases e : j = i
    · subst e
      have e1 : vf_upd d (j + 2) x (j + 2) = x := if_pos rfl
      have e2 : vf_upd m (j + 2) y (j + 2) = y := if_pos rfl
      rw [e1, e2]; exact hc
    · have e1 : vf_upd d (i + 2) x (j + 2) = d (j + 2) := if_neg (by omega)
      have e2 : vf_upd m (i + 2) y (j + 2) = m (j + 2) := if_neg (by omega)
      rw [e1, e2]; exact h.1 j hj
  · rw [fq_S_upd, if_pos hi]
    have p := (h.1 i hi).pos
    have s := h.2
    have hO := fq_oneI
    generalize (fq_one : Int) = O at *
    omega
theorem fz_int.upd {n i : Nat} {d d' : Nat → UInt64} {x : UInt64} (h : fz_int n d' d) : fz_int n (vf_upd d' (i + 2) x) (vf_upd d (i + 2) x) := fun j hj => by
  unfold vf_upd
  split
  · rfl
  · exact h j hj
theorem fq_c1 : fq_cell FP.dconst1 FP.dconst0 := by
  refine ⟨fq_F1, fq_F0, ?_, ?_, ?_⟩ <;> decide +kernel
theorem fq_St1 {n : Nat} {d m : Nat → UInt64} (hn : n ≤ 24) (hd : ∀ j, j < n → d (j + 2) = FP.dconst1) (hm : ∀ j, j < n → m (j + 2) = FP.dconst0) : fq_St (2 ^ 32 * (fq_one : Int)) n d m := by
  refine ⟨fun j hj => by rw [hd j hj, hm j hj]; exact fq_c1, ?_⟩
  have k : ∀ k, k ≤ n → fq_S d k = (k : Int) * (fq_one : Int) := by
    intro k
    induction k with
    | zero => intro _; rw [show ((0 : Nat) : Int) = 0 from rfl, Int.zero_mul]; rfl
    | succ k ih =>
      intro hk
      unfold fq_S
      rw [ih (by omega), hd k (by omega), fq_Z1]
      push_cast
      rw [Int.add_mul, Int.one_mul]
  rw [k n (Nat.le_refl _)]
  exact Int.mul_le_mul_of_nonneg_right (by omega) (Int.natCast_nonneg _)
theorem fq_tm0 : fq_tm 0 FP.dconst0 := ⟨fq_F0, by rw [fq_Z0]; exact Int.le_refl _, by rw [fq_Z0]; exact Int.le_refl _⟩
/-! numbers of a script: an int times 0.125 -/
abbrev fq_e8 (v : Int32) : UInt64 := FP.dmul (FP.i2d v) 4593671619917905920
theorem fq_be : fq_b 1021 4593671619917905920 := by unfold fq_b; decide
theorem fq_Fe : fq_F 4593671619917905920 := fq_be.f (by decide)
theorem fq_Ze : fq_Z 4593671619917905920 = ((2 ^ 1071 : Nat) : Int) := by decide +kernel
theorem fq_bi (v : Int32) : fq_b 1056 (FP.i2d v) := FP.Core.i2d_mag v
theorem fq_b8 (v : Int32) : fq_b 1056 (fq_e8 v) := (fq_mul (fq_bi v) fq_be (by decide) (by decide)).mono (by decide)
theorem fq_F8 (v : Int32) : fq_F (fq_e8 v) := (fq_b8 v).f (by decide)
theorem fq_n8 (v : Int32) : vf_n64 (fq_e8 v) := (fq_b8 v).n (by decide)
theorem fq_F10 : fq_F 4621819117588971520 := (FP.Core.fin_bits _).mpr (by decide)
theorem fq_Z10 : fq_Z 4621819117588971520 = 10 * (fq_one : Int) := by decide +kernel
theorem fq_sp8 {v : Int32} (h : fz_span (fq_e8 v) = 1) : fq_span (fq_e8 v) := by
  unfold fz_span at h
  have h2 : fz_lt FP.dconst0 (fq_e8 v) = true ∧ fz_le (fq_e8 v) 4621819117588971520 = true := by
    by_cases q : fz_lt FP.dconst0 (fq_e8 v) = true ∧ fz_le (fq_e8 v) 4621819117588971520 = true
    · exact q
    · rw [if_neg q] at h; exact absurd h (by decide)
  have f := fq_F8 v
  have fi := (fq_bi v).f (by decide)
  have l := (fq_lt fq_F0 f).mp h2.1
  have u := (fq_le f fq_F10).mp h2.2
  rw [fq_Z0] at l
  rw [fq_Z10] at u
  have zi : 0 < fq_Z (FP.i2d v) := by
    refine Int.not_le.mp fun hn => ?_
    have := fq_mulle fi fq_Fe fq_F0 (by
      rw [fq_Z0, Int.zero_mul]
      exact Int.mul_nonpos_of_nonpos_of_nonneg hn (by rw [fq_Ze]; exact Int.natCast_nonneg _))
    rw [fq_Z0] at this
    exact absurd l (Int.not_lt.mpr this)
  have v0 : v ≠ 0 := by
    intro hv
    rw [hv] at zi
    have : fq_Z (FP.i2d 0) = 0 := by decide +kernel
    omega
  have bg := (FP.Core.i2d_big (FP.Core.int32_ne v0)).1
  have zb : ((2 ^ 1074 : Nat) : Int) ≤ fq_Z (FP.i2d v) := by
    refine Int.not_lt.mp fun hn => ?_
    have hb : fq_b 1023 (FP.i2d v) := by
      refine fq_bof fi (by decide) ?_
      rw [← Nat.pow_add]
      show _ < 2 ^ 1074
      generalize (2 : Nat) ^ 1074 = P at *
      omega
    unfold fq_b at hb
    exact absurd hb (Nat.not_lt.mpr bg)
  obtain ⟨w, w1, w2⟩ := fq_repP 941 (by decide)
  have lo := fq_mulge fi fq_Fe w1 (by
    rw [w2, fq_Ze]
    have a : ((2 ^ 941 : Nat) : Int) * (fq_one : Int) ≤ ((2 ^ 1074 : Nat) : Int) * ((2 ^ 1071 : Nat) : Int) := by decide +kernel
    exact Int.le_trans a (Int.mul_le_mul_of_nonneg_right zb (Int.natCast_nonneg _)))
  rw [w2] at lo
  exact ⟨f, lo, u⟩
theorem fq_F20 : fq_F 4626322717216342016 := (FP.Core.fin_bits _).mpr (by decide)
theorem fq_Z20 : fq_Z 4626322717216342016 = 20 * (fq_one : Int) := by decide +kernel
theorem fq_F50 : fq_F 4632233691727265792 := (FP.Core.fin_bits _).mpr (by decide)
theorem fq_Z50 : fq_Z 4632233691727265792 ≤ ((1000 * 2 ^ 1074 : Nat) : Int) := by decide +kernel
theorem fq_F50n : fq_F 13855605728582041600 := (FP.Core.fin_bits _).mpr (by decide)
theorem fq_Z50n : -((1000 * 2 ^ 1074 : Nat) : Int) ≤ fq_Z 13855605728582041600 := by decide +kernel
theorem fq_Zec : fq_Z fz_c01 ≤ fq_Z 4593671619917905920 := by decide +kernel
theorem fq_cput {x y : UInt64} (fx : fq_F x) (fy : fq_F y) (h1 : fz_le 4593671619917905920 x = true) (h2 : fz_le x 4626322717216342016 = true) (h3 : fz_le 13855605728582041600 y = true) (h4 : fz_le y 4632233691727265792 = true) : fq_cell x y ∧ fq_Z x ≤ 20 * (fq_one : Int) := by
  have a1 := (fq_le fq_Fe fx).mp h1
  have a2 := (fq_le fx fq_F20).mp h2
  have a3 := (fq_le fq_F50n fy).mp h3
  have a4 := (fq_le fy fq_F50).mp h4
  rw [fq_Z20] at a2
  exact ⟨⟨fx, fy, Int.le_trans fq_Zec a1, Int.le_trans a4 fq_Z50, Int.le_trans fq_Z50n a3⟩, a2⟩
