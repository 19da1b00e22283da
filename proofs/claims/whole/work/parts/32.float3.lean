/-! rounding errors, quotients, the root -/
def fq_rnd (P : Nat) (E : Int) (r : UInt64) : Prop := ∀ v, fq_F v → (fq_Z v * (P : Int) ≤ E → fq_Z v ≤ fq_Z r) ∧ (E ≤ fq_Z v * (P : Int) → fq_Z r ≤ fq_Z v)
theorem fq_rsub {x y : UInt64} (hx : fq_F x) (hy : fq_F y) : fq_rnd 1 (fq_Z x - fq_Z y) (FP.dsub x y) := fun v hv => ⟨fun h => fq_subge hx hy hv (by omega), fun h => fq_suble hx hy hv (by omega)⟩
theorem fq_radd {x y : UInt64} (hx : fq_F x) (hy : fq_F y) : fq_rnd 1 (fq_Z x + fq_Z y) (FP.dadd x y) := fun v hv => ⟨fun h => fq_addge hx hy hv (by omega), fun h => fq_addle hx hy hv (by omega)⟩
theorem fq_rmul {x y : UInt64} (hx : fq_F x) (hy : fq_F y) : fq_rnd fq_one (fq_Z x * fq_Z y) (FP.dmul x y) := fun v hv => ⟨fun h => fq_mulge hx hy hv h, fun h => fq_mulle hx hy hv h⟩
theorem fq_rnd.neg {P : Nat} {E : Int} {r : UInt64} (h : fq_rnd P E r) : fq_rnd P (-E) (FP.dneg r) := fun v hv => by
  have := h (FP.dneg v) (fq_Fneg hv)
  rw [fq_neg, Int.neg_mul] at this
  rw [fq_neg]
  exact ⟨fun q => by have := this.2 (by omega); omega, fun q => by have := this.1 (by omega); omega⟩
theorem fq_rnd_pos {P E : Nat} {r : UInt64} (hP : 0 < P) (h : fq_rnd P (E : Int) r) (hE : E < 2 ^ 2097 * P) : 0 ≤ fq_Z r ∧ (fq_Z r * (P : Int) - (E : Int)).natAbs * 2 ^ 52 ≤ E + 2 ^ 52 * P := by
  have z0 : 0 ≤ fq_Z r := by
    have := (h FP.dconst0 fq_F0).1 (by rw [fq_Z0]; omega)
    rwa [fq_Z0] at this
  refine ⟨z0, ?_⟩
  have key : ∀ c k : Nat, (∃ v, fq_F v ∧ fq_Z v = ((c * 2 ^ k : Nat) : Int)) → (∃ v, fq_F v ∧ fq_Z v = (((c + 1) * 2 ^ k : Nat) : Int)) → c * 2 ^ k * P ≤ E → E ≤ (c + 1) * 2 ^ k * P → 2 ^ k * P * 2 ^ 52 ≤ E + 2 ^ 52 * P → (fq_Z r * (P : Int) - (E : Int)).natAbs * 2 ^ 52 ≤ E + 2 ^ 52 * P := by
    intro c k ⟨v, v1, v2⟩ ⟨w, w1, w2⟩ l1 l2 l3
    have h1 := (h v v1).1 (by rw [v2]; exact_mod_cast l1)
    have h2 := (h w w1).2 (by rw [w2]; exact_mod_cast l2)
    obtain ⟨z, hz⟩ := Int.eq_ofNat_of_zero_le z0
    rw [hz] at h1 h2 ⊢
    rw [v2] at h1
    rw [w2] at h2
    have h1 : c * 2 ^ k ≤ z := by exact_mod_cast h1
    have h2 : z ≤ (c + 1) * 2 ^ k := by exact_mod_cast h2
    have g1 := Nat.mul_le_mul_right P h1
    have g2 := Nat.mul_le_mul_right P h2
    have e : ((z : Int) * (P : Int)) = ((z * P : Nat) : Int) := by push_cast; rfl
    rw [e]
    rw [Nat.add_mul, Nat.one_mul, Nat.add_mul] at g2 l2
    generalize z * P = zp at *
    generalize c * 2 ^ k * P = cp at *
    generalize 2 ^ k * P = kp at *
    refine Nat.le_trans (Nat.mul_le_mul_right _ (?_ : _ ≤ kp)) l3
    omega
  have hn : E / P < 2 ^ 2097 := (Nat.div_lt_iff_lt_mul hP).mpr hE
  have d1 : E / P * P ≤ E := Nat.div_mul_le_self _ _
  have d2 : E < (E / P + 1) * P := by rw [Nat.mul_comm]; exact Nat.lt_mul_div_succ E hP
  generalize hnn : E / P = n at *
  by_cases hs : n < 2 ^ 53
  · refine key n 0 ?_ ?_ (by rw [Nat.pow_zero, Nat.mul_one]; exact d1) (by rw [Nat.pow_zero, Nat.mul_one]; exact Nat.le_of_lt d2) (by rw [Nat.pow_zero, Nat.one_mul, Nat.mul_comm]; omega)
    · exact fq_rep n 0 hs (by decide) (Or.inl rfl)
    · by_cases he : n + 1 = 2 ^ 53
      · obtain ⟨v, v1, v2⟩ := fq_repP 53 (by decide)
        exact ⟨v, v1, by rw [v2, he, Nat.pow_zero, Nat.mul_one]⟩
      · exact fq_rep (n + 1) 0 (by omega) (by decide) (Or.inl rfl)
  · have hn0 : n ≠ 0 := by omega
    have l1 : 53 ≤ n.log2 := (Nat.le_log2 hn0).mpr (by omega)
    have l2 : n.log2 < 2097 := (Nat.log2_lt hn0).mpr hn
    have p1 : 2 ^ n.log2 ≤ n := Nat.log2_self_le hn0
    have p2 : n < 2 ^ (n.log2 + 1) := Nat.lt_log2_self
    generalize n.log2 = L at *
    obtain ⟨k, rfl⟩ : ∃ k, L = 52 + k := ⟨L - 52, by omega⟩
    have hk := Nat.two_pow_pos k
    have c1 : 2 ^ 52 ≤ n / 2 ^ k := (Nat.le_div_iff_mul_le hk).mpr (by rw [← Nat.pow_add]; exact p1)
    have c2 : n / 2 ^ k < 2 ^ 53 := (Nat.div_lt_iff_lt_mul hk).mpr (by rw [← Nat.pow_add, show 53 + k = 52 + k + 1 by omega]; exact p2)
    have e1 : n / 2 ^ k * 2 ^ k ≤ n := Nat.div_mul_le_self _ _
    have e2 : n < (n / 2 ^ k + 1) * 2 ^ k := by rw [Nat.mul_comm]; exact Nat.lt_mul_div_succ n hk
    generalize n / 2 ^ k = c at *
    refine key c k (fq_rep c k c2 (by omega) (Or.inr c1)) ?_ (Nat.le_trans (Nat.mul_le_mul_right P e1) d1) (Nat.le_trans (Nat.le_of_lt d2) (Nat.mul_le_mul_right P e2)) ?_
    · by_cases he : c + 1 = 2 ^ 53
      · obtain ⟨v, v1, v2⟩ := fq_repP (53 + k) (by omega)
        exact ⟨v, v1, by rw [v2, he, Nat.pow_add]⟩
      · exact fq_rep (c + 1) k (by omega) (by omega) (Or.inr (by omega))
    · have g1 : 2 ^ 52 * 2 ^ k ≤ n := by rw [← Nat.pow_add]; exact p1
      have g2 := Nat.mul_le_mul_right P g1
      rw [Nat.mul_comm, ← Nat.mul_assoc]
      omega
theorem fq_rnd.err {P : Nat} {E : Int} {r : UInt64} (hP : 0 < P) (h : fq_rnd P E r) (hE : E.natAbs < 2 ^ 2097 * P) : (fq_Z r * (P : Int) - E).natAbs * 2 ^ 52 ≤ E.natAbs + 2 ^ 52 * P := by
  rcases Int.le_total 0 E with h0 | h0
  · obtain ⟨e, rfl⟩ := Int.eq_ofNat_of_zero_le h0
    exact (fq_rnd_pos hP h hE).2
  · have h' := h.neg
    obtain ⟨e, he⟩ := Int.eq_ofNat_of_zero_le (show 0 ≤ -E by omega)
    have hE' : E.natAbs = e := by omega
    rw [hE'] at hE ⊢
    rw [he] at h'
    have := (fq_rnd_pos hP h' hE).2
    rw [fq_neg] at this
    have e2 : (-fq_Z r * (P : Int) - (e : Int)).natAbs = (fq_Z r * (P : Int) - E).natAbs := by
      rw [Int.neg_mul]; omega
    rw [e2] at this
    exact this
theorem fq_ZP {x : UInt64} (hx : fq_F x) : (fq_Z x).natAbs < 2 ^ 2098 := by
  rw [fq_Zabs]
  refine Nat.lt_of_lt_of_le hx.zval_lt ?_
  rw [FP.Core.tails_b64, show FP.Core.b64.exps - 2 = 2046 by decide, ← Nat.pow_add]
  exact Nat.le_refl _
/-! quotients -/
theorem fq_quo {x y : UInt64} (hx : fq_F x) (hy : fq_F y) (h0 : fq_Z y ≠ 0) : ∃ s A B e, FP.Core.val64 (FP.ddiv x y) = FP.Core.roundRatio FP.Core.b64 s A B e ∧ 0 < B ∧ ∃ e0, e0 ≤ FP.Core.b64.qmin ∧ e0 ≤ e ∧ FP.Core.inUnits A e e0 = (fq_Z x).natAbs * fq_one ∧ (2 ^ (FP.Core.b64.qmin - e0).toNat * B : Nat) = (fq_Z y).natAbs ∧ (0 ≤ fq_Z x → 0 < fq_Z y → s = true → fq_Z x = 0) := by
  have fx := fq_fit x
  have fy := fq_fit y
  have ax := fq_Zabs x
  have ay := fq_Zabs y
  obtain ⟨s, c, q, ex⟩ := hx
  obtain ⟨t, d, r, ey⟩ := hy
  have hq : FP.Core.val64 (FP.ddiv x y) = FP.Core.quotient FP.Core.b64 (FP.Core.val64 x) (FP.Core.val64 y) := FP.Core.val64_ddiv x y
  have zx : fq_Z x = FP.Core.signed s (FP.Core.zmag FP.Core.b64 (.fin s c q)) := by unfold fq_Z; rw [ex]; rfl
  have zy : fq_Z y = FP.Core.signed t (FP.Core.zmag FP.Core.b64 (.fin t d r)) := by unfold fq_Z; rw [ey]; rfl
  rw [ex] at hq fx ax
  rw [ey] at hq fy ay
  have mx : FP.Core.zmag FP.Core.b64 (.fin s c q) = c * 2 ^ (q - FP.Core.b64.qmin).toNat := rfl
  have my : FP.Core.zmag FP.Core.b64 (.fin t d r) = d * 2 ^ (r - FP.Core.b64.qmin).toNat := rfl
  have hd : d ≠ 0 := by
    intro hd
    rw [my, hd, Nat.zero_mul] at ay
    omega
  rw [show FP.Core.quotient FP.Core.b64 (.fin s c q) (.fin t d r) = FP.Core.roundRatio FP.Core.b64 (s != t) c d (q - r) from if_neg hd] at hq
  have q1 : FP.Core.b64.qmin ≤ q := fx.2.1
  have r1 : FP.Core.b64.qmin ≤ r := fy.2.1
  have qn := FP.Core.qmin_b64
  refine ⟨_, _, _, _, hq, Nat.pos_of_ne_zero hd, 2 * FP.Core.b64.qmin - r, by omega, by omega, ?_, ?_, ?_⟩
  · rw [ax, mx]
    show c * 2 ^ (q - r - (2 * FP.Core.b64.qmin - r)).toNat = _
    rw [show (q - r - (2 * FP.Core.b64.qmin - r)).toNat = (q - FP.Core.b64.qmin).toNat + 1074 by omega, Nat.pow_add, Nat.mul_assoc]
  · rw [ay, my, show (FP.Core.b64.qmin - (2 * FP.Core.b64.qmin - r)).toNat = (r - FP.Core.b64.qmin).toNat by omega, Nat.mul_comm]
  · intro h1 h2 h3
    rw [zx] at h1 ⊢
    rw [zy] at h2
    have ht : t = false := by
      cases t with
      | false => rfl
      | true => simp only [FP.Core.signed, if_true] at h2; omega
    have hs : s = true := by
      cases s with
      | true => rfl
      | false => rw [ht] at h3; exact absurd h3 (by decide)
    rw [hs] at h1 ⊢
    simp only [FP.Core.signed, if_true] at h1 ⊢
    omega
theorem fq_quole {x y v : UInt64} (hx : fq_F x) (hy : fq_F y) (hv : fq_F v) (h0 : fq_Z y ≠ 0) (h : (fq_Z x).natAbs * fq_one ≤ (fq_Z v).natAbs * (fq_Z y).natAbs) : (fq_Z (FP.ddiv x y)).natAbs ≤ (fq_Z v).natAbs := by
  obtain ⟨s, A, B, e, h1, hB, e0, h2, h3, h4, h5, _⟩ := fq_quo hx hy h0
  rw [fq_Zabs, fq_Zabs, h1]
  refine FP.Core.zmag_roundRatio_le FP.Core.good_b64 hB (fq_fit v) (fq_nn hv) h2 h3 ?_
  rw [h4, Nat.mul_assoc, h5, ← fq_Zabs]
  exact h
theorem fq_quoge {x y v : UInt64} (hx : fq_F x) (hy : fq_F y) (h0 : fq_Z y ≠ 0) (h : (fq_Z v).natAbs * (fq_Z y).natAbs ≤ (fq_Z x).natAbs * fq_one) : (fq_Z v).natAbs ≤ (fq_Z (FP.ddiv x y)).natAbs := by
  obtain ⟨s, A, B, e, h1, hB, e0, h2, h3, h4, h5, _⟩ := fq_quo hx hy h0
  rw [fq_Zabs, fq_Zabs, h1]
  refine FP.Core.zmag_roundRatio_ge FP.Core.good_b64 hB (fq_fit v) h2 h3 ?_
  rw [h4, Nat.mul_assoc, h5, ← fq_Zabs]
  exact h
theorem fq_quoP {x y : UInt64} (hx : fq_F x) (hy : fq_F y) (hx0 : 0 ≤ fq_Z x) (hy0 : 0 < fq_Z y) : 0 ≤ fq_Z (FP.ddiv x y) := by
  by_cases hz : fq_Z x = 0
  · have := fq_quole hx hy fq_F0 (by omega) (by rw [hz, fq_Z0, Int.natAbs_zero, Nat.zero_mul, Nat.zero_mul]; exact Nat.le_refl _)
    rw [fq_Z0] at this
    omega
  · obtain ⟨s, A, B, e, h1, hB, e0, h2, h3, h4, h5, h6⟩ := fq_quo hx hy (by omega)
    unfold fq_Z
    rw [h1]
    unfold FP.Core.zval
    rw [FP.Core.sgn_roundRatio]
    cases s with
    | true => exact absurd (h6 hx0 hy0 rfl) hz
    | false => exact Int.natCast_nonneg _
/-- a quotient that is no more than a finite number is finite -/
theorem fq_quoF {x y v : UInt64} (hx : fq_F x) (hy : fq_F y) (hv : fq_F v) (h0 : fq_Z y ≠ 0) (h : (fq_Z x).natAbs * fq_one ≤ (fq_Z v).natAbs * (fq_Z y).natAbs) : fq_F (FP.ddiv x y) := by
  have h1 := fq_quole hx hy hv h0 h
  have h2 := fq_quo hx hy h0
  obtain ⟨s, A, B, e, h3, _⟩ := h2
  rcases FP.Core.roundRatio_cases FP.Core.b64 s A B e with ⟨c, q, h4⟩ | h4
  · exact ⟨s, c, q, by rw [h3, h4]⟩
  · exfalso
    rw [fq_Zabs, fq_Zabs, h3, h4] at h1
    have := hv.zval_lt
    have e1 : FP.Core.zmag FP.Core.b64 (.inf s) = FP.Core.b64.tails * 2 ^ (FP.Core.b64.exps - 2) := rfl
    omega
