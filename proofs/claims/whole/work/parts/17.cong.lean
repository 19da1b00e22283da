/-! the pure words look at few places: rows that agree there give the same -/
theorem fz_pre_lt {lo k q : Nat} (g d : Nat → UInt64) (h : q < lo) : fz_pre lo k g d q = d q := by
  unfold fz_pre; rw [if_neg (by omega)]
theorem fz_put_in {b q : Nat} (f g : Nat → UInt64) (h : q < 28) : fz_put b f g (q + b) = g q := by
  unfold fz_put; rw [if_pos (by omega), Nat.add_sub_cancel]
/-- d from j on is d' from i on, over four places -/
def fz_at4 (d d' : Nat → UInt64) (j i : Nat) : Prop := d j = d' i ∧ d (j + 1) = d' (i + 1) ∧ d (j + 2) = d' (i + 2) ∧ d (j + 3) = d' (i + 3)
theorem fz_slAt_cg {lim : Nat} {d d' : Nat → UInt64} {j i : Nat} (h0 : d j = d' i) (h1 : d (j + 1) = d' (i + 1)) (h2 : d (j + 2) = d' (i + 2)) : fz_slAt lim d j = fz_slAt lim d' i := by
  unfold fz_slAt fz_dA fz_dB; rw [h0, h1, h2]
theorem fz_dry_cg {lim : Nat} {d d' : Nat → UInt64} {j i : Nat} (h0 : d j = d' i) (h1 : d (j + 1) = d' (i + 1)) (h2 : d (j + 2) = d' (i + 2)) : fz_dry lim d j = fz_dry lim d' i := by
  unfold fz_dry; rw [fz_slAt_cg h0 h1 h2, h1]
theorem fz_sHg_cg {lim : Nat} {d d' : Nat → UInt64} {j i : Nat} (h0 : d j = d' i) (h1 : d (j + 1) = d' (i + 1)) (h2 : d (j + 2) = d' (i + 2)) : fz_sHg lim d j = fz_sHg lim d' i := by
  unfold fz_sHg; rw [fz_dry_cg h0 h1 h2, fz_slAt_cg h0 h1 h2]
theorem fz_sMg_cg {lim : Nat} {d d' m m' : Nat → UInt64} {j i : Nat} (h0 : d j = d' i) (h1 : d (j + 1) = d' (i + 1)) (h2 : d (j + 2) = d' (i + 2)) (g0 : m j = m' i) (g1 : m (j + 1) = m' (i + 1)) (g2 : m (j + 2) = m' (i + 2)) : fz_sMg lim d m j = fz_sMg lim d' m' i := by
  unfold fz_sMg; rw [fz_dry_cg h0 h1 h2, fz_slAt_cg g0 g1 g2]
theorem fz_SH_1 (lim : Nat) (d : Nat → UInt64) (j : Nat) : fz_SH lim d (j + 1) = fz_sHg lim d j := rfl
theorem fz_SH_2 (lim : Nat) (d : Nat → UInt64) (j : Nat) : fz_SH lim d (j + 2) = fz_sHg lim d (j + 1) := rfl
theorem fz_SM_1 (lim : Nat) (d m : Nat → UInt64) (j : Nat) : fz_SM lim d m (j + 1) = fz_sMg lim d m j := rfl
theorem fz_SM_2 (lim : Nat) (d m : Nat → UInt64) (j : Nat) : fz_SM lim d m (j + 2) = fz_sMg lim d m (j + 1) := rfl
section CG
variable {lim : Nat} {d d' m m' : Nat → UInt64} {j i : Nat}
theorem fz_at4.s {d d' : Nat → UInt64} {j i : Nat} (h : fz_at4 d d' j i) : d (j + 1) = d' (i + 1) ∧ d (j + 1 + 1) = d' (i + 1 + 1) ∧ d (j + 1 + 2) = d' (i + 1 + 2) := ⟨h.2.1, h.2.2.1, h.2.2.2⟩
theorem fz_hL_cg (h : fz_at4 d d' j i) : fz_hL lim d j = fz_hL lim d' i := by
  show FP.dadd (d (j + 1)) (FP.dmul fz_half (fz_sHg lim d j)) = FP.dadd (d' (i + 1)) (FP.dmul fz_half (fz_sHg lim d' i))
  rw [fz_sHg_cg h.1 h.2.1 h.2.2.1, h.2.1]
theorem fz_hR_cg (h : fz_at4 d d' j i) : fz_hR lim d j = fz_hR lim d' i := by
  show FP.dsub (d (j + 2)) (FP.dmul fz_half (fz_sHg lim d (j + 1))) = FP.dsub (d' (i + 2)) (FP.dmul fz_half (fz_sHg lim d' (i + 1)))
  rw [fz_sHg_cg h.s.1 h.s.2.1 h.s.2.2, h.2.2.1]
theorem fz_mL_cg (h : fz_at4 d d' j i) (g : fz_at4 m m' j i) : fz_mL lim d m j = fz_mL lim d' m' i := by
  show FP.dadd (m (j + 1)) (FP.dmul fz_half (fz_sMg lim d m j)) = FP.dadd (m' (i + 1)) (FP.dmul fz_half (fz_sMg lim d' m' i))
  rw [fz_sMg_cg h.1 h.2.1 h.2.2.1 g.1 g.2.1 g.2.2.1, g.2.1]
theorem fz_mR_cg (h : fz_at4 d d' j i) (g : fz_at4 m m' j i) : fz_mR lim d m j = fz_mR lim d' m' i := by
  show FP.dsub (m (j + 2)) (FP.dmul fz_half (fz_sMg lim d m (j + 1))) = FP.dsub (m' (i + 2)) (FP.dmul fz_half (fz_sMg lim d' m' (i + 1)))
  rw [fz_sMg_cg h.s.1 h.s.2.1 h.s.2.2 g.s.1 g.s.2.1 g.s.2.2, g.2.2.1]
theorem fz_FHi_cg (sol : Nat) (h : fz_at4 d d' j i) (g : fz_at4 m m' j i) : fz_FHi lim sol d m j = fz_FHi lim sol d' m' i := by
  show fz_fluxH sol (fz_hL lim d j) (fz_mL lim d m j) (fz_hR lim d j) (fz_mR lim d m j) = fz_fluxH sol (fz_hL lim d' i) (fz_mL lim d' m' i) (fz_hR lim d' i) (fz_mR lim d' m' i)
  rw [fz_hL_cg h, fz_hR_cg h, fz_mL_cg h g, fz_mR_cg h g]
theorem fz_FMi_cg (sol : Nat) (h : fz_at4 d d' j i) (g : fz_at4 m m' j i) : fz_FMi lim sol d m j = fz_FMi lim sol d' m' i := by
  show fz_fluxM sol (fz_hL lim d j) (fz_mL lim d m j) (fz_hR lim d j) (fz_mR lim d m j) = fz_fluxM sol (fz_hL lim d' i) (fz_mL lim d' m' i) (fz_hR lim d' i) (fz_mR lim d' m' i)
  rw [fz_hL_cg h, fz_hR_cg h, fz_mL_cg h g, fz_mR_cg h g]
theorem fz_slOkM_cg (h0 : d j = d' i) (h1 : d (j + 1) = d' (i + 1)) (h2 : d (j + 2) = d' (i + 2)) (g0 : m j = m' i) (g1 : m (j + 1) = m' (i + 1)) (g2 : m (j + 2) = m' (i + 2)) (ok : fz_slOkM lim d' m' i) : fz_slOkM lim d m j := by
  unfold fz_slOkM at *
  have eA : fz_dA d j = fz_dA d' i := by unfold fz_dA; rw [h0, h1]
  have eB : fz_dB d j = fz_dB d' i := by unfold fz_dB; rw [h2, h1]
  have fA : fz_dA m j = fz_dA m' i := by unfold fz_dA; rw [g0, g1]
  have fB : fz_dB m j = fz_dB m' i := by unfold fz_dB; rw [g2, g1]
  rw [eA, eB, fA, fB, fz_slAt_cg h0 h1 h2, fz_slAt_cg g0 g1 g2, h1]
  exact ok
theorem fz_gsOk_cg (h : fz_at4 d d' j i) (g : fz_at4 m m' j i) (ok : fz_gsOk d' m' (fz_SH lim d') (fz_SM lim d' m') i) : fz_gsOk d m (fz_SH lim d) (fz_SM lim d m) j := by
  have e1 := fz_hL_cg (lim := lim) h
  have e2 := fz_hR_cg (lim := lim) h
  have e3 := fz_mL_cg (lim := lim) h g
  have e4 := fz_mR_cg (lim := lim) h g
  have s1 : fz_sHg lim d j = fz_sHg lim d' i := fz_sHg_cg h.1 h.2.1 h.2.2.1
  have s2 : fz_sHg lim d (j + 1) = fz_sHg lim d' (i + 1) := fz_sHg_cg h.s.1 h.s.2.1 h.s.2.2
  have s3 : fz_sMg lim d m j = fz_sMg lim d' m' i := fz_sMg_cg h.1 h.2.1 h.2.2.1 g.1 g.2.1 g.2.2.1
  have s4 : fz_sMg lim d m (j + 1) = fz_sMg lim d' m' (i + 1) := fz_sMg_cg h.s.1 h.s.2.1 h.s.2.2 g.s.1 g.s.2.1 g.s.2.2
  obtain ⟨o1, o2, o3, o4, o5, o6, o7, o8, o9, o10⟩ := ok
  refine ⟨?_, ?_, ?_, ?_, ?_, ?_, ?_, ?_, ?_, ?_⟩
  · show vf_n64 (FP.dmul fz_half (fz_sHg lim d j)); rw [s1]; exact o1
  · show vf_n64 (fz_hL lim d j); rw [e1]; exact o2
  · show vf_n64 (FP.dmul fz_half (fz_sMg lim d m j)); rw [s3]; exact o3
  · show vf_n64 (fz_mL lim d m j); rw [e3]; exact o4
  · show vf_n64 (FP.dmul fz_half (fz_sHg lim d (j + 1))); rw [s2]; exact o5
  · show vf_n64 (fz_hR lim d j); rw [e2]; exact o6
  · show vf_n64 (FP.dmul fz_half (fz_sMg lim d m (j + 1))); rw [s4]; exact o7
  · show vf_n64 (fz_mR lim d m j); rw [e4]; exact o8
  · show fz_stOk (fz_hL lim d j) (fz_mL lim d m j); rw [e1, e3]; exact o9
  · show fz_stOk (fz_hR lim d j) (fz_mR lim d m j); rw [e2, e4]; exact o10
theorem fz_fcOk_cg {sol : Nat} (h : fz_at4 d d' j i) (g : fz_at4 m m' j i) (ok : fz_fcOk lim sol d' m' i) : fz_fcOk lim sol d m j := by
  have e1 := fz_hL_cg (lim := lim) h
  have e2 := fz_hR_cg (lim := lim) h
  have e3 := fz_mL_cg (lim := lim) h g
  have e4 := fz_mR_cg (lim := lim) h g
  obtain ⟨o1, o2, o3, o4, o5, o6, o7⟩ := ok
  refine ⟨fz_slOkM_cg h.1 h.2.1 h.2.2.1 g.1 g.2.1 g.2.2.1 o1, fz_slOkM_cg h.s.1 h.s.2.1 h.s.2.2 g.s.1 g.s.2.1 g.s.2.2 o2, fz_gsOk_cg h g o3, ?_, ?_, ?_, ?_⟩
  · rw [e1, e3]; exact o4
  · rw [e2, e4]; exact o5
  · rw [e1, e2, e3, e4]; exact o6
  · rw [e1, e2, e3, e4]; exact o7
end CG
/-- rows that agree on the cells of the channel have the same cells beyond its ends -/
def fz_int (n : Nat) (d d' : Nat → UInt64) : Prop := ∀ j, j < n → d (j + 2) = d' (j + 2)
theorem fz_int.at {n q : Nat} {d d' : Nat → UInt64} (h : fz_int n d d') (h1 : 2 ≤ q) (h2 : q < n + 2) : d q = d' q := by
  have := h (q - 2) (by omega)
  rwa [Nat.sub_add_cancel h1] at this
theorem fz_ends_cg {kd n q : Nat} {sg : Bool} {d d' : Nat → UInt64} (hn : 4 ≤ n) (h : fz_int n d d') (hq : q ≤ n + 3) : fz_ends kd sg n d q = fz_ends kd sg n d' q := by
  have e1 := h.at (q := n + 1) (by omega) (by omega)
  have e2 := h.at (q := n) (by omega) (by omega)
  have e3 := h.at (q := 2) (by omega) (by omega)
  have e4 := h.at (q := 3) (by omega) (by omega)
  unfold fz_ends
  rw [e1, e2, e3, e4]
  by_cases hq1 : q = 1
  · subst hq1; rfl
  by_cases hq0 : q = 0
  · subst hq0; rfl
  by_cases hq2 : q = n + 2
  · subst hq2; simp
  by_cases hq3 : q = n + 3
  · subst hq3; simp
  have e := h.at (q := q) (by omega) (by omega)
  simp [hq1, hq0, hq2, hq3, e]
theorem fz_at4_p {b j : Nat} {f E : Nat → UInt64} (hj : j ≤ 24) : fz_at4 (fz_put b f E) E (j + b) j := by
  have key : ∀ q, q ≤ 3 → fz_put b f E (j + b + q) = E (j + q) := fun q hq => by
    rw [show j + b + q = (j + q) + b by omega, fz_put_in _ _ (by omega)]
  exact ⟨key 0 (by omega), key 1 (by omega), key 2 (by omega), key 3 (by omega)⟩
theorem fz_at4_pp {b lo k j : Nat} {g f E : Nat → UInt64} (hb : b + 28 ≤ lo) (hj : j ≤ 24) : fz_at4 (fz_pre lo k g (fz_put b f E)) E (j + b) j := by
  have key : ∀ q, q ≤ 3 → fz_pre lo k g (fz_put b f E) (j + b + q) = E (j + q) := fun q hq => by
    rw [fz_pre_lt _ _ (by omega), show j + b + q = (j + q) + b by omega, fz_put_in _ _ (by omega)]
  exact ⟨key 0 (by omega), key 1 (by omega), key 2 (by omega), key 3 (by omega)⟩
theorem fz_rdpp {b lo k j : Nat} {g f E : Nat → UInt64} (hb : b + 28 ≤ lo) (hj : j ≤ 24) : fz_pre lo k g (fz_put b f E) (j + 2 + b) = E (j + 2) := by
  rw [fz_pre_lt _ _ (by omega), fz_put_in _ _ (by omega)]
