/-! a stage is safe -/
theorem fq_FH {lim sol n : Nat} {d m : Nat → UInt64} (hl : lim ≤ 3) (hs : sol ≤ 1) (h : fq_row n d m) : (∀ k, k ≤ n → fz_fcOk lim sol d m k) ∧ fz_msOk lim sol n d m ∧ ∀ k, k ≤ n → fq_b 1364 (fz_FHi lim sol d m k) ∧ fq_b 1364 (fz_FMi lim sol d m k) := by
  have sl : ∀ j, j < n + 2 → fz_slOkM lim d m j := fun j hj => fq_slOkM hl (h j (by omega)) (h (j + 1) (by omega)) (h (j + 2) (by omega))
  have fa : ∀ j, j < n + 2 → fq_face d m (fz_SH lim d) (fz_SM lim d m) (j + 1) := fun j hj => fq_faceAt (h j (by omega)) (h (j + 1) (by omega)) (h (j + 2) (by omega))
  have sd : ∀ k, k ≤ n → fq_side (fz_hL lim d k) (fz_mL lim d m k) ∧ fq_side (fz_hR lim d k) (fz_mR lim d m k) := fun k hk => by
    have f1 := fa k (by omega)
    have f2 := fa (k + 1) (by omega)
    exact ⟨⟨f1.2.1, f1.2.2.2.2.1⟩, ⟨f2.2.2.1, f2.2.2.2.2.2⟩⟩
  have gs : ∀ k, k ≤ n → fz_gsOk d m (fz_SH lim d) (fz_SM lim d m) k := fun k hk => by
    have f1 := fa k (by omega)
    have f2 := fa (k + 1) (by omega)
    have s := sd k hk
    exact ⟨f1.1.n (by decide), s.1.1.1.n (by decide), f1.2.2.2.1.n (by decide), s.1.2.n (by decide), f2.1.n (by decide), s.2.1.1.n (by decide), f2.2.2.2.1.n (by decide), s.2.2.n (by decide), s.1.st, s.2.st⟩
  refine ⟨fun k hk => ?_, ⟨fun j hj => ?_, fun k hk => ?_⟩, fun k hk => ?_⟩
  · have s := sd k hk
    obtain ⟨_, _, g3, g4, _⟩ := fq_flux s.1 s.2
    exact ⟨sl k (by omega), sl (k + 1) (by omega), gs k hk, s.1.mf.1, s.2.mf.1, fun _ => g3, fun _ => g4⟩
  · obtain ⟨a1, a2, a3, a4, a5, _, _⟩ := sl j hj
    exact ⟨a1, a2, a3, a4, a5⟩
  · have s := sd k hk
    obtain ⟨g1, g2, _, _, _⟩ := fq_flux s.1 s.2
    exact ⟨gs k hk, fun _ => g2, fun _ => g1⟩
  · have s := sd k hk
    obtain ⟨_, _, _, _, g5⟩ := fq_flux s.1 s.2
    exact g5 sol
theorem fq_mv {n : Nat} {t : UInt64} {d F : Nat → UInt64} (ht : fq_b 1027 t) (hd : ∀ j, j < n → fq_b 1070 (d (j + 2))) (hF : ∀ k, k ≤ n → fq_b 1364 (F k)) : ∀ j, j < n → fq_b 1366 (FP.dsub (F (j + 1)) (F j)) ∧ fq_b 1371 (FP.dmul t (FP.dsub (F (j + 1)) (F j))) ∧ fq_b 1373 (fz_mvG t d F j) := fun j hj => by
  have a1 := fq_sub (hF (j + 1) (by omega)) (hF j (by omega)) (by decide)
  have a2 := (fq_mul ht a1 (by decide) (by decide)).mono (k := 1371) (by decide)
  exact ⟨a1, a2, fq_sub ((hd j hj).mono (by decide)) a2 (by decide)⟩
theorem fq_mvOk {n : Nat} {t : UInt64} {d F : Nat → UInt64} (ht : fq_b 1027 t) (hd : ∀ j, j < n → fq_b 1070 (d (j + 2))) (hF : ∀ k, k ≤ n → fq_b 1364 (F k)) : fz_mvOk t d F n := fun j hj => by
  obtain ⟨a1, a2, a3⟩ := fq_mv ht hd hF j hj
  exact ⟨a1.n (by decide), a2.n (by decide), a3.n (by decide)⟩
theorem fq_stg {kd lim sol n : Nat} {t : UInt64} {d m : Nat → UInt64} (hn : 4 ≤ n) (hl : lim ≤ 3) (hs : sol ≤ 1) (ht : fq_b 1027 t) (h : fq_cells n d m) : fz_stgOk kd lim sol n t d m ∧ fz_stgOkM kd lim sol n t d m := by
  have r := fq_rowE (kd := kd) hn h
  obtain ⟨a1, a2, a3⟩ := fq_FH hl hs r
  have m1 := fq_mvOk (n := n) (d := fz_ends kd false n d) ht (fun j hj => (r (j + 2) (by omega)).1.1) (fun k hk => (a3 k hk).1)
  have m2 := fq_mvOk (n := n) (d := fz_ends kd true n m) ht (fun j hj => (r (j + 2) (by omega)).2.mono (by decide)) (fun k hk => (a3 k hk).2)
  exact ⟨⟨a2, m1, m2⟩, ⟨a1, m1, m2⟩⟩
/-! no cell is bad -/
theorem fq_Fk : fq_F 4652007308841189376 := (FP.Core.fin_bits _).mpr (by decide)
theorem fq_Zk : fq_Z 4652007308841189376 = ((1000 * 2 ^ 1074 : Nat) : Int) := by decide +kernel
theorem fq_Fkn : fq_F 13875379345695965184 := (FP.Core.fin_bits _).mpr (by decide)
theorem fq_Zkn : fq_Z 13875379345695965184 = -((1000 * 2 ^ 1074 : Nat) : Int) := by decide +kernel
theorem fq_mOf {x : UInt64} (hx : fq_F x) (h1 : fq_Z x ≤ ((1000 * 2 ^ 1074 : Nat) : Int)) (h2 : -((1000 * 2 ^ 1074 : Nat) : Int) ≤ fq_Z x) : fq_b 1033 x := by
  refine fq_bof hx (by decide) ?_
  rw [← Nat.pow_add]
  rw [show (2 : Nat) ^ (52 + (1033 - 1)) = 1024 * 2 ^ 1074 from by decide +kernel]
  have := Nat.two_pow_pos 1074
  generalize 2 ^ 1074 = P at *
  omega
theorem fq_okBad {d m : Nat → UInt64} {k : Nat} (hd : fq_F (d (k + 2))) (hm : fq_F (m (k + 2))) (h : fz_bad d m k = false) : fq_Z fz_c01 ≤ fq_Z (d (k + 2)) ∧ fq_b 1033 (m (k + 2)) := by
  unfold fz_bad at h
  rw [Bool.or_eq_false_iff, Bool.or_eq_false_iff] at h
  have h1 := (fq_ltF hd fq_Fc).mp h.1.1
  have h2 := (fq_ltF fq_Fk hm).mp h.1.2
  have h3 := (fq_ltF hm fq_Fkn).mp h.2
  rw [fq_Zk] at h2
  rw [fq_Zkn] at h3
  exact ⟨h1, fq_mOf hm h2 h3⟩
theorem fq_noBad {d m : Nat → UInt64} : ∀ n, fz_anyBad d m n = false → ∀ j, j < n → fz_bad d m j = false := by
  intro n
  induction n with
  | zero => intro _ j hj; omega
  | succ n ih =>
    intro h j hj
    unfold fz_anyBad at h
    rw [Bool.or_eq_false_iff] at h
    by_cases e : j = n
    · rw [e]; exact h.2
    · exact ih h.1 j (by omega)
