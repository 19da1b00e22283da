/-! the state of a grid, and that a try keeps it -/
theorem fq_mean1 {a b : UInt64} (ha : fq_b 1070 a) (hb : fq_b 1070 b) (a0 : 0 ≤ fq_Z a) (b0 : 0 ≤ fq_Z b) : (2 * fq_Z (FP.dmul fz_half (FP.dadd a b)) - (fq_Z a + fq_Z b)) * 2 ^ 52 ≤ 4 * (fq_Z a + fq_Z b) + 8 * 2 ^ 52 := by
  have fa := ha.f (by decide)
  have fb := hb.f (by decide)
  have s1 := fq_add ha hb (by decide)
  have fs := s1.f (by decide)
  have e1 := (fq_radd fa fb).err (by decide) (Nat.lt_of_le_of_lt (by omega) (fq_zbE (fq_zb ha (by decide)) (fq_zb hb (by decide))))
  have e2 := (fq_rmul fq_Fh fs).err fq_oneP (by
    rw [Int.natAbs_mul, fq_Zh, Int.natAbs_natCast]
    have := fq_zb s1 (by decide)
    refine Nat.lt_of_lt_of_le (Nat.mul_lt_mul_of_pos_left this (Nat.two_pow_pos 1073)) ?_
    unfold fq_one
    rw [← Nat.pow_add, ← Nat.pow_add]
    exact Nat.pow_le_pow_right (by decide) (by decide))
  simp only [Int.natCast_one, Int.mul_one, Nat.mul_one] at e1
  generalize fq_Z (FP.dmul fz_half (FP.dadd a b)) = N at *
  generalize fq_Z (FP.dadd a b) = S at *
  generalize fq_Z a = A at *
  generalize fq_Z b = B at *
  have hO : (fq_one : Int) = 2 * ((2 ^ 1073 : Nat) : Int) := by decide +kernel
  have hO2 : fq_one = 2 * 2 ^ 1073 := by decide +kernel
  rw [fq_Zh, hO, hO2] at e2
  have hP := Nat.two_pow_pos 1073
  generalize (2 : Nat) ^ 1073 = P at *
  have q : (N * (2 * (P : Int)) - (P : Int) * S) = (P : Int) * (2 * N - S) := by
    rw [Int.mul_sub, Int.mul_left_comm, Int.mul_comm N, Int.mul_left_comm]
  rw [q, Int.natAbs_mul, Int.natAbs_mul, Int.natAbs_natCast] at e2
  have k : P * ((2 * N - S).natAbs * 2 ^ 52) ≤ P * (S.natAbs + 2 ^ 53) := by
    rw [← Nat.mul_assoc, Nat.mul_add]
    refine Nat.le_trans e2 (Nat.add_le_add_left ?_ _)
    rw [Nat.mul_comm P (2 ^ 53), ← Nat.mul_assoc]
    exact Nat.le_refl _
  have k := Nat.le_of_mul_le_mul_left k hP
  clear e2
  omega
theorem fq_mean {n : Nat} {a d : Nat → UInt64} (ha : ∀ j, j < n → fq_b 1070 (a (j + 2)) ∧ 0 ≤ fq_Z (a (j + 2))) (hd : ∀ j, j < n → fq_b 1070 (d (j + 2)) ∧ 0 ≤ fq_Z (d (j + 2))) (g : Nat → UInt64) (hg : ∀ j, j < n → g (j + 2) = fz_mtG a d j) : ∀ k, k ≤ n → (2 * fq_S g k - (fq_S a k + fq_S d k)) * 2 ^ 52 ≤ 4 * (fq_S a k + fq_S d k) + (k : Int) * (8 * 2 ^ 52) := by
  intro k
  induction k with
  | zero => intro _; simp [fq_S]
  | succ k ih =>
    intro hk
    have i := ih (by omega)
    have e := fq_mean1 (ha k (by omega)).1 (hd k (by omega)).1 (ha k (by omega)).2 (hd k (by omega)).2
    have e3 : fq_Z (FP.dmul fz_half (FP.dadd (a (k + 2)) (d (k + 2)))) = fq_Z (g (k + 2)) := by rw [hg k (by omega)]; rfl
    rw [e3] at e
    unfold fq_S
    generalize fq_S g k = G at *
    generalize fq_S a k = A at *
    generalize fq_S d k = B at *
    generalize fq_Z (g (k + 2)) = x at *
    generalize fq_Z (a (k + 2)) = y at *
    generalize fq_Z (d (k + 2)) = z at *
    omega
/-- one cell within its bounds -/
def fq_cell (h m : UInt64) : Prop := fq_F h ∧ fq_F m ∧ fq_Z fz_c01 ≤ fq_Z h ∧ fq_Z m ≤ ((1000 * 2 ^ 1074 : Nat) : Int) ∧ -((1000 * 2 ^ 1074 : Nat) : Int) ≤ fq_Z m
def fq_St (S : Int) (n : Nat) (d m : Nat → UInt64) : Prop := (∀ j, j < n → fq_cell (d (j + 2)) (m (j + 2))) ∧ fq_S d n ≤ S
theorem fq_cell.pos {h m : UInt64} (c : fq_cell h m) : 0 ≤ fq_Z h := Int.le_trans (Int.le_trans (Int.natCast_nonneg _) fq_Zc) c.2.2.1
theorem fq_St.cells {S : Int} {n : Nat} {d m : Nat → UInt64} (h : fq_St S n d m) (hS : S < 2 ^ 47 * (fq_one : Int)) : fq_cells n d m := fun j hj => by
  obtain ⟨f1, f2, z1, z2, z3⟩ := h.1 j hj
  have l := (fq_S_le n (fun j hj => (h.1 j hj).pos)).2 j hj
  have p := (h.1 j hj).pos
  refine ⟨⟨fq_bof f1 (by decide) ?_, z1⟩, (fq_mOf f2 z2 z3).mono (by decide)⟩
  have hs := h.2
  rw [← Nat.pow_add, show (2 : Nat) ^ (52 + (1070 - 1)) = 2 ^ 47 * fq_one from by decide +kernel]
  have e : ((2 ^ 47 * fq_one : Nat) : Int) = 2 ^ 47 * (fq_one : Int) := by rw [Int.natCast_mul]; rfl
  rw [← e] at hS
  generalize 2 ^ 47 * fq_one = Q at *
  omega
theorem fq_cellB {d m : Nat → UInt64} {k : Nat} (hd : fq_F (d (k + 2))) (hm : fq_F (m (k + 2))) (h : fz_bad d m k = false) : fq_cell (d (k + 2)) (m (k + 2)) := by
  unfold fz_bad at h
  rw [Bool.or_eq_false_iff, Bool.or_eq_false_iff] at h
  have h1 := (fq_ltF hd fq_Fc).mp h.1.1
  have h2 := (fq_ltF fq_Fk hm).mp h.1.2
  have h3 := (fq_ltF hm fq_Fkn).mp h.2
  rw [fq_Zk] at h2
  rw [fq_Zkn] at h3
  exact ⟨hd, hm, h1, h2, h3⟩
theorem fq_F02 : fq_F 4581421828931458171 := (FP.Core.fin_bits _).mpr (by decide)
theorem fq_Z02 : fq_Z 4581421828931458171 = 2 * fq_Z fz_c01 := by decide +kernel
theorem fq_F2k : fq_F 4656510908468559872 := (FP.Core.fin_bits _).mpr (by decide)
theorem fq_Z2k : fq_Z 4656510908468559872 = 2 * ((1000 * 2 ^ 1074 : Nat) : Int) := by decide +kernel
theorem fq_cellM {h m h' m' : UInt64} (c : fq_cell h m) (c' : fq_cell h' m') (b : fq_b 1070 h) (b' : fq_b 1070 h') : fq_cell (FP.dmul fz_half (FP.dadd h h')) (FP.dmul fz_half (FP.dadd m m')) := by
  obtain ⟨f1, f2, z1, z2, z3⟩ := c
  obtain ⟨g1, g2, y1, y2, y3⟩ := c'
  have s1 := fq_add b b' (by decide)
  have s2 := fq_add (fq_mOf f2 z2 z3) (fq_mOf g2 y2 y3) (by decide)
  have p1 := fq_mul fq_bh s1 (by decide) (by decide)
  have p2 := fq_mul fq_bh s2 (by decide) (by decide)
  have k1 := fq_addge f1 g1 fq_F02 (by rw [fq_Z02]; omega)
  have k2 := fq_addle f2 g2 fq_F2k (by rw [fq_Z2k]; generalize 1000 * 2 ^ 1074 = P at *; omega)
  have k3 := fq_addge f2 g2 (fq_Fneg fq_F2k) (by rw [fq_neg, fq_Z2k]; generalize 1000 * 2 ^ 1074 = P at *; omega)
  rw [fq_Z02] at k1
  rw [fq_Z2k] at k2
  rw [fq_neg, fq_Z2k] at k3
  have j1 := fq_halfge (w := h) (s1.f (by decide)) fq_Fc (by omega)
  have j2 := fq_halfle (s2.f (by decide)) fq_Fk (by rw [fq_Zk]; generalize 1000 * 2 ^ 1074 = P at *; omega)
  have j3 := fq_halfge (w := h) (s2.f (by decide)) fq_Fkn (by rw [fq_Zkn]; generalize 1000 * 2 ^ 1074 = P at *; omega)
  rw [fq_Zk] at j2
  rw [fq_Zkn] at j3
  exact ⟨p1.f (by decide), p2.f (by decide), j1, j2, j3⟩
theorem fq_stSt {kd lim sol n : Nat} {t : UInt64} {d m : Nat → UInt64} {S : Int} (hn : 4 ≤ n) (hn2 : n ≤ 24) (hk : kd ≤ 2) (hl : lim ≤ 3) (hs : sol ≤ 1) (ht : fq_b 1027 t) (t0 : 0 ≤ fq_Z t) (h : fq_St S n d m) (hS : S < 2 ^ 47 * (fq_one : Int)) (nb : fz_anyBad (fz_stD kd lim sol n t d m) (fz_stM kd lim sol n t d m) n = false) : fq_St (S + (2 ^ 31 + 2) * (fq_one : Int)) n (fz_stD kd lim sol n t d m) (fz_stM kd lim sol n t d m) := by
  obtain ⟨a, b⟩ := fq_stS hn hn2 hk hl hs ht t0 (h.cells hS) (Int.le_of_lt (Int.lt_of_le_of_lt h.2 hS)) nb
  exact ⟨fun j hj => fq_cellB (b j hj).1 (b j hj).2.1 (b j hj).2.2, Int.le_trans a (Int.add_le_add_right h.2 _)⟩
theorem fq_meanS {X Y A B G O n : Int} (hn : n ≤ 24) (hO : 1048576 ≤ O) (hA : 0 ≤ A) (hB : 0 ≤ B) (hAX : A ≤ X) (hBX : B ≤ X + 2 * ((2 ^ 31 + 2) * O)) (hX : X < (3 * 2 ^ 45) * O) (h : (2 * G - (A + B)) * 2 ^ 52 ≤ 4 * (A + B) + n * (8 * 2 ^ 52)) : G ≤ X + 2 ^ 32 * O := by
  omega
theorem fq_try {kd lim sol ord n : Nat} {t : UInt64} {d m : Nat → UInt64} {S : Int} (hn : 4 ≤ n) (hn2 : n ≤ 24) (hk : kd ≤ 2) (hl : lim ≤ 3) (hs : sol ≤ 1) (ho : 1 ≤ ord) (ho2 : ord ≤ 2) (ht : fq_b 1027 t) (t0 : 0 ≤ fq_Z t) (h : fq_St S n d m) (hS : S < (3 * 2 ^ 45) * (fq_one : Int)) : fz_tryOk kd lim sol ord n t d m ∧ fz_tryOkM kd lim sol ord n t d m ∧ (fz_good kd lim sol ord n t d m = true → fq_St (S + 2 ^ 32 * (fq_one : Int)) n (fz_newD kd lim sol ord n t d m) (fz_newM kd lim sol ord n t d m)) := by
  have hO := fq_oneI
  have hS0 : S < 2 ^ 47 * (fq_one : Int) := by generalize (fq_one : Int) = O at *; omega
  have c0 := h.cells hS0
  have g0 := fq_stg (kd := kd) hn hl hs ht c0
  have hS1 : S + (2 ^ 31 + 2) * (fq_one : Int) < 2 ^ 47 * (fq_one : Int) := by generalize (fq_one : Int) = O at *; omega
  have hS2 : S + (2 ^ 31 + 2) * (fq_one : Int) + (2 ^ 31 + 2) * (fq_one : Int) < 2 ^ 47 * (fq_one : Int) := by generalize (fq_one : Int) = O at *; omega
  have st1 : fz_anyBad (fz_stD kd lim sol n t d m) (fz_stM kd lim sol n t d m) n = false → fq_St (S + (2 ^ 31 + 2) * (fq_one : Int)) n (fz_stD kd lim sol n t d m) (fz_stM kd lim sol n t d m) := fun nb => fq_stSt hn hn2 hk hl hs ht t0 h hS0 nb
  have st2 : fz_anyBad (fz_stD kd lim sol n t d m) (fz_stM kd lim sol n t d m) n = false → fz_anyBad (fz_st2D kd lim sol n t d m) (fz_st2M kd lim sol n t d m) n = false → fq_St (S + (2 ^ 31 + 2) * (fq_one : Int) + (2 ^ 31 + 2) * (fq_one : Int)) n (fz_st2D kd lim sol n t d m) (fz_st2M kd lim sol n t d m) := fun nb nb2 => fq_stSt hn hn2 hk hl hs ht t0 (st1 nb) hS1 nb2
  have mt : fz_anyBad (fz_stD kd lim sol n t d m) (fz_stM kd lim sol n t d m) n = false → fz_anyBad (fz_st2D kd lim sol n t d m) (fz_st2M kd lim sol n t d m) n = false → fz_mtOk d (fz_st2D kd lim sol n t d m) n ∧ fz_mtOk m (fz_st2M kd lim sol n t d m) n := fun nb nb2 => by
    have c2 := (st2 nb nb2).cells hS2
    refine ⟨fun j hj => ?_, fun j hj => ?_⟩
    · have s1 := fq_add (c0 j hj).1.1 (c2 j hj).1.1 (by decide)
      exact ⟨s1.n (by decide), (fq_mul fq_bh s1 (by decide) (by decide)).n (by decide)⟩
    · have s1 := fq_add (c0 j hj).2 (c2 j hj).2 (by decide)
      exact ⟨s1.n (by decide), (fq_mul fq_bh s1 (by decide) (by decide)).n (by decide)⟩
  refine ⟨⟨g0.1, fun _ nb => ⟨(fq_stg hn hl hs ht ((st1 nb).cells hS1)).1, mt nb⟩⟩, ⟨g0.2, fun _ nb => ⟨(fq_stg hn hl hs ht ((st1 nb).cells hS1)).2, mt nb⟩⟩, fun hg => ?_⟩
  unfold fz_good at hg
  rw [Bool.and_eq_true] at hg
  have nb : fz_anyBad (fz_stD kd lim sol n t d m) (fz_stM kd lim sol n t d m) n = false := by simpa using hg.1
  by_cases h1 : ord = 1
  · unfold fz_newD fz_newM
    rw [if_pos h1, if_pos h1]
    have := st1 nb
    refine ⟨this.1, Int.le_trans this.2 ?_⟩
    generalize (fq_one : Int) = O at *
    omega
  · have nb2 : fz_anyBad (fz_st2D kd lim sol n t d m) (fz_st2M kd lim sol n t d m) n = false := by
      have := hg.2
      rw [Bool.or_eq_true] at this
      rcases this with q | q
      · exact absurd (by simpa using q) h1
      · simpa using q
    unfold fz_newD fz_newM
    rw [if_neg h1, if_neg h1]
    have s2 := st2 nb nb2
    have c2 := s2.cells hS2
    refine ⟨fun j hj => ?_, ?_⟩
    · rw [fz_pre_in _ _ hj, fz_pre_in _ _ hj]
      exact fq_cellM (h.1 j hj) (s2.1 j hj) (c0 j hj).1.1 (c2 j hj).1.1
    · have e := fq_mean (n := n) (a := d) (d := fz_st2D kd lim sol n t d m) (fun j hj => ⟨(c0 j hj).1.1, (h.1 j hj).pos⟩) (fun j hj => ⟨(c2 j hj).1.1, (s2.1 j hj).pos⟩) (fz_pre 2 n (fz_mtG d (fz_st2D kd lim sol n t d m)) (fz_st2D kd lim sol n t d m)) (fun j hj => fz_pre_in _ _ hj) n (Nat.le_refl _)
      refine fq_meanS (Y := 0) (show (n : Int) ≤ 24 by omega) hO (fq_S_le n (fun j hj => (h.1 j hj).pos)).1 (fq_S_le n (fun j hj => (s2.1 j hj).pos)).1 h.2 (Int.le_trans s2.2 ?_) hS e
      generalize (fq_one : Int) = O at *
      omega
