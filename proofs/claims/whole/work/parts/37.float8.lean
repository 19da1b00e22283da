/-! a stage keeps the sum of the depths, but for what goes through the two ends -/
theorem fq_rnd.le2 {P : Nat} {E : Int} {r : UInt64} (hP : 0 < P) (h : fq_rnd P E r) (hE : E.natAbs < 2 ^ 2097 * P) : (fq_Z r).natAbs * P ≤ 2 * E.natAbs + P := by
  have e := h.err hP hE
  have e1 : (fq_Z r * (P : Int)).natAbs = (fq_Z r).natAbs * P := by rw [Int.natAbs_mul]; rfl
  rw [← e1]
  generalize fq_Z r * (P : Int) = Y at *
  omega
theorem fq_con1 {A B C H N t O : Int} (hO : 0 < O) (h1 : (B - A).natAbs * 2 ^ 52 ≤ A.natAbs + 2 ^ 52 * t.natAbs) (h2 : (C - B).natAbs * 2 ^ 52 ≤ B.natAbs + 2 ^ 52 * O.natAbs) (h3 : (N - (H - C)).natAbs * 2 ^ 52 ≤ (H - C).natAbs + 2 ^ 52 * O.natAbs) (hN : 0 ≤ N) (hH : 0 ≤ H) (t0 : 0 ≤ t) (t1 : t ≤ 16 * O) : (N - H + A) * 2 ^ 52 ≤ 16 * (N + H) + 60 * 2 ^ 52 * O := by
  have k1 : (H - C).natAbs ≤ 2 * N.natAbs + 2 * O.natAbs := by omega
  have k2 : C.natAbs ≤ 2 * N.natAbs + 2 * O.natAbs + H.natAbs := by omega
  have k3 : B.natAbs ≤ 2 * C.natAbs + 2 * O.natAbs := by omega
  have k4 : A.natAbs ≤ 2 * B.natAbs + 2 * t.natAbs := by omega
  have j1 : (B - A).natAbs * 2 ^ 52 ≤ 2 * B.natAbs + 2 * t.natAbs + 2 ^ 52 * t.natAbs := Nat.le_trans h1 (Nat.add_le_add_right k4 _)
  have j2 : (A - B) * 2 ^ 52 ≤ 4 * C.natAbs + 4 * O + 2 * t + 2 ^ 52 * t := by omega
  have j3 : (B - C) * 2 ^ 52 ≤ 2 * C.natAbs + 2 * O + 2 ^ 52 * O := by omega
  have j4 : (N - (H - C)) * 2 ^ 52 ≤ 2 * N + 2 * O + 2 ^ 52 * O := by omega
  omega
def fq_S (d : Nat → UInt64) : Nat → Int
  | 0 => 0
  | k + 1 => fq_S d k + fq_Z (d (k + 2))
theorem fq_S_e {n : Nat} {d d' : Nat → UInt64} (h : fz_int n d d') : ∀ k, k ≤ n → fq_S d k = fq_S d' k := by
  intro k
  induction k with
  | zero => intro _; rfl
  | succ k ih => intro hk; unfold fq_S; rw [ih (by omega), h k (by omega)]
theorem fq_S_le {d : Nat → UInt64} : ∀ n, (∀ j, j < n → 0 ≤ fq_Z (d (j + 2))) → 0 ≤ fq_S d n ∧ ∀ j, j < n → fq_Z (d (j + 2)) ≤ fq_S d n := by
  intro n
  induction n with
  | zero => intro _; exact ⟨Int.le_refl _, fun j hj => by omega⟩
  | succ n ih =>
    intro h
    obtain ⟨i1, i2⟩ := ih (fun j hj => h j (by omega))
    have hn := h n (by omega)
    unfold fq_S
    refine ⟨by omega, fun j hj => ?_⟩
    by_cases e : j = n
    · rw [e]; omega
    · have := i2 j (by omega); omega
theorem fq_zb {k : Nat} {x : UInt64} (h : fq_b k x) (hk : k ≤ 1371) : (fq_Z x).natAbs < 2 ^ 1422 := by
  have := fq_Zlt h (by omega)
  refine Nat.lt_of_lt_of_le this ?_
  rw [← Nat.pow_add]
  exact Nat.pow_le_pow_right (by decide) (by omega)
theorem fq_zbE {a b : Nat} (ha : a < 2 ^ 1422) (hb : b < 2 ^ 1422) : a + b < 2 ^ 2097 * 1 := by
  have : (2 : Nat) ^ 1422 + 2 ^ 1422 ≤ 2 ^ 2097 * 1 := by decide +kernel
  generalize (2 : Nat) ^ 1422 = P at *
  generalize (2 : Nat) ^ 2097 * 1 = Q at *
  omega
theorem fq_con {n : Nat} {t : UInt64} {d F : Nat → UInt64} (ht : fq_b 1027 t) (t0 : 0 ≤ fq_Z t) (hd : ∀ j, j < n → fq_b 1070 (d (j + 2))) (hd0 : ∀ j, j < n → 0 ≤ fq_Z (d (j + 2))) (hF : ∀ k, k ≤ n → fq_b 1364 (F k)) (hN : ∀ j, j < n → 0 ≤ fq_Z (fz_mvG t d F j)) : ∀ k, k ≤ n → ((fq_S (fz_sh (fz_sh (fz_mvG t d F))) k - fq_S d k) * (fq_one : Int) + fq_Z t * (fq_Z (F k) - fq_Z (F 0))) * 2 ^ 52 ≤ 16 * ((fq_S (fz_sh (fz_sh (fz_mvG t d F))) k + fq_S d k) * (fq_one : Int)) + (k : Int) * (60 * 2 ^ 52 * (fq_one : Int)) := by
  intro k
  induction k with
  | zero => intro _; simp [fq_S]
  | succ k ih =>
    intro hk
    have ih := ih (by omega)
    obtain ⟨a1, a2, a3⟩ := fq_mv ht hd hF k (by omega)
    have ft := ht.f (by decide)
    have f1 := (hF (k + 1) hk).f (by decide)
    have f0 := (hF k (by omega)).f (by decide)
    have fS := a1.f (by decide)
    have fX := a2.f (by decide)
    have fh := (hd k (by omega)).f (by decide)
    have z1 := fq_zb (hF (k + 1) hk) (by decide)
    have z0 := fq_zb (hF k (by omega)) (by decide)
    have zh := fq_zb (hd k (by omega)) (by decide)
    have zX := fq_zb a2 (by decide)
    have zS := fq_zb a1 (by decide)
    have zt := fq_Zlt ht (by decide)
    have e1 := (fq_rsub f1 f0).err (by decide) (Nat.lt_of_le_of_lt (by omega) (fq_zbE z1 z0))
    have e3 := (fq_rsub fh fX).err (by decide) (Nat.lt_of_le_of_lt (by omega) (fq_zbE zh zX))
    have e2 := (fq_rmul ft fS).err fq_oneP (by
      rw [Int.natAbs_mul]
      refine Nat.lt_of_lt_of_le (Nat.mul_lt_mul'' zt zS) ?_
      unfold fq_one
      rw [← Nat.pow_add, ← Nat.pow_add, ← Nat.pow_add]
      exact Nat.pow_le_pow_right (by decide) (by decide))
    have n0 := hN k (by omega)
    have h0 := hd0 k (by omega)
    have eN : fq_Z (FP.dsub (d (k + 2)) (FP.dmul t (FP.dsub (F (k + 1)) (F k)))) = fq_Z (fz_mvG t d F k) := rfl
    rw [eN] at e3
    have sN : fq_S (fz_sh (fz_sh (fz_mvG t d F))) (k + 1) = fq_S (fz_sh (fz_sh (fz_mvG t d F))) k + fq_Z (fz_mvG t d F k) := rfl
    have sH : fq_S d (k + 1) = fq_S d k + fq_Z (d (k + 2)) := rfl
    rw [sN, sH]
    generalize fq_S (fz_sh (fz_sh (fz_mvG t d F))) k = SN at *
    generalize fq_S d k = SH at *
    generalize fq_Z (fz_mvG t d F k) = N at *
    generalize fq_Z (d (k + 2)) = H at *
    generalize fq_Z (FP.dmul t (FP.dsub (F (k + 1)) (F k))) = X at *
    generalize fq_Z (FP.dsub (F (k + 1)) (F k)) = S at *
    generalize fq_Z (F (k + 1)) = G1 at *
    generalize fq_Z (F k) = G0 at *
    generalize fq_Z (F 0) = GG at *
    have hO : (0 : Int) < (fq_one : Int) := by exact_mod_cast fq_oneP
    have hT : fq_Z t ≤ 16 * (fq_one : Int) := by
      have e : (2 : Nat) ^ 52 * 2 ^ (1027 - 1) = 16 * fq_one := by decide +kernel
      rw [e] at zt
      generalize fq_one = O at *
      omega
    generalize fq_Z t = T at *
    have p2 : (X * (fq_one : Int) - T * S).natAbs * 2 ^ 52 ≤ (T * S).natAbs + 2 ^ 52 * (fq_one : Int).natAbs := by rw [Int.natAbs_natCast]; exact e2
    clear e2
    generalize (fq_one : Int) = O at *
    have p1 : (T * S - T * (G1 - G0)).natAbs * 2 ^ 52 ≤ (T * (G1 - G0)).natAbs + 2 ^ 52 * T.natAbs := by
      rw [← Int.mul_sub, Int.natAbs_mul, Int.natAbs_mul, Nat.mul_assoc]
      have := Nat.mul_le_mul_left T.natAbs e1
      simp only [Int.natCast_one, Int.mul_one, Nat.mul_one] at this
      rw [Nat.mul_add, Nat.mul_comm T.natAbs (2 ^ 52)] at this
      exact this
    have p3 : (N * O - (H * O - X * O)).natAbs * 2 ^ 52 ≤ (H * O - X * O).natAbs + 2 ^ 52 * O.natAbs := by
      rw [← Int.sub_mul, ← Int.sub_mul, Int.natAbs_mul, Int.natAbs_mul, Nat.mul_right_comm]
      have := Nat.mul_le_mul_right O.natAbs e3
      simp only [Int.natCast_one, Int.mul_one, Nat.mul_one] at this
      rw [Nat.add_mul] at this
      exact this
    have := fq_con1 hO p1 p2 p3 (Int.mul_nonneg n0 (Int.le_of_lt hO)) (Int.mul_nonneg h0 (Int.le_of_lt hO)) t0 hT
    have q1 : T * (G1 - GG) = T * (G0 - GG) + T * (G1 - G0) := by rw [← Int.mul_add]; congr 1; omega
    have q2 : (((k + 1 : Nat) : Int)) * (60 * 2 ^ 52 * O) = (k : Int) * (60 * 2 ^ 52 * O) + 60 * 2 ^ 52 * O := by push_cast; rw [Int.add_mul, Int.one_mul]
    have q3 : (SN + N - (SH + H)) * O = (SN - SH) * O + (N * O - H * O) := by rw [← Int.sub_mul, ← Int.add_mul]; congr 1; omega
    have q4 : (SN + N + (SH + H)) * O = (SN + SH) * O + (N * O + H * O) := by rw [← Int.add_mul, ← Int.add_mul]; congr 1; omega
    rw [q1, q2, q3, q4]
    generalize T * (G0 - GG) = T1 at *
    generalize T * (G1 - G0) = T2 at *
    generalize (SN - SH) * O = U1 at *
    generalize (SN + SH) * O = U2 at *
    generalize N * O = U3 at *
    generalize H * O = U4 at *
    generalize (k : Int) * (60 * 2 ^ 52 * O) = U5 at *
    omega
