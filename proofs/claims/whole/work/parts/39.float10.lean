/-! the sum after a stage, after the mean -/
theorem fq_endsZ {kd lim sol n : Nat} {d m : Nat → UInt64} (hn : 4 ≤ n) (hk : kd ≤ 2) (h : fq_cells n d m) : (fq_Z (fz_FHi lim sol (fz_ends kd false n d) (fz_ends kd true n m) n) - fq_Z (fz_FHi lim sol (fz_ends kd false n d) (fz_ends kd true n m) 0)).natAbs ≤ 2 ^ 1101 := by
  by_cases h0 : kd = 0
  · have e : fz_FHi lim sol (fz_ends kd false n d) (fz_ends kd true n m) n = fz_FHi lim sol (fz_ends kd false n d) (fz_ends kd true n m) 0 := by
      have q : ∀ (sg : Bool) (f : Nat → UInt64), fz_at4 (fz_ends kd sg n f) (fz_ends kd sg n f) n 0 := fun sg f => by
        unfold fz_at4 fz_ends
        refine ⟨?_, ?_, ?_, ?_⟩ <;> (repeat' split) <;> first | rfl | omega
      exact fz_FHi_cg sol (q false d) (q true m)
    rw [e, Int.sub_self]
    exact Nat.zero_le _
  · have r := fq_rowE (kd := kd) hn h
    have e01 : fz_ends kd false n d 1 = fz_ends kd false n d 2 := by
      unfold fz_ends
      (repeat' split) <;> first | rfl | omega | contradiction
    have en : fz_ends kd false n d (n + 1) = fz_ends kd false n d (n + 2) := by
      unfold fz_ends
      (repeat' split) <;> first | rfl | omega | contradiction
    have a := fq_endF (lim := lim) (sol := sol) r (k := 0) (by omega) (Or.inr e01) (Or.inl e01) e01
    have b := fq_endF (lim := lim) (sol := sol) r (k := n) (by omega) (Or.inr en) (Or.inl en) en
    have up : (2 : Nat) ^ 1101 = 2 * 2 ^ 1100 := by decide +kernel
    generalize (2 : Nat) ^ 1100 = P at *
    omega
theorem fq_fin1 {SN SH W O n : Int} (hO : 0 < O) (hO2 : 1048576 ≤ O) (hn : n ≤ 24) (hN : 0 ≤ SN) (hH : 0 ≤ SH) (hB : SH ≤ 2 ^ 47 * O) (hW : -(2 ^ 31 * O * O) ≤ W) (h : ((SN - SH) * O + W) * 2 ^ 52 ≤ 16 * ((SN + SH) * O) + n * (60 * 2 ^ 52 * O)) : SN ≤ SH + (2 ^ 31 + 2) * O := by
  have k : ((SN - SH) * 2 ^ 52) * O ≤ (16 * (SN + SH) + n * 60 * 2 ^ 52 + 2 ^ 31 * 2 ^ 52 * O) * O := by
    have e1 : ((SN - SH) * 2 ^ 52) * O = ((SN - SH) * O) * 2 ^ 52 := by rw [Int.mul_right_comm]
    have e2 : (16 * (SN + SH) + n * 60 * 2 ^ 52 + 2 ^ 31 * 2 ^ 52 * O) * O = 16 * ((SN + SH) * O) + n * (60 * 2 ^ 52 * O) + 2 ^ 52 * (2 ^ 31 * O * O) := by
      rw [Int.add_mul, Int.add_mul]
      congr 1
      · congr 1
        · rw [Int.mul_assoc]
        · rw [Int.mul_assoc, Int.mul_assoc, Int.mul_assoc]
      · rw [Int.mul_comm (2 ^ 31) (2 ^ 52), Int.mul_assoc, Int.mul_assoc, Int.mul_assoc]
    rw [e1, e2]
    generalize (SN - SH) * O = A at *
    generalize (SN + SH) * O = B at *
    generalize 2 ^ 31 * O * O = C at *
    generalize n * (60 * 2 ^ 52 * O) = E at *
    omega
  have k2 := Int.le_of_mul_le_mul_right k hO
  omega
theorem fq_oneI : (1048576 : Int) ≤ (fq_one : Int) := by decide +kernel
theorem fq_stS {kd lim sol n : Nat} {t : UInt64} {d m : Nat → UInt64} (hn : 4 ≤ n) (hn2 : n ≤ 24) (hk : kd ≤ 2) (hl : lim ≤ 3) (hs : sol ≤ 1) (ht : fq_b 1027 t) (t0 : 0 ≤ fq_Z t) (h : fq_cells n d m) (hb : fq_S d n ≤ 2 ^ 47 * (fq_one : Int)) (nb : fz_anyBad (fz_stD kd lim sol n t d m) (fz_stM kd lim sol n t d m) n = false) : fq_S (fz_stD kd lim sol n t d m) n ≤ fq_S d n + (2 ^ 31 + 2) * (fq_one : Int) ∧ ∀ j, j < n → fq_F (fz_stD kd lim sol n t d m (j + 2)) ∧ fq_F (fz_stM kd lim sol n t d m (j + 2)) ∧ fz_bad (fz_stD kd lim sol n t d m) (fz_stM kd lim sol n t d m) j = false := by
  have r := fq_rowE (kd := kd) hn h
  obtain ⟨a1, a2, a3⟩ := fq_FH hl hs r
  have m1 := fq_mv (n := n) (d := fz_ends kd false n d) ht (fun j hj => (r (j + 2) (by omega)).1.1) (fun k hk => (a3 k hk).1)
  have m2 := fq_mv (n := n) (d := fz_ends kd true n m) ht (fun j hj => (r (j + 2) (by omega)).2.mono (by decide)) (fun k hk => (a3 k hk).2)
  have eD : ∀ j, j < n → fz_stD kd lim sol n t d m (j + 2) = fz_mvG t (fz_ends kd false n d) (fz_FHi lim sol (fz_ends kd false n d) (fz_ends kd true n m)) j := fun j hj => by unfold fz_stD; rw [fz_pre_in _ _ hj]
  have eM : ∀ j, j < n → fz_stM kd lim sol n t d m (j + 2) = fz_mvG t (fz_ends kd true n m) (fz_FMi lim sol (fz_ends kd false n d) (fz_ends kd true n m)) j := fun j hj => by unfold fz_stM; rw [fz_pre_in _ _ hj]
  have fin : ∀ j, j < n → fq_F (fz_stD kd lim sol n t d m (j + 2)) ∧ fq_F (fz_stM kd lim sol n t d m (j + 2)) ∧ fz_bad (fz_stD kd lim sol n t d m) (fz_stM kd lim sol n t d m) j = false := fun j hj => by
    refine ⟨?_, ?_, fq_noBad n nb j hj⟩
    · rw [eD j hj]; exact (m1 j hj).2.2.f (by decide)
    · rw [eM j hj]; exact (m2 j hj).2.2.f (by decide)
  refine ⟨?_, fin⟩
  have pos : ∀ j, j < n → 0 ≤ fq_Z (fz_stD kd lim sol n t d m (j + 2)) := fun j hj => by
    obtain ⟨f1, f2, f3⟩ := fin j hj
    have := (fq_okBad f1 f2 f3).1
    exact Int.le_trans (Int.le_trans (Int.natCast_nonneg _) fq_Zc) this
  have s1 : fq_S (fz_stD kd lim sol n t d m) n = fq_S (fz_sh (fz_sh (fz_mvG t (fz_ends kd false n d) (fz_FHi lim sol (fz_ends kd false n d) (fz_ends kd true n m))))) n := fq_S_e (fun j hj => by rw [eD j hj]; rfl) n (Nat.le_refl _)
  have s2 : fq_S (fz_ends kd false n d) n = fq_S d n := fq_S_e (fun j hj => fz_ends_in hj) n (Nat.le_refl _)
  have c := fq_con (n := n) (d := fz_ends kd false n d) (F := fz_FHi lim sol (fz_ends kd false n d) (fz_ends kd true n m)) ht t0 (fun j hj => (r (j + 2) (by omega)).1.1) (fun j hj => Int.le_of_lt (r (j + 2) (by omega)).1.gt) (fun k hk => (a3 k hk).1) (fun j hj => by rw [← eD j hj]; exact pos j hj) n (Nat.le_refl _)
  rw [← s1, s2] at c
  refine fq_fin1 (by exact_mod_cast fq_oneP) fq_oneI (show (n : Int) ≤ 24 by omega) (fq_S_le n pos).1 (fq_S_le n (fun j hj => Int.le_of_lt (h j hj).1.gt)).1 hb ?_ c
  have z := fq_endsZ (lim := lim) (sol := sol) hn hk h
  have zt := fq_Zlt ht (by decide)
  generalize fq_Z (fz_FHi lim sol (fz_ends kd false n d) (fz_ends kd true n m) n) - fq_Z (fz_FHi lim sol (fz_ends kd false n d) (fz_ends kd true n m) 0) = G at *
  have p : (fq_Z t * G).natAbs ≤ 2 ^ 31 * fq_one * fq_one := by
    rw [Int.natAbs_mul]
    refine Nat.le_trans (Nat.mul_le_mul (Nat.le_of_lt zt) z) ?_
    rw [show (2 : Nat) ^ 52 * 2 ^ (1027 - 1) * 2 ^ 1101 = 2 ^ 31 * fq_one * fq_one from by decide +kernel]
    exact Nat.le_refl _
  have e : ((2 ^ 31 * fq_one * fq_one : Nat) : Int) = 2 ^ 31 * (fq_one : Int) * (fq_one : Int) := by rw [Int.natCast_mul, Int.natCast_mul, show ((2 ^ 31 : Nat) : Int) = 2 ^ 31 from by decide]
  rw [← e]
  generalize 2 ^ 31 * fq_one * fq_one = Q at *
  omega
