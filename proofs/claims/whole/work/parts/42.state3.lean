/-! a run, and what else changes a state -/
theorem fq_St_e {S : Int} {n : Nat} {d m d' m' : Nat → UInt64} (h : fq_St S n d m) (e1 : fz_int n d' d) (e2 : fz_int n m' m) : fq_St S n d' m' := ⟨fun j hj => by rw [e1 j hj, e2 j hj]; exact h.1 j hj, by rw [fq_S_e e1 n (Nat.le_refl _)]; exact h.2⟩
theorem fq_St.mono {S S' : Int} {n : Nat} {d m : Nat → UInt64} (h : fq_St S n d m) (hS : S ≤ S') : fq_St S' n d m := ⟨h.1, Int.le_trans h.2 hS⟩
theorem fq_tm.mono {G G' : Int} {x : UInt64} (h : fq_tm G x) (hG : G ≤ G') : fq_tm G' x := ⟨h.1, h.2.1, Int.le_trans h.2.2 hG⟩
theorem fz_rs_e {kd lim sol ord n : Nat} {all gone : UInt64} {st fl : Int32} {d m d' m' : Nat → UInt64} (hn4 : 4 ≤ n) (h : fz_int n d' d) (g : fz_int n m' m) : ∀ k, (fz_rs kd lim sol ord n all d' m' gone st fl k).1 = (fz_rs kd lim sol ord n all d m gone st fl k).1 ∧ fz_int n (fz_rs kd lim sol ord n all d' m' gone st fl k).2.1 (fz_rs kd lim sol ord n all d m gone st fl k).2.1 ∧ fz_int n (fz_rs kd lim sol ord n all d' m' gone st fl k).2.2.1 (fz_rs kd lim sol ord n all d m gone st fl k).2.2.1 ∧ (fz_rs kd lim sol ord n all d' m' gone st fl k).2.2.2.1 = (fz_rs kd lim sol ord n all d m gone st fl k).2.2.2.1 ∧ (fz_rs kd lim sol ord n all d' m' gone st fl k).2.2.2.2.1 = (fz_rs kd lim sol ord n all d m gone st fl k).2.2.2.2.1 ∧ (fz_rs kd lim sol ord n all d' m' gone st fl k).2.2.2.2.2 = (fz_rs kd lim sol ord n all d m gone st fl k).2.2.2.2.2 := by
  intro k
  induction k with
  | zero => exact ⟨rfl, h, g, rfl, rfl, rfl⟩
  | succ k ih =>
    obtain ⟨i1, i2, i3, i4, i5, i6⟩ := ih
    unfold fz_rs
    generalize fz_rs kd lim sol ord n all d' m' gone st fl k = a at *
    generalize fz_rs kd lim sol ord n all d m gone st fl k = b at *
    have t : fz_tk kd lim sol ord n a.1 a.2.1 a.2.2.1 = fz_tk kd lim sol ord n b.1 b.2.1 b.2.2.1 := by rw [i1]; exact fz_tk_e hn4 i2 i3
    have x : fz_kx kd lim sol ord n a.1 a.2.1 a.2.2.1 = fz_kx kd lim sol ord n b.1 b.2.1 b.2.2.1 := by rw [i1]; exact fz_kx_e hn4 i2 i3
    rw [t, x]
    exact ⟨by rw [i1], fz_newD_e hn4 i2 i3, fz_newM_e hn4 i2 i3, by rw [i4], by rw [i5], by rw [i6]⟩
theorem fq_Fm : fq_F 4562254508917369340 := (FP.Core.fin_bits _).mpr (by decide)
theorem fq_Zm : ((2 ^ 941 : Nat) : Int) ≤ fq_Z 4562254508917369340 := by decide +kernel
theorem fq_runs {kd lim sol ord n : Nat} {t gone : UInt64} {st fl : Int32} {d m : Nat → UInt64} {S G : Int} (hn : 4 ≤ n) (hn2 : n ≤ 24) (hk : kd ≤ 2) (hl : lim ≤ 3) (hs : sol ≤ 1) (ho : 1 ≤ ord) (ho2 : ord ≤ 2) (h : fq_St S n d m) (hS : S + 40 * (2 ^ 32 * (fq_one : Int)) < (3 * 2 ^ 45) * (fq_one : Int)) (ht : fq_span t) (hg : fq_tm G gone) (hG : G + 40 * (16 * (fq_one : Int)) ≤ 2 ^ 20 * (fq_one : Int)) : ∀ k, k ≤ 40 → (∀ j, j < k → fz_le 4562254508917369340 (fz_rs kd lim sol ord n t d m gone st fl j).1 = true ∧ fz_kx kd lim sol ord n (fz_rs kd lim sol ord n t d m gone st fl j).1 (fz_rs kd lim sol ord n t d m gone st fl j).2.1 (fz_rs kd lim sol ord n t d m gone st fl j).2.2.1 < 5) → fq_F (fz_rs kd lim sol ord n t d m gone st fl k).1 ∧ 0 ≤ fq_Z (fz_rs kd lim sol ord n t d m gone st fl k).1 ∧ fq_Z (fz_rs kd lim sol ord n t d m gone st fl k).1 ≤ 10 * (fq_one : Int) ∧ fq_St (S + (k : Int) * (2 ^ 32 * (fq_one : Int))) n (fz_rs kd lim sol ord n t d m gone st fl k).2.1 (fz_rs kd lim sol ord n t d m gone st fl k).2.2.1 ∧ fq_tm (G + (k : Int) * (16 * (fq_one : Int))) (fz_rs kd lim sol ord n t d m gone st fl k).2.2.2.1 := by
  have hO := fq_oneI
  have bS : ∀ k : Nat, k ≤ 40 → S + (k : Int) * (2 ^ 32 * (fq_one : Int)) < (3 * 2 ^ 45) * (fq_one : Int) := fun k hk => by
    have : (k : Int) * (2 ^ 32 * (fq_one : Int)) ≤ 40 * (2 ^ 32 * (fq_one : Int)) := Int.mul_le_mul_of_nonneg_right (by omega) (by generalize (fq_one : Int) = O at *; omega)
    generalize (k : Int) * (2 ^ 32 * (fq_one : Int)) = X at *
    generalize (fq_one : Int) = O at *
    omega
  have bG : ∀ k : Nat, k ≤ 40 → G + (k : Int) * (16 * (fq_one : Int)) ≤ 2 ^ 20 * (fq_one : Int) := fun k hk => by
    have : (k : Int) * (16 * (fq_one : Int)) ≤ 40 * (16 * (fq_one : Int)) := Int.mul_le_mul_of_nonneg_right (by omega) (by generalize (fq_one : Int) = O at *; omega)
    generalize (k : Int) * (16 * (fq_one : Int)) = X at *
    generalize (fq_one : Int) = O at *
    omega
  intro k
  induction k with
  | zero =>
    intro _ _
    have z : ((0 : Nat) : Int) = 0 := rfl
    rw [z, Int.zero_mul, Int.zero_mul, Int.add_zero, Int.add_zero]
    exact ⟨ht.1, Int.le_trans (Int.natCast_nonneg _) ht.2.1, ht.2.2, h, hg⟩
  | succ k ih =>
    intro hk1 hj
    obtain ⟨i1, i2, i3, i4, i5⟩ := ih (by omega) (fun j hj1 => hj j (by omega))
    obtain ⟨j1, j2⟩ := hj k (by omega)
    unfold fz_rs
    generalize fz_rs kd lim sol ord n t d m gone st fl k = b at *
    have sp : fq_span b.1 := ⟨i1, Int.le_trans fq_Zm ((fq_le fq_Fm i1).mp j1), i3⟩
    obtain ⟨a1, a2, a3, a4, a5, a6, a7, a8⟩ := fq_adv hn hn2 hk hl hs ho ho2 i4 (bS k (by omega)) sp i5 (bG k (by omega))
    have e1 : (((k + 1 : Nat)) : Int) * (2 ^ 32 * (fq_one : Int)) = (k : Int) * (2 ^ 32 * (fq_one : Int)) + 2 ^ 32 * (fq_one : Int) := by push_cast; rw [Int.add_mul, Int.one_mul]
    have e2 : (((k + 1 : Nat)) : Int) * (16 * (fq_one : Int)) = (k : Int) * (16 * (fq_one : Int)) + 16 * (fq_one : Int) := by push_cast; rw [Int.add_mul, Int.one_mul]
    rw [e1, e2, ← Int.add_assoc, ← Int.add_assoc]
    have b1 := fq_span.b i1 i2 i3
    have b2 := fq_span.b a3 (Int.le_of_lt a4) (Int.le_trans a5 i3)
    have p := fq_subge i1 a3 fq_F0 (by rw [fq_Z0]; omega)
    rw [fq_Z0] at p
    have q := fq_suble i1 a3 i1 (by omega)
    exact ⟨(fq_sub b1 b2 (by decide)).f (by decide), p, Int.le_trans q i3, a8 j2, a7⟩
theorem fq_first {P Q : Nat → Prop} (dP : ∀ k, P k ∨ Q k) : ∀ M, ∃ N, N ≤ M ∧ (∀ k, k < N → P k) ∧ (N = M ∨ Q N) := by
  intro M
  induction M with
  | zero => exact ⟨0, Nat.le_refl _, fun k hk => by omega, Or.inl rfl⟩
  | succ M ih =>
    obtain ⟨N, h1, h2, h3⟩ := ih
    rcases h3 with h3 | h3
    · rcases dP N with q | q
      · refine ⟨M + 1, Nat.le_refl _, fun k hk => ?_, Or.inl rfl⟩
        by_cases e : k = N
        · rw [e]; exact q
        · exact h2 k (by omega)
      · exact ⟨N, by omega, h2, Or.inr q⟩
    · exact ⟨N, by omega, h2, Or.inr h3⟩
def fq_goC (kd lim sol ord n : Nat) (b : UInt64 × (Nat → UInt64) × (Nat → UInt64) × UInt64 × Int32 × Int32) : Prop := fz_le 4562254508917369340 b.1 = true ∧ fz_advOk kd lim sol ord n b.1 b.2.1 b.2.2.1 b.2.2.2.1 ∧ fz_kx kd lim sol ord n b.1 b.2.1 b.2.2.1 < 5 ∧ vf_n64 (FP.dsub b.1 (fz_tk kd lim sol ord n b.1 b.2.1 b.2.2.1))
def fq_goM (kd lim sol ord n : Nat) (b : UInt64 × (Nat → UInt64) × (Nat → UInt64) × UInt64 × Int32 × Int32) : Prop := fz_lt b.1 4562254508917369340 = false ∧ fz_mdOk kd lim sol ord n b.1 b.2.1 b.2.2.1 b.2.2.2.1 ∧ fz_kx kd lim sol ord n b.1 b.2.1 b.2.2.1 < 5 ∧ vf_n64 (FP.dsub b.1 (fz_tk kd lim sol ord n b.1 b.2.1 b.2.2.1)) ∧ fz_eq (fz_tk kd lim sol ord n b.1 b.2.1 b.2.2.1) FP.dconst0 = false
theorem fq_go {kd lim sol ord n : Nat} {b : UInt64 × (Nat → UInt64) × (Nat → UInt64) × UInt64 × Int32 × Int32} {S G : Int} (hn : 4 ≤ n) (hn2 : n ≤ 24) (hk : kd ≤ 2) (hl : lim ≤ 3) (hs : sol ≤ 1) (ho : 1 ≤ ord) (ho2 : ord ≤ 2) (i1 : fq_F b.1) (i2 : 0 ≤ fq_Z b.1) (i3 : fq_Z b.1 ≤ 10 * (fq_one : Int)) (i4 : fq_St S n b.2.1 b.2.2.1) (hS : S < (3 * 2 ^ 45) * (fq_one : Int)) (i5 : fq_tm G b.2.2.2.1) (hG : G ≤ 2 ^ 20 * (fq_one : Int)) (j1 : fz_le 4562254508917369340 b.1 = true) : fz_lt b.1 4562254508917369340 = false ∧ fz_advOk kd lim sol ord n b.1 b.2.1 b.2.2.1 b.2.2.2.1 ∧ fz_mdOk kd lim sol ord n b.1 b.2.1 b.2.2.1 b.2.2.2.1 ∧ vf_n64 (FP.dsub b.1 (fz_tk kd lim sol ord n b.1 b.2.1 b.2.2.1)) ∧ fz_eq (fz_tk kd lim sol ord n b.1 b.2.1 b.2.2.1) FP.dconst0 = false := by
  have l := (fq_le fq_Fm i1).mp j1
  have sp : fq_span b.1 := ⟨i1, Int.le_trans fq_Zm l, i3⟩
  obtain ⟨a1, a2, a3, a4, a5, a6, a7, a8⟩ := fq_adv hn hn2 hk hl hs ho ho2 i4 hS sp i5 hG
  have b1 := fq_span.b i1 i2 i3
  have b2 := fq_span.b a3 (Int.le_of_lt a4) (Int.le_trans a5 i3)
  exact ⟨(fq_ltF i1 fq_Fm).mpr l, a1, a2, (fq_sub b1 b2 (by decide)).n (by decide), a6⟩
theorem fq_run {kd lim sol ord n : Nat} {t gone : UInt64} {st fl : Int32} {d m d' m' : Nat → UInt64} {S G : Int} (hn : 4 ≤ n) (hn2 : n ≤ 24) (hk : kd ≤ 2) (hl : lim ≤ 3) (hs : sol ≤ 1) (ho : 1 ≤ ord) (ho2 : ord ≤ 2) (h : fq_St S n d m) (hS : S + 40 * (2 ^ 32 * (fq_one : Int)) < (3 * 2 ^ 45) * (fq_one : Int)) (ht : fq_span t) (hg : fq_tm G gone) (hG : G + 40 * (16 * (fq_one : Int)) ≤ 2 ^ 20 * (fq_one : Int)) (e1 : fz_int n d' d) (e2 : fz_int n m' m) : ∃ N, N ≤ 40 ∧ (∀ k, k < N → fq_goC kd lim sol ord n (fz_rs kd lim sol ord n t d m gone st fl k)) ∧ (∀ k, k < N → fq_goM kd lim sol ord n (fz_rs kd lim sol ord n t d' m' gone st fl k)) ∧ fq_St (S + 40 * (2 ^ 32 * (fq_one : Int))) n (fz_rs kd lim sol ord n t d m gone st fl N).2.1 (fz_rs kd lim sol ord n t d m gone st fl N).2.2.1 ∧ fq_tm (G + 40 * (16 * (fq_one : Int))) (fz_rs kd lim sol ord n t d m gone st fl N).2.2.2.1 ∧ (((N = 40 ∨ fz_le 4562254508917369340 (fz_rs kd lim sol ord n t d m gone st fl N).1 = false) ∧ (N = 40 ∨ fz_lt (fz_rs kd lim sol ord n t d' m' gone st fl N).1 4562254508917369340 = true)) ∨ (N < 40 ∧ (∀ k, k ≤ N → fz_le 4562254508917369340 (fz_rs kd lim sol ord n t d m gone st fl k).1 = true) ∧ (∀ k, k ≤ N → fz_lt (fz_rs kd lim sol ord n t d' m' gone st fl k).1 4562254508917369340 = false) ∧ (fz_advOk kd lim sol ord n (fz_rs kd lim sol ord n t d m gone st fl N).1 (fz_rs kd lim sol ord n t d m gone st fl N).2.1 (fz_rs kd lim sol ord n t d m gone st fl N).2.2.1 (fz_rs kd lim sol ord n t d m gone st fl N).2.2.2.1 ∧ 5 ≤ fz_kx kd lim sol ord n (fz_rs kd lim sol ord n t d m gone st fl N).1 (fz_rs kd lim sol ord n t d m gone st fl N).2.1 (fz_rs kd lim sol ord n t d m gone st fl N).2.2.1) ∧ (fz_mdOk kd lim sol ord n (fz_rs kd lim sol ord n t d' m' gone st fl N).1 (fz_rs kd lim sol ord n t d' m' gone st fl N).2.1 (fz_rs kd lim sol ord n t d' m' gone st fl N).2.2.1 (fz_rs kd lim sol ord n t d' m' gone st fl N).2.2.2.1 ∧ 5 ≤ fz_kx kd lim sol ord n (fz_rs kd lim sol ord n t d' m' gone st fl N).1 (fz_rs kd lim sol ord n t d' m' gone st fl N).2.1 (fz_rs kd lim sol ord n t d' m' gone st fl N).2.2.1))) := by
  have hO := fq_oneI
  have mS : ∀ k : Nat, k ≤ 40 → S + (k : Int) * (2 ^ 32 * (fq_one : Int)) ≤ S + 40 * (2 ^ 32 * (fq_one : Int)) := fun k hk => Int.add_le_add_left (Int.mul_le_mul_of_nonneg_right (by omega) (by generalize (fq_one : Int) = O at *; omega)) S
  have mG : ∀ k : Nat, k ≤ 40 → G + (k : Int) * (16 * (fq_one : Int)) ≤ G + 40 * (16 * (fq_one : Int)) := fun k hk => Int.add_le_add_left (Int.mul_le_mul_of_nonneg_right (by omega) (by generalize (fq_one : Int) = O at *; omega)) G
  have rc := fq_runs (st := st) (fl := fl) hn hn2 hk hl hs ho ho2 h hS ht hg hG
  have re := fz_rs_e (kd := kd) (lim := lim) (sol := sol) (ord := ord) (all := t) (gone := gone) (st := st) (fl := fl) hn e1 e2
  obtain ⟨N, n1, n2, n3⟩ := fq_first (P := fun j => fz_le 4562254508917369340 (fz_rs kd lim sol ord n t d m gone st fl j).1 = true ∧ fz_kx kd lim sol ord n (fz_rs kd lim sol ord n t d m gone st fl j).1 (fz_rs kd lim sol ord n t d m gone st fl j).2.1 (fz_rs kd lim sol ord n t d m gone st fl j).2.2.1 < 5) (Q := fun j => fz_le 4562254508917369340 (fz_rs kd lim sol ord n t d m gone st fl j).1 = false ∨ (fz_le 4562254508917369340 (fz_rs kd lim sol ord n t d m gone st fl j).1 = true ∧ 5 ≤ fz_kx kd lim sol ord n (fz_rs kd lim sol ord n t d m gone st fl j).1 (fz_rs kd lim sol ord n t d m gone st fl j).2.1 (fz_rs kd lim sol ord n t d m gone st fl j).2.2.1)) (fun k => by
    rcases Bool.eq_false_or_eq_true (fz_le 4562254508917369340 (fz_rs kd lim sol ord n t d m gone st fl k).1) with q | q
    · by_cases w : fz_kx kd lim sol ord n (fz_rs kd lim sol ord n t d m gone st fl k).1 (fz_rs kd lim sol ord n t d m gone st fl k).2.1 (fz_rs kd lim sol ord n t d m gone st fl k).2.2.1 < 5
      · exact Or.inl ⟨q, w⟩
      · exact Or.inr (Or.inr ⟨q, by omega⟩)
    · exact Or.inr (Or.inl q)) 40
  have at' := fun k (hk : k ≤ N) => rc k (by omega) (fun j hj => n2 j (by omega))
  have goA := fun k (hkN : k ≤ N) (j1 : fz_le 4562254508917369340 (fz_rs kd lim sol ord n t d m gone st fl k).1 = true) => fq_go (kd := kd) (lim := lim) (sol := sol) (ord := ord) hn hn2 hk hl hs ho ho2 (at' k hkN).1 (at' k hkN).2.1 (at' k hkN).2.2.1 (at' k hkN).2.2.2.1 (Int.lt_of_le_of_lt (mS k (by omega)) hS) (at' k hkN).2.2.2.2 (Int.le_trans (mG k (by omega)) hG) j1
  have goB := fun k (hkN : k ≤ N) (j1 : fz_le 4562254508917369340 (fz_rs kd lim sol ord n t d m gone st fl k).1 = true) => fq_go (kd := kd) (lim := lim) (sol := sol) (ord := ord) (b := fz_rs kd lim sol ord n t d' m' gone st fl k) hn hn2 hk hl hs ho ho2 (by rw [(re k).1]; exact (at' k hkN).1) (by rw [(re k).1]; exact (at' k hkN).2.1) (by rw [(re k).1]; exact (at' k hkN).2.2.1) (fq_St_e (at' k hkN).2.2.2.1 (re k).2.1 (re k).2.2.1) (Int.lt_of_le_of_lt (mS k (by omega)) hS) (by rw [(re k).2.2.2.1]; exact (at' k hkN).2.2.2.2) (Int.le_trans (mG k (by omega)) hG) (by rw [(re k).1]; exact j1)
  have kxe := fun k => show fz_kx kd lim sol ord n (fz_rs kd lim sol ord n t d' m' gone st fl k).1 (fz_rs kd lim sol ord n t d' m' gone st fl k).2.1 (fz_rs kd lim sol ord n t d' m' gone st fl k).2.2.1 = fz_kx kd lim sol ord n (fz_rs kd lim sol ord n t d m gone st fl k).1 (fz_rs kd lim sol ord n t d m gone st fl k).2.1 (fz_rs kd lim sol ord n t d m gone st fl k).2.2.1 by rw [(re k).1]; exact fz_kx_e hn (re k).2.1 (re k).2.2.1
  refine ⟨N, n1, fun k hk => ?_, fun k hk => ?_, (at' N (Nat.le_refl _)).2.2.2.1.mono (mS N n1), (at' N (Nat.le_refl _)).2.2.2.2.mono (mG N n1), ?_⟩
  · obtain ⟨g1, g2, g3, g4, g5⟩ := goA k (by omega) (n2 k hk).1
    exact ⟨(n2 k hk).1, g2, (n2 k hk).2, g4⟩
  · obtain ⟨g1, g2, g3, g4, g5⟩ := goB k (by omega) (n2 k hk).1
    exact ⟨g1, g3, by rw [kxe]; exact (n2 k hk).2, g4, g5⟩
  · rcases n3 with n3 | n3 | n3
    · exact Or.inl ⟨Or.inl n3, Or.inl n3⟩
    · refine Or.inl ⟨Or.inr n3, Or.inr ?_⟩
      rw [(re N).1, fq_lt (at' N (Nat.le_refl _)).1 fq_Fm]
      exact (fq_leF fq_Fm (at' N (Nat.le_refl _)).1).mp n3
    · by_cases h40 : N = 40
      · exact Or.inl ⟨Or.inl h40, Or.inl h40⟩
      · have le : ∀ k, k ≤ N → fz_le 4562254508917369340 (fz_rs kd lim sol ord n t d m gone st fl k).1 = true := fun k hk => by
          by_cases e : k = N
          · rw [e]; exact n3.1
          · exact (n2 k (by omega)).1
        exact Or.inr ⟨by omega, le, fun k hk => (goB k hk (le k hk)).1, ⟨(goA N (Nat.le_refl _) n3.1).2.1, n3.2⟩, ⟨(goB N (Nat.le_refl _) n3.1).2.2.1, by rw [kxe]; exact n3.2⟩⟩
