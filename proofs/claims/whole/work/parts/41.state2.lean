/-! the time of a step, and its tries -/
theorem fq_St.side {n : Nat} {d m : Nat → UInt64} (h : fq_cells n d m) {j : Nat} (hj : j < n) : fq_side (d (j + 2)) (m (j + 2)) := ⟨(h j hj).1.mono (by decide), (h j hj).2.mono (by decide)⟩
theorem fq_w {n : Nat} {d m : Nat → UInt64} (h : fq_cells n d m) : ∀ k, k ≤ n → fq_b 1154 (fz_wC d m k) ∧ (1 ≤ k → ((2 ^ 1060 : Nat) : Int) ≤ fq_Z (fz_wC d m k)) := by
  intro k
  induction k with
  | zero => intro _; exact ⟨fq_b0.mono (by decide), fun h => absurd h (by decide)⟩
  | succ k ih =>
    intro hk
    have i := ih (by omega)
    have r := (fq_St.side h (show k < n by omega)).r
    have g := fq_gtrC (i.1.f (by decide)) (r.1.f (by decide))
    unfold fz_wC
    refine ⟨?_, fun _ => Int.le_trans r.2 g.2.2.1⟩
    unfold fz_gtrC
    exact fq_ite i.1 r.1
theorem fq_wOk {n : Nat} {d m : Nat → UInt64} (h : fq_cells n d m) : fz_wOk d m n ∧ fz_wOkM d m n := by
  have r := fun k (hk : k < n) => (fq_St.side h hk).r
  refine ⟨fun k hk => ⟨(fq_St.side h hk).st, (r k hk).1.n (by decide)⟩, fun k hk => ⟨(fq_St.side h hk).st, (r k hk).1.n (by decide), ?_⟩⟩
  have i := fq_w h k (by omega)
  exact fq_gtr (i.1.f (by decide)) ((r k hk).1.f (by decide)) (Or.inr (Int.ne_of_gt (Int.lt_of_lt_of_le (by exact_mod_cast Nat.two_pow_pos 1060) (r k hk).2)))
theorem fq_F4 : fq_F 4600877379321698714 := (FP.Core.fin_bits _).mpr (by decide)
theorem fq_b4 : fq_b 1022 4600877379321698714 := by unfold fq_b; decide
theorem fq_Z4 : ((2 ^ 1072 : Nat) : Int) ≤ fq_Z 4600877379321698714 := by decide +kernel
def fq_span (x : UInt64) : Prop := fq_F x ∧ ((2 ^ 941 : Nat) : Int) ≤ fq_Z x ∧ fq_Z x ≤ 10 * (fq_one : Int)
theorem fq_oneZ : (fq_one : Int) = ((2 ^ 1074 : Nat) : Int) := rfl
theorem fq_span.b {x : UInt64} (h : fq_F x) (h0 : 0 ≤ fq_Z x) (h1 : fq_Z x ≤ 10 * (fq_one : Int)) : fq_b 1027 x := by
  refine fq_bof h (by decide) ?_
  rw [show (2 : Nat) ^ 52 * 2 ^ (1027 - 1) = 16 * fq_one from by decide +kernel]
  have := fq_oneP
  generalize fq_one = O at *
  omega
theorem fq_quot {w : UInt64} (hw : fq_b 1154 w) (hw0 : ((2 ^ 1060 : Nat) : Int) ≤ fq_Z w) : fq_b 1037 (FP.ddiv 4600877379321698714 w) ∧ ((2 ^ 941 : Nat) : Int) ≤ fq_Z (FP.ddiv 4600877379321698714 w) := by
  have fw := hw.f (by decide)
  have wp : 0 < fq_Z w := Int.lt_of_lt_of_le (by exact_mod_cast Nat.two_pow_pos 1060) hw0
  have d1 := (fq_div fq_b4 (fq_big fw (k := 1060) (by decide) hw0) fw (by decide) (by decide)).mono (k := 1037) (by decide)
  refine ⟨d1, ?_⟩
  have z4 := fq_Z4
  have p := fq_quoP fq_F4 fw (Int.le_trans (Int.natCast_nonneg _) z4) wp
  obtain ⟨v, v1, v2⟩ := fq_repP 941 (by decide)
  have hv : (fq_Z v).natAbs = 2 ^ 941 := by rw [v2]; rfl
  have q := fq_quoge (v := v) fq_F4 fw (by omega) (by
    rw [hv]
    have l1 := fq_Zlt hw (by decide)
    refine Nat.le_trans (Nat.mul_le_mul_left _ (Nat.le_of_lt l1)) ?_
    have l2 : 2 ^ 1072 ≤ (fq_Z 4600877379321698714).natAbs := by
      generalize (2 : Nat) ^ 1072 = P at *
      omega
    refine Nat.le_trans ?_ (Nat.mul_le_mul_right _ l2)
    unfold fq_one
    rw [← Nat.pow_add, ← Nat.pow_add, ← Nat.pow_add]
    exact Nat.pow_le_pow_right (by decide) (by decide))
  rw [hv] at q
  generalize (2 : Nat) ^ 941 = P at *
  omega
theorem fq_t0 {n : Nat} {most : UInt64} {d m : Nat → UInt64} (hn : 1 ≤ n) (h : fq_cells n d m) (hm : fq_span most) : fq_span (fz_t0 n most d m) ∧ fq_Z (fz_t0 n most d m) ≤ fq_Z most ∧ fz_longM most (fz_wC d m n) = fz_t0 n most d m ∧ vf_n64 (FP.ddiv 4600877379321698714 (fz_wC d m n)) := by
  obtain ⟨w1, w2⟩ := fq_w h n (Nat.le_refl _)
  obtain ⟨q1, q2⟩ := fq_quot w1 (w2 hn)
  have fq := q1.f (by decide)
  have w0 : fz_lt FP.dconst0 (fz_wC d m n) = true := (fq_lt fq_F0 (w1.f (by decide))).mpr (by rw [fq_Z0]; exact Int.lt_of_lt_of_le (by exact_mod_cast Nat.two_pow_pos 1060) (w2 hn))
  have e : fz_t0 n most d m = fz_lesC most (FP.ddiv 4600877379321698714 (fz_wC d m n)) := by
    unfold fz_t0 fz_longC
    rw [if_pos w0]
  have l := fq_lesC hm.1 fq
  refine ⟨?_, ?_, ?_, q1.n (by decide)⟩
  · rw [e]
    refine ⟨l.1, ?_, Int.le_trans l.2.1 hm.2.2⟩
    rcases l.2.2.2 with q | q <;> rw [q]
    · exact hm.2.1
    · exact q2
  · rw [e]; exact l.2.1
  · rw [e]
    unfold fz_longM fz_lesC
    by_cases c : fq_Z most ≤ fq_Z (FP.ddiv 4600877379321698714 (fz_wC d m n))
    · have c2 : ¬ fz_lt (FP.ddiv 4600877379321698714 (fz_wC d m n)) most = true := by rw [fq_lt fq hm.1]; omega
      rw [if_neg c2, if_pos ((fq_le hm.1 fq).mpr c)]
    · rw [if_pos ((fq_lt fq hm.1).mpr (by omega)), if_neg (by rw [fq_le hm.1 fq]; exact c)]
theorem fq_hv {t : UInt64} (h : fq_span t) : ∀ k, k ≤ 5 → fq_F (fz_hv t k) ∧ ((2 ^ (941 - k) : Nat) : Int) ≤ fq_Z (fz_hv t k) ∧ fq_Z (fz_hv t k) ≤ fq_Z t ∧ fq_b 1027 (fz_hv t k) := by
  have b0 := fq_span.b h.1 (Int.le_trans (Int.natCast_nonneg _) h.2.1) h.2.2
  intro k
  induction k with
  | zero => intro _; exact ⟨h.1, h.2.1, Int.le_refl _, b0⟩
  | succ k ih =>
    intro hk
    obtain ⟨i1, i2, i3, i4⟩ := ih (by omega)
    unfold fz_hv
    have p : 0 ≤ fq_Z (fz_hv t k) := Int.le_trans (Int.natCast_nonneg _) i2
    have f := (fq_mul fq_bh i4 (by decide) (by decide)).f (by decide)
    have u := fq_halfle i1 i1 (by omega)
    obtain ⟨v, v1, v2⟩ := fq_repP (941 - (k + 1)) (by omega)
    have l := fq_halfge (w := v) i1 v1 (by
      rw [v2]
      have e : ((2 ^ (941 - (k + 1)) : Nat) : Int) * 2 = ((2 ^ (941 - k) : Nat) : Int) := by
        rw [show 941 - k = 941 - (k + 1) + 1 by omega, Nat.pow_succ]; push_cast; rfl
      rw [e]; exact i2)
    rw [v2] at l
    exact ⟨f, l, Int.le_trans u i3, fq_span.b f (Int.le_trans (Int.natCast_nonneg _) l) (Int.le_trans u (Int.le_trans i3 h.2.2))⟩
def fq_tm (G : Int) (x : UInt64) : Prop := fq_F x ∧ 0 ≤ fq_Z x ∧ fq_Z x ≤ G
theorem fq_tm.b {G : Int} {x : UInt64} (h : fq_tm G x) (hG : G ≤ 2 ^ 20 * (fq_one : Int)) : fq_b 1045 x := by
  refine fq_bof h.1 (by decide) ?_
  rw [show (2 : Nat) ^ 52 * 2 ^ (1045 - 1) = 2 ^ 22 * fq_one from by decide +kernel]
  obtain ⟨_, h1, h2⟩ := h
  have := fq_oneP
  generalize fq_one = O at *
  omega
theorem fq_tm.add {G : Int} {x t : UInt64} (h : fq_tm G x) (hG : G ≤ 2 ^ 20 * (fq_one : Int)) (ht : fq_F t) (t0 : 0 ≤ fq_Z t) (t1 : fq_Z t ≤ 10 * (fq_one : Int)) : vf_n64 (FP.dadd x t) ∧ fq_tm (G + 16 * (fq_one : Int)) (FP.dadd x t) := by
  have b := h.b hG
  have bt := fq_span.b ht t0 t1
  have s := fq_add b (bt.mono (by decide)) (by decide)
  have e := (fq_radd h.1 ht).err (by decide) (Nat.lt_of_le_of_lt (by omega) (fq_zbE (fq_zb b (by decide)) (fq_zb bt (by decide))))
  simp only [Int.natCast_one, Int.mul_one, Nat.mul_one] at e
  have p := fq_addge h.1 ht fq_F0 (by rw [fq_Z0]; have := h.2.1; omega)
  rw [fq_Z0] at p
  refine ⟨s.n (by decide), s.f (by decide), p, ?_⟩
  have hO := fq_oneI
  obtain ⟨_, h1, h2⟩ := h
  generalize (fq_one : Int) = O at *
  omega
theorem fq_adv {kd lim sol ord n : Nat} {most gone : UInt64} {d m : Nat → UInt64} {S G : Int} (hn : 4 ≤ n) (hn2 : n ≤ 24) (hk : kd ≤ 2) (hl : lim ≤ 3) (hs : sol ≤ 1) (ho : 1 ≤ ord) (ho2 : ord ≤ 2) (h : fq_St S n d m) (hS : S < (3 * 2 ^ 45) * (fq_one : Int)) (hm : fq_span most) (hg : fq_tm G gone) (hG : G ≤ 2 ^ 20 * (fq_one : Int)) : fz_advOk kd lim sol ord n most d m gone ∧ fz_mdOk kd lim sol ord n most d m gone ∧ fq_F (fz_tk kd lim sol ord n most d m) ∧ 0 < fq_Z (fz_tk kd lim sol ord n most d m) ∧ fq_Z (fz_tk kd lim sol ord n most d m) ≤ fq_Z most ∧ fz_eq (fz_tk kd lim sol ord n most d m) FP.dconst0 = false ∧ fq_tm (G + 16 * (fq_one : Int)) (FP.dadd gone (fz_tk kd lim sol ord n most d m)) ∧ (fz_kx kd lim sol ord n most d m < 5 → fq_St (S + 2 ^ 32 * (fq_one : Int)) n (fz_newD kd lim sol ord n (fz_tk kd lim sol ord n most d m) d m) (fz_newM kd lim sol ord n (fz_tk kd lim sol ord n most d m) d m)) := by
  have hS0 : S < 2 ^ 47 * (fq_one : Int) := by have := fq_oneI; generalize (fq_one : Int) = O at *; omega
  have c := h.cells hS0
  obtain ⟨t1, t2, t3, t4⟩ := fq_t0 (by omega) c hm
  have wk := fq_wOk c
  have hv := fq_hv t1
  have nn : ∀ k, k ≤ 5 → 0 < fq_Z (fz_hv (fz_t0 n most d m) k) := fun k hk => Int.lt_of_lt_of_le (by exact_mod_cast Nat.two_pow_pos (941 - k)) (hv k hk).2.1
  have tr := fun j (hj : j ≤ 5) => fq_try (ord := ord) hn hn2 hk hl hs ho ho2 (hv j hj).2.2.2 (Int.le_of_lt (nn j hj)) h hS
  have ad := fun j (hj : j ≤ 5) => hg.add hG (hv j hj).1 (Int.le_of_lt (nn j hj)) (Int.le_trans (hv j hj).2.2.1 t1.2.2)
  have hf := fun j (hj : j ≤ 5) => (fq_mul fq_bh (hv j hj).2.2.2 (by decide) (by decide)).n (by decide)
  have k5 : fz_kx kd lim sol ord n most d m ≤ 5 := fz_first_le _
  have tk : fz_tk kd lim sol ord n most d m = fz_hv (fz_t0 n most d m) (fz_kx kd lim sol ord n most d m) := rfl
  refine ⟨⟨wk.1, fun _ => t4, fun j hj => ⟨(tr j (by omega)).1, hf j (by omega), (ad j (by omega)).1⟩⟩, ⟨⟨wk.2, t4, t3⟩, fun j hj => ⟨(tr j (by omega)).2.1, hf j (by omega), (ad j (by omega)).1⟩⟩, (hv _ k5).1, nn _ k5, Int.le_trans (hv _ k5).2.2.1 t2, ?_, (ad _ k5).2, fun hx => (tr _ k5).2.2 (fz_first_good hx)⟩
  rw [tk, ← Bool.not_eq_true, fq_eqv (hv _ k5).1 fq_F0, fq_Z0]
  exact Int.ne_of_gt (nn _ k5)
/-! the sums -/
theorem fq_kah {n : Nat} {f : Nat → UInt64} (h : ∀ j, j < n → fq_b 1070 (f (j + 2))) (hn : n ≤ 24) : ∀ k, k ≤ n → fq_b (1070 + 8 * k) (fz_kah f k).1 ∧ fq_b (1070 + 8 * k) (fz_kah f k).2 := by
  intro k
  induction k with
  | zero => intro _; exact ⟨fq_b0.mono (by decide), fq_b0.mono (by decide)⟩
  | succ k ih =>
    intro hk
    obtain ⟨i1, i2⟩ := ih (by omega)
    have a1 := fq_sub ((h k (by omega)).mono (k := 1070 + 8 * k) (by omega)) i2 (by omega)
    have a2 := fq_add (i1.mono (k := 1070 + 8 * k + 2) (by omega)) a1 (by omega)
    have a3 := fq_sub a2 (i1.mono (k := 1070 + 8 * k + 2 + 2) (by omega)) (by omega)
    have a4 := fq_sub a3 (a1.mono (k := 1070 + 8 * k + 2 + 2 + 2) (by omega)) (by omega)
    unfold fz_kah
    exact ⟨a2.mono (by omega), a4.mono (by omega)⟩
theorem fq_kahOk {n : Nat} {f : Nat → UInt64} (h : ∀ j, j < n → fq_b 1070 (f (j + 2))) (hn : n ≤ 24) : fz_kahOk f n := fun k hk => by
  obtain ⟨i1, i2⟩ := fq_kah h hn k (by omega)
  have a1 := fq_sub ((h k (by omega)).mono (k := 1070 + 8 * k) (by omega)) i2 (by omega)
  have a2 := fq_add (i1.mono (k := 1070 + 8 * k + 2) (by omega)) a1 (by omega)
  have a3 := fq_sub a2 (i1.mono (k := 1070 + 8 * k + 2 + 2) (by omega)) (by omega)
  have a4 := fq_sub a3 (a1.mono (k := 1070 + 8 * k + 2 + 2 + 2) (by omega)) (by omega)
  exact ⟨a1.n (by omega), a2.n (by omega), a3.n (by omega), a4.n (by omega)⟩
