/-! rows that agree on the cells give the same stage, the same answer of a try, the same new cells -/
def fz_tryOkM (kd lim sol ord n : Nat) (t : UInt64) (d m : Nat → UInt64) : Prop := fz_stgOkM kd lim sol n t d m ∧ (ord = 2 → fz_anyBad (fz_stD kd lim sol n t d m) (fz_stM kd lim sol n t d m) n = false → fz_stgOkM kd lim sol n t (fz_stD kd lim sol n t d m) (fz_stM kd lim sol n t d m) ∧ (fz_anyBad (fz_st2D kd lim sol n t d m) (fz_st2M kd lim sol n t d m) n = false → fz_mtOk d (fz_st2D kd lim sol n t d m) n ∧ fz_mtOk m (fz_st2M kd lim sol n t d m) n))
theorem fz_int.rf {n : Nat} {d : Nat → UInt64} : fz_int n d d := fun _ _ => rfl
theorem fz_int.sy {n : Nat} {d d' : Nat → UInt64} (h : fz_int n d d') : fz_int n d' d := fun j hj => (h j hj).symm
theorem fz_int.tr {n : Nat} {d d' d'' : Nat → UInt64} (h : fz_int n d d') (g : fz_int n d' d'') : fz_int n d d'' := fun j hj => (h j hj).trans (g j hj)
theorem fz_ends_in {kd n j : Nat} {sg : Bool} {d : Nat → UInt64} (hj : j < n) : fz_ends kd sg n d (j + 2) = d (j + 2) := by
  unfold fz_ends
  simp [show ¬ j = n by omega, show ¬ j = n + 1 by omega]
section CG2
variable {kd lim sol ord n : Nat} {t : UInt64} {d d' m m' : Nat → UInt64}
theorem fz_at4_e {sg : Bool} {k : Nat} (hn4 : 4 ≤ n) (h : fz_int n d d') (hk : k ≤ n) : fz_at4 (fz_ends kd sg n d) (fz_ends kd sg n d') k k := ⟨fz_ends_cg hn4 h (by omega), fz_ends_cg hn4 h (by omega), fz_ends_cg hn4 h (by omega), fz_ends_cg hn4 h (by omega)⟩
theorem fz_FHi_e {k : Nat} (hn4 : 4 ≤ n) (h : fz_int n d d') (g : fz_int n m m') (hk : k ≤ n) : fz_FHi lim sol (fz_ends kd false n d) (fz_ends kd true n m) k = fz_FHi lim sol (fz_ends kd false n d') (fz_ends kd true n m') k := fz_FHi_cg sol (fz_at4_e hn4 h hk) (fz_at4_e hn4 g hk)
theorem fz_FMi_e {k : Nat} (hn4 : 4 ≤ n) (h : fz_int n d d') (g : fz_int n m m') (hk : k ≤ n) : fz_FMi lim sol (fz_ends kd false n d) (fz_ends kd true n m) k = fz_FMi lim sol (fz_ends kd false n d') (fz_ends kd true n m') k := fz_FMi_cg sol (fz_at4_e hn4 h hk) (fz_at4_e hn4 g hk)
theorem fz_mvH_e {j : Nat} (hn4 : 4 ≤ n) (h : fz_int n d d') (g : fz_int n m m') (hj : j < n) : fz_mvG t (fz_ends kd false n d) (fz_FHi lim sol (fz_ends kd false n d) (fz_ends kd true n m)) j = fz_mvG t (fz_ends kd false n d') (fz_FHi lim sol (fz_ends kd false n d') (fz_ends kd true n m')) j := by
  unfold fz_mvG
  rw [fz_FHi_e hn4 h g (by omega), fz_FHi_e hn4 h g (show j ≤ n by omega), fz_ends_cg hn4 h (by omega)]
theorem fz_mvM_e {j : Nat} (hn4 : 4 ≤ n) (h : fz_int n d d') (g : fz_int n m m') (hj : j < n) : fz_mvG t (fz_ends kd true n m) (fz_FMi lim sol (fz_ends kd false n d) (fz_ends kd true n m)) j = fz_mvG t (fz_ends kd true n m') (fz_FMi lim sol (fz_ends kd false n d') (fz_ends kd true n m')) j := by
  unfold fz_mvG
  rw [fz_FMi_e hn4 h g (by omega), fz_FMi_e hn4 h g (show j ≤ n by omega), fz_ends_cg hn4 g (by omega)]
theorem fz_stD_e (hn4 : 4 ≤ n) (h : fz_int n d d') (g : fz_int n m m') : fz_int n (fz_stD kd lim sol n t d m) (fz_stD kd lim sol n t d' m') := fun j hj => by
  unfold fz_stD
  rw [fz_pre_in _ _ hj, fz_pre_in _ _ hj, fz_mvH_e hn4 h g hj]
theorem fz_stM_e (hn4 : 4 ≤ n) (h : fz_int n d d') (g : fz_int n m m') : fz_int n (fz_stM kd lim sol n t d m) (fz_stM kd lim sol n t d' m') := fun j hj => by
  unfold fz_stM
  rw [fz_pre_in _ _ hj, fz_pre_in _ _ hj, fz_mvM_e hn4 h g hj]
theorem fz_anyBad_e (h : fz_int n d d') (g : fz_int n m m') : ∀ k, k ≤ n → fz_anyBad d m k = fz_anyBad d' m' k := by
  intro k
  induction k with
  | zero => intro _; rfl
  | succ k ih =>
    intro hk
    unfold fz_anyBad fz_bad
    rw [ih (by omega), h k (by omega), g k (by omega)]
theorem fz_stgOkM_cg (hn4 : 4 ≤ n) (h : fz_int n d d') (g : fz_int n m m') (ok : fz_stgOkM kd lim sol n t d' m') : fz_stgOkM kd lim sol n t d m := by
  refine ⟨fun k hk => fz_fcOk_cg (fz_at4_e hn4 h hk) (fz_at4_e hn4 g hk) (ok.1 k hk), fun j hj => ?_, fun j hj => ?_⟩
  · have := ok.2.1 j hj
    rw [fz_mvH_e hn4 h g hj, fz_FHi_e hn4 h g (by omega), fz_FHi_e hn4 h g (show j ≤ n by omega)]
    exact this
  · have := ok.2.2 j hj
    rw [fz_mvM_e hn4 h g hj, fz_FMi_e hn4 h g (by omega), fz_FMi_e hn4 h g (show j ≤ n by omega)]
    exact this
theorem fz_mtOk_cg {a a' : Nat → UInt64} (h : fz_int n d d') (g : fz_int n a a') (ok : fz_mtOk a' d' n) : fz_mtOk a d n := fun j hj => by
  have := ok j hj
  unfold fz_mtG at *
  rw [h j hj, g j hj]; exact this
theorem fz_st2D_e (hn4 : 4 ≤ n) (h : fz_int n d d') (g : fz_int n m m') : fz_int n (fz_st2D kd lim sol n t d m) (fz_st2D kd lim sol n t d' m') := fz_stD_e hn4 (fz_stD_e hn4 h g) (fz_stM_e hn4 h g)
theorem fz_st2M_e (hn4 : 4 ≤ n) (h : fz_int n d d') (g : fz_int n m m') : fz_int n (fz_st2M kd lim sol n t d m) (fz_st2M kd lim sol n t d' m') := fz_stM_e hn4 (fz_stD_e hn4 h g) (fz_stM_e hn4 h g)
theorem fz_good_e (hn4 : 4 ≤ n) (h : fz_int n d d') (g : fz_int n m m') : fz_good kd lim sol ord n t d m = fz_good kd lim sol ord n t d' m' := by
  unfold fz_good
  rw [fz_anyBad_e (fz_stD_e hn4 h g) (fz_stM_e hn4 h g) n (Nat.le_refl n), fz_anyBad_e (fz_st2D_e hn4 h g) (fz_st2M_e hn4 h g) n (Nat.le_refl n)]
theorem fz_newD_e (hn4 : 4 ≤ n) (h : fz_int n d d') (g : fz_int n m m') : fz_int n (fz_newD kd lim sol ord n t d m) (fz_newD kd lim sol ord n t d' m') := by
  unfold fz_newD
  by_cases ho : ord = 1
  · rw [if_pos ho, if_pos ho]; exact fz_stD_e hn4 h g
  · rw [if_neg ho, if_neg ho]
    intro j hj
    rw [fz_pre_in _ _ hj, fz_pre_in _ _ hj]
    unfold fz_mtG
    rw [h j hj, fz_st2D_e hn4 h g j hj]
theorem fz_newM_e (hn4 : 4 ≤ n) (h : fz_int n d d') (g : fz_int n m m') : fz_int n (fz_newM kd lim sol ord n t d m) (fz_newM kd lim sol ord n t d' m') := by
  unfold fz_newM
  by_cases ho : ord = 1
  · rw [if_pos ho, if_pos ho]; exact fz_stM_e hn4 h g
  · rw [if_neg ho, if_neg ho]
    intro j hj
    rw [fz_pre_in _ _ hj, fz_pre_in _ _ hj]
    unfold fz_mtG
    rw [g j hj, fz_st2M_e hn4 h g j hj]
theorem fz_tryOkM_cg (hn4 : 4 ≤ n) (h : fz_int n d d') (g : fz_int n m m') (ok : fz_tryOkM kd lim sol ord n t d' m') : fz_tryOkM kd lim sol ord n t d m := by
  refine ⟨fz_stgOkM_cg hn4 h g ok.1, fun ho hb => ?_⟩
  have hD := fz_stD_e (kd := kd) (lim := lim) (sol := sol) (t := t) hn4 h g
  have hM := fz_stM_e (kd := kd) (lim := lim) (sol := sol) (t := t) hn4 h g
  rw [fz_anyBad_e hD hM n (Nat.le_refl n)] at hb
  have ok2 := ok.2 ho hb
  refine ⟨fz_stgOkM_cg hn4 hD hM ok2.1, fun hb2 => ?_⟩
  have hD2 := fz_st2D_e (kd := kd) (lim := lim) (sol := sol) (t := t) hn4 h g
  have hM2 := fz_st2M_e (kd := kd) (lim := lim) (sol := sol) (t := t) hn4 h g
  rw [fz_anyBad_e hD2 hM2 n (Nat.le_refl n)] at hb2
  exact ⟨fz_mtOk_cg hD2 h (ok2.2 hb2).1, fz_mtOk_cg hM2 g (ok2.2 hb2).2⟩
theorem fz_wC_e (h : fz_int n d d') (g : fz_int n m m') : ∀ k, k ≤ n → fz_wC d m k = fz_wC d' m' k := by
  intro k
  induction k with
  | zero => intro _; rfl
  | succ k ih =>
    intro hk
    unfold fz_wC
    rw [ih (by omega), h k (by omega), g k (by omega)]
theorem fz_t0_e {most : UInt64} (h : fz_int n d d') (g : fz_int n m m') : fz_t0 n most d m = fz_t0 n most d' m' := by
  unfold fz_t0
  rw [fz_wC_e h g n (Nat.le_refl n)]
theorem fz_kx_e {most : UInt64} (hn4 : 4 ≤ n) (h : fz_int n d d') (g : fz_int n m m') : fz_kx kd lim sol ord n most d m = fz_kx kd lim sol ord n most d' m' := by
  unfold fz_kx
  rw [fz_t0_e h g]
  congr 1
  funext j
  exact fz_good_e hn4 h g
theorem fz_tk_e {most : UInt64} (hn4 : 4 ≤ n) (h : fz_int n d d') (g : fz_int n m m') : fz_tk kd lim sol ord n most d m = fz_tk kd lim sol ord n most d' m' := by
  unfold fz_tk
  rw [fz_kx_e hn4 h g, fz_t0_e h g]
theorem fz_kah_e {f f' : Nat → UInt64} (h : fz_int n f f') : ∀ k, k ≤ n → fz_kah f k = fz_kah f' k := by
  intro k
  induction k with
  | zero => intro _; rfl
  | succ k ih =>
    intro hk
    unfold fz_kah
    rw [ih (by omega), h k (by omega)]
end CG2
/-! what the reference's rows hold behind its stages -/
section REF
variable {kd lim sol n : Nat} {t : UInt64} {d m g E2 : Nat → UInt64} {sg : Bool}
theorem fz_rf1 (hn : n ≤ 24) : fz_int n (fz_pre 30 n g (fz_put 0 d (fz_ends kd sg n (fz_row d 0)))) d := fun j hj => by
  rw [fz_pre_lt _ _ (by omega), show j + 2 = (j + 2) + 0 from rfl, fz_put_in _ _ (by omega), fz_ends_in hj]; rfl
theorem fz_rf2 (hn : n ≤ 24) {f : Nat → UInt64} (h : fz_int n f d) : fz_int n (fz_pre 58 n g (fz_put 28 f E2)) d := fun j hj => by
  rw [fz_pre_lt _ _ (by omega)]
  unfold fz_put
  rw [if_neg (by omega)]
  exact h j hj
theorem fz_rfD (hn : n ≤ 24) {f : Nat → UInt64} : fz_int n (fz_row (fz_pre 30 n (fz_mvG t (fz_ends kd false n (fz_row d 0)) (fz_FHi lim sol (fz_ends kd false n (fz_row d 0)) (fz_ends kd true n (fz_row m 0)))) f) 28) (fz_stD kd lim sol n t d m) := fun j hj => by
  show fz_pre 30 n _ f (j + 30) = _
  unfold fz_stD
  rw [fz_pre_in _ _ hj, fz_pre_in _ _ hj]; rfl
theorem fz_rfM (hn : n ≤ 24) {f : Nat → UInt64} : fz_int n (fz_row (fz_pre 30 n (fz_mvG t (fz_ends kd true n (fz_row m 0)) (fz_FMi lim sol (fz_ends kd false n (fz_row d 0)) (fz_ends kd true n (fz_row m 0)))) f) 28) (fz_stM kd lim sol n t d m) := fun j hj => by
  show fz_pre 30 n _ f (j + 30) = _
  unfold fz_stM
  rw [fz_pre_in _ _ hj, fz_pre_in _ _ hj]; rfl
end REF
