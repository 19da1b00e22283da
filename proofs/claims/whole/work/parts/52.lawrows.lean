/-! rows of the law's body, and its state -/
section FZL

variable {p : Program} {l : Launch} {e : Env} {R : Room} {s : State} {m : MethodId} {args : Array Value} {below : List Frame} {meth : Method} {c : Code} {H : Heap} {locs : List Loc} {cells slots : Nat} {Q : State → Prop}
variable {cc : ByteArray} {pc : Nat} {ls : Array Slot} {rest : List Value}

variable {D : va_G} {tys : List (ClassId × FieldType)} {ws : va_W} {A : Nat → Prop} {H0 : Heap}
/-- script[i] -/
theorem fz_sld {b L : Nat} {xs : Nat → Int32} (hx : p.tables.exec = Jvm.exec) (hb : c.code = cc) (hX : va_X b L xs s H0) (hbl : b < H0.size) (hbA : ¬ A b) (hS : va_S A H0 H locs) {i : Nat} {v : Int32} (hi : i < L) (hL : L ≤ 2560) (hv : xs i = v) (hdg : decode cc pc = .ok (.iaload, 1)) (kk : W p l e R s m args below meth c H locs cells slots Q (F0 m (pc + 1) ls (.int v :: rest))) : W p l e R s m args below meth c H locs cells slots Q (F0 m pc ls (.int (nI i) :: .ref b :: rest)) :=
  va_sld hx hb hX hbl hbA hS (vp_in_nI hi (by omega)) hdg (by rw [nI_clamp (by omega), hv]; exact kk)
theorem fz_lald {a : Nat} {cA : ClassId} {n : Nat} {f : Nat → Int64} {z : Int64} (hx : p.tables.exec = Jvm.exec) (hb : c.code = cc) (hK : va_K D vwCl tys s) (hP : va_P D vwCl ws H) (q0 t0 : Nat) (ha : ws[q0]? = some (a, .inl (cA, n, .inr (.inl f)))) (ht : tys[t0]? = some (cA, .long)) {i : Nat} (hi : i < n) (hn : n < 2 ^ 31) (hz : f i = z) (hdg : decode cc pc = .ok (.laload, 1)) (k : W p l e R s m args below meth c H locs cells slots Q (F0 m (pc + 1) ls (.long z :: rest))) : W p l e R s m args below meth c H locs cells slots Q (F0 m pc ls (.int (nI i) :: .ref a :: rest)) :=
  va_lald hx hb hK hP q0 t0 ha ht (vp_in_nI hi hn) hdg (by rw [nI_clamp (Nat.lt_trans hi hn), hz]; exact k)
theorem fz_daldz {a : Nat} {cA : ClassId} {n : Nat} {f : Nat → UInt64} {z : UInt64} (hx : p.tables.exec = Jvm.exec) (hb : c.code = cc) (hK : va_K D vwCl tys s) (hP : va_P D vwCl ws H) (q0 t0 : Nat) (ha : ws[q0]? = some (a, fz_da cA n f)) (ht : tys[t0]? = some (cA, .double)) {i : Nat} (hi : i < n) (hn : n < 2 ^ 31) (hz : f i = z) (hdg : decode cc pc = .ok (.daload, 1)) (k : W p l e R s m args below meth c H locs cells slots Q (F0 m (pc + 1) ls (.double z :: rest))) : W p l e R s m args below meth c H locs cells slots Q (F0 m pc ls (.int (nI i) :: .ref a :: rest)) :=
  fz_dald hx hb hK hP q0 t0 ha ht hi hn hdg (by rw [hz]; exact k)
/-- two longs alike -/
theorem fz_lcmpE {x : Int64} (hx : p.tables.exec = Jvm.exec) (hb : c.code = cc) (hdg : decode cc pc = .ok (.lcmp, 1)) (k : W p l e R s m args below meth c H locs cells slots Q (F0 m (pc + 1) ls (.int 0 :: rest))) : W p l e R s m args below meth c H locs cells slots Q (F0 m pc ls (.long x :: .long x :: rest)) := by
  intro T hT X
  obtain ⟨t, a, b⟩ := k T hT X
  refine ⟨t, ?_, b⟩
  jvm_step X.here [X.here.top, hx, hb, hdg]
  exact a
end FZL
/-! what an int of the script is -/
theorem fz_outN {v : Int32} {a b : Nat} (hb : b < 2 ^ 31) (hab : a ≤ b) (h : fz_out v (nI a) (nI b) = false) : ∃ j : Nat, a ≤ j ∧ j ≤ b ∧ v = nI j := by
  unfold fz_out at h
  rw [Bool.or_eq_false_iff, decide_eq_false_iff_not, decide_eq_false_iff_not] at h
  have h0 : ¬ v < 0 := fun q => h.1 (by
    have h1 : (0 : Int32) ≤ nI a := nI_pos' (by omega)
    rw [Int32.lt_iff_toInt_lt] at q ⊢
    rw [Int32.le_iff_toInt_le] at h1
    omega)
  obtain ⟨j, hj, rfl⟩ := nI_of h0
  refine ⟨j, ?_, ?_, rfl⟩
  · exact Nat.le_of_not_lt fun q => h.1 ((nI_ltI hj (by omega)).mpr q)
  · exact Nat.le_of_not_lt fun q => h.2 ((nI_ltI hb hj).mpr q)
theorem fz_in0 {v a b : Int32} (h : fz_out v a b = true) : fz_in v a b = 0 := by unfold fz_in; rw [if_pos h]
theorem fz_in01 {v a b : Int32} (h : fz_out v a b = false) : ¬ fz_in v a b = 0 := by unfold fz_in; rw [h]; decide
theorem fz_hasO {v : Int32} {n : Nat} (hn : 1 ≤ n) (hn2 : n ≤ 24) : fz_has v n = !fz_out v (nI 0) (nI (n - 1)) := by
  unfold fz_has fz_out
  congr 1
  have e : decide (nI n ≤ v) = decide (nI (n - 1) < v) := by
    refine decide_eq_decide.mpr ?_
    rw [Int32.le_iff_toInt_le, Int32.lt_iff_toInt_lt]
    have e1 : (nI n).toInt = n := Int32.toInt_ofNat_of_lt (by omega)
    have e2 : (nI (n - 1)).toInt = ((n - 1 : Nat) : Int) := Int32.toInt_ofNat_of_lt (by omega)
    rw [e1, e2]
    omega
  rw [e]
  rfl
theorem fz_out03 {v : Int32} (h : fz_out v (nI 0) (nI 3) = true) : v.toInt < 0 ∨ 3 < v.toInt := by
  unfold fz_out at h
  rw [Bool.or_eq_true, decide_eq_true_iff, decide_eq_true_iff, Int32.lt_iff_toInt_lt, Int32.lt_iff_toInt_lt] at h
  exact h
/-! the law's state: the class's 14 cells, the reference's 3, the two arrays for answers -/
abbrev fz_w19 (cD cL : ClassId) (g r rd rm q qd qm f s1 s2 f1 f2 lf rt o dp mp od ol n kd lim sol ord n2 : Nat) (dd mm ee ff sH sM FH FM dR mR fo : Nat → UInt64) (fl : Nat → Int64) (a0 a1 a2 a3 b0 b1 b2 b3 v0 v1 v2 v3 v4 v5 v6 v7 gone : UInt64) (thr cst cfl crf : Int32) : va_W := [(g, .inr (3, [.ref r, .ref q, .ref f, .int (nI kd), .int (nI lim), .int (nI sol), .int (nI ord), .double gone, .int cst, .int cfl, .int crf])), (r, .inr (1, [.ref rd, .ref rm, .int (nI n)])), (rd, fz_da cD 28 dd), (rm, fz_da cD 28 mm), (q, .inr (1, [.ref qd, .ref qm, .int (nI n2)])), (qd, fz_da cD 28 ee), (qm, fz_da cD 28 ff), (f, .inr (0, [.ref s1, .ref s2, .ref f1, .ref f2, .ref lf, .ref rt])), (s1, fz_da cD 28 sH), (s2, fz_da cD 28 sM), (f1, fz_da cD 25 FH), (f2, fz_da cD 25 FM), (lf, .inr (2, [.double a0, .double a1, .double a2, .double a3])), (rt, .inr (2, [.double b0, .double b1, .double b2, .double b3])), (o, .inr (4, [.int thr, .int (nI n), .int (nI kd), .int (nI lim), .int (nI sol), .int (nI ord), .double gone, .int cst, .int cfl, .int crf, .ref dp, .ref mp, .double v0, .double v1, .double v2, .double v3, .double v4, .double v5, .double v6, .double v7])), (dp, fz_da cD 84 dR), (mp, fz_da cD 84 mR), (od, fz_da cD 1 fo), (ol, fz_la cL 1 fl)]
abbrev fz_SS (k : Nat) : Int := ((41 * k + 1 : Nat) : Int) * (2 ^ 32 * (fq_one : Int))
abbrev fz_GG (k : Nat) : Int := ((41 * k : Nat) : Int) * (16 * (fq_one : Int))
def fz_Inv (k n kd lim sol ord : Nat) (dd mm dR mR : Nat → UInt64) (gone : UInt64) : Prop := 4 ≤ n ∧ n ≤ 24 ∧ kd ≤ 2 ∧ lim ≤ 3 ∧ sol ≤ 1 ∧ 1 ≤ ord ∧ ord ≤ 2 ∧ fq_St (fz_SS k) n dd mm ∧ fz_int n dR dd ∧ fz_int n mR mm ∧ fq_tm (fz_GG k) gone
theorem fz_SSb {k : Nat} (hk : k ≤ 512) : fz_SS k + 40 * (2 ^ 32 * (fq_one : Int)) < (3 * 2 ^ 45) * (fq_one : Int) ∧ fz_GG k + 40 * (16 * (fq_one : Int)) ≤ 2 ^ 20 * (fq_one : Int) ∧ fz_SS k + 40 * (2 ^ 32 * (fq_one : Int)) ≤ fz_SS (k + 1) ∧ fz_GG k + 40 * (16 * (fq_one : Int)) ≤ fz_GG (k + 1) ∧ fz_SS k < (3 * 2 ^ 45) * (fq_one : Int) ∧ fz_GG k ≤ 2 ^ 20 * (fq_one : Int) ∧ fz_SS k + 2 ^ 32 * (fq_one : Int) ≤ fz_SS (k + 1) ∧ fz_GG k + 16 * (fq_one : Int) ≤ fz_GG (k + 1) ∧ fz_SS k ≤ fz_SS (k + 1) ∧ fz_GG k ≤ fz_GG (k + 1) ∧ 2 ^ 32 * (fq_one : Int) ≤ fz_SS (k + 1) ∧ 0 ≤ fz_GG (k + 1) := by
  have hO := fq_oneI
  unfold fz_SS fz_GG
  have m1 : ((41 * k + 1 : Nat) : Int) * (2 ^ 32 * (fq_one : Int)) ≤ 20993 * (2 ^ 32 * (fq_one : Int)) := Int.mul_le_mul_of_nonneg_right (by omega) (by generalize (fq_one : Int) = O at *; omega)
  have m2 : ((41 * k : Nat) : Int) * (16 * (fq_one : Int)) ≤ 20992 * (16 * (fq_one : Int)) := Int.mul_le_mul_of_nonneg_right (by omega) (by generalize (fq_one : Int) = O at *; omega)
  have m3 : 0 ≤ ((41 * k + 1 : Nat) : Int) * (2 ^ 32 * (fq_one : Int)) := Int.mul_nonneg (by omega) (by generalize (fq_one : Int) = O at *; omega)
  have m4 : 0 ≤ ((41 * k : Nat) : Int) * (16 * (fq_one : Int)) := Int.mul_nonneg (by omega) (by generalize (fq_one : Int) = O at *; omega)
  have e1 : ((41 * (k + 1) + 1 : Nat) : Int) * (2 ^ 32 * (fq_one : Int)) = ((41 * k + 1 : Nat) : Int) * (2 ^ 32 * (fq_one : Int)) + 41 * (2 ^ 32 * (fq_one : Int)) := by rw [← Int.add_mul]; congr 1
  have e2 : ((41 * (k + 1) : Nat) : Int) * (16 * (fq_one : Int)) = ((41 * k : Nat) : Int) * (16 * (fq_one : Int)) + 41 * (16 * (fq_one : Int)) := by rw [← Int.add_mul]; congr 1
  rw [e1, e2]
  generalize ((41 * k + 1 : Nat) : Int) * (2 ^ 32 * (fq_one : Int)) = X at *
  generalize ((41 * k : Nat) : Int) * (16 * (fq_one : Int)) = Y at *
  generalize (fq_one : Int) = O at *
  omega
theorem fz_eqz {z : UInt64} (h : fq_F z) : fz_eq z z = true := (fq_eqv h h).mpr rfl
