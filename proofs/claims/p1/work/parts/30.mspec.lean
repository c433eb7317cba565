theorem lx_ishr0 (z : Int32) : (0 : Int32) >>> z = 0 := by
  apply Int32.toBitVec_inj.mp
  simp
theorem lx_m1lt {a : Int32} (h : ¬ a < 0) : (-1) < a := by
  have h1 : (0 : Int32).toInt ≤ a.toInt := Int32.le_iff_toInt_le.mp (lx_le h)
  exact Int32.lt_iff_toInt_lt.mpr (by have e : (-1 : Int32).toInt = -1 := rfl; have e0 : (0 : Int32).toInt = 0 := rfl; omega)
theorem ok_ix : ∀ j, j < 64 → nI j &&& (-64) = 0 := by decide +kernel
theorem ok_63 {x : Int32} (h : x &&& (-64) = 0) : ¬ x < 0 ∧ ¬ 63 < x := by
  have e : x = x &&& 63 := by
    have h1 : x &&& (63 ||| (-64)) = (x &&& 63) ||| (x &&& (-64)) := by
      apply Int32.toBitVec_inj.mp
      simp only [Int32.toBitVec_and, Int32.toBitVec_or]
      exact BitVec.and_or_distrib_left
    have h2 : (63 ||| (-64) : Int32) = -1 := by decide
    rw [h2, h] at h1
    have h3 : x &&& (-1) = x := by
      apply Int32.toBitVec_inj.mp
      simp only [Int32.toBitVec_and]
      have : (-1 : Int32).toBitVec = BitVec.allOnes 32 := by decide
      rw [this, BitVec.and_allOnes]
    have h4 : (x &&& 63) ||| 0 = x &&& 63 := by
      apply Int32.toBitVec_inj.mp
      simp
    rw [h3, h4] at h1
    exact h1
  obtain ⟨j, hj, h5⟩ := pk_andE x (m := 63) 6 (by decide)
  rw [h5] at e
  subst e
  refine ⟨nI_pos (by omega), fun q => ?_⟩
  exact absurd q (nI_nlt (a := 63) (b := j) (by omega) (by decide))
theorem ok_64 {x : Int32} (h : ¬ x < 0 ∧ ¬ 63 < x) : x &&& (-64) = 0 := by
  obtain ⟨j, h1, h2⟩ := nI_of2 (x := x) (M := 63) (n := 63) rfl h.1 (lx_le h.2)
  rw [h2]
  exact ok_ix j (by omega)
theorem ok_or {a b : Int32} : (a ||| b) &&& (-64) = 0 ↔ a &&& (-64) = 0 ∧ b &&& (-64) = 0 := by
  have h1 : (a ||| b) &&& (-64) = (a &&& (-64)) ||| (b &&& (-64)) := by
    apply Int32.toBitVec_inj.mp
    simp only [Int32.toBitVec_and, Int32.toBitVec_or]
    exact BitVec.and_or_distrib_right
  rw [h1]
  constructor
  · intro h
    have h2 : (a &&& (-64)).toBitVec ||| (b &&& (-64)).toBitVec = 0#32 := by rw [← Int32.toBitVec_or, h]; rfl
    have h3 := BitVec.or_eq_zero_iff.mp h2
    exact ⟨Int32.toBitVec_inj.mp h3.1, Int32.toBitVec_inj.mp h3.2⟩
  · rintro ⟨h2, h3⟩
    rw [h2, h3]
    decide
theorem okSets_y {a b : Int32} (h1 : ¬ a < 0 ∧ ¬ 63 < a) (h2 : ¬ b < 0 ∧ ¬ 63 < b) (h3 : (a &&& b) = 0) : okSets a b := ⟨ok_or.mpr ⟨ok_64 h1, ok_64 h2⟩, h3⟩
theorem okSets_n1 {a b : Int32} (h : ¬ (¬ a < 0 ∧ ¬ 63 < a)) : ¬ okSets a b := fun q => h (ok_63 (ok_or.mp q.1).1)
theorem okSets_n2 {a b : Int32} (h : ¬ (¬ b < 0 ∧ ¬ 63 < b)) : ¬ okSets a b := fun q => h (ok_63 (ok_or.mp q.1).2)
theorem okSets_n3 {a b : Int32} (h : ¬ (a &&& b) = 0) : ¬ okSets a b := fun q => h q.2
theorem okNode_of {k : Int32} (h : ¬ k < 0 ∧ ¬ 2 < k) : okNode k := by
  obtain ⟨j, h1, h2⟩ := nI_of2 (x := k) (M := 2) (n := 2) rfl h.1 (lx_le h.2)
  rcases (show j = 0 ∨ j = 1 ∨ j = 2 by omega) with rfl | rfl | rfl
  · exact Or.inl h2
  · exact Or.inr (Or.inl h2)
  · exact Or.inr (Or.inr h2)
theorem okNode_to {k : Int32} (h : okNode k) : ¬ k < 0 ∧ ¬ 2 < k := by
  rcases h with rfl | rfl | rfl <;> exact ⟨by decide, by decide⟩
theorem lx_lt10 {k : Int32} (h : ¬ k < 0 ∧ ¬ 2 < k) : k < 10 := by
  rcases okNode_of h with rfl | rfl | rfl <;> decide
theorem okVar_y {k : Int32} (h : ¬ k < 0 ∧ ¬ 5 < k) : okVar k := by
  obtain ⟨j, h1, h2⟩ := nI_of2 (x := k) (M := 5) (n := 5) rfl h.1 (lx_le h.2)
  refine ⟨h.1, ?_⟩
  rw [h2]
  exact nI_lt (b := 6) (by omega) (by decide)
theorem okVar_n {k : Int32} (h : ¬ (¬ k < 0 ∧ ¬ 5 < k)) : ¬ okVar k := by
  intro q
  apply h
  refine ⟨q.1, fun q2 => ?_⟩
  have h1 := Int32.lt_iff_toInt_lt.mp q2
  have h2 := Int32.lt_iff_toInt_lt.mp q.2
  have e5 : (5 : Int32).toInt = 5 := rfl
  have e6 : (6 : Int32).toInt = 6 := rfl
  omega
def cmF (f0 : Nat → Int32) (i : Nat) : Nat → Int32 := fun j => if j < i then (-1) else f0 j
theorem cmF_0 (f0 : Nat → Int32) : f0 = cmF f0 0 := funext (fun j => by simp [cmF])
theorem cmF_s (f0 : Nat → Int32) (i : Nat) (hi : i < 4096) : upd (cmF f0 i) (nI i).toNatClampNeg (-1) = cmF f0 (i + 1) := by
  rw [nI_clamp (by omega)]
  funext j
  unfold upd cmF
  by_cases h : j = i
  · subst h; simp
  · rw [if_neg h]
    by_cases h2 : j < i
    · rw [if_pos h2, if_pos (by omega)]
    · rw [if_neg h2, if_neg (by omega)]
theorem cmF_at {f0 : Nat → Int32} {x : Int32} (h : vp_in x 4096) : cmF f0 4096 x.toNatClampNeg = (-1) := by
  unfold cmF
  rw [if_pos]
  rcases Nat.lt_or_ge x.toNatClampNeg 4096 with q | q
  · exact q
  · exact absurd (Or.inr q) h
theorem in_code {a b : Int32} (h1 : ¬ a < 0 ∧ ¬ 63 < a) (h2 : ¬ b < 0 ∧ ¬ 63 < b) : vp_in (a ||| (b <<< ((6 : Int32) &&& 31))) 4096 := by
  obtain ⟨i, hi, e1⟩ := nI_of2 (x := a) (M := 63) (n := 63) rfl h1.1 (lx_le h1.2)
  obtain ⟨j, hj, e2⟩ := nI_of2 (x := b) (M := 63) (n := 63) rfl h2.1 (lx_le h2.2)
  subst e1
  subst e2
  rw [show nI j <<< ((6 : Int32) &&& 31) = nI (j * 2 ^ 6) from pk_shlN _ 6 (by decide) (by omega)]
  have e3 : nI i ||| nI (j * 2 ^ 6) = nI (i ||| j * 2 ^ 6) := by
    apply Int32.toBitVec_inj.mp
    rw [Int32.toBitVec_or]
    apply BitVec.eq_of_toNat_eq
    rw [BitVec.toNat_or, pk_tn (by omega), pk_tn (by omega), pk_tn]
    exact Nat.or_lt_two_pow (n := 32) (by omega) (by omega)
  rw [e3]
  exact vp_in_nI (Nat.or_lt_two_pow (n := 12) (by omega) (by omega)) (by decide)
theorem lx_sbit : ∀ i, i < 64 → ((-1 : Int64) >>> ((nI i).toInt64 &&& 63) &&& 1) = 1 := by decide +kernel
theorem lx_left {k l : Int32} {i : Nat} (h : l = k - nI i) (h0 : l = 0) : nI i = k := by
  have h1 : k - nI i + nI i = k := Int32.sub_add_cancel k (nI i)
  rw [← h, h0] at h1
  rw [← h1]
  exact (Int32.zero_add _).symm
theorem lx_leftn {k l : Int32} {i : Nat} (h : l = k - nI i) (h0 : ¬ l = 0) : ¬ nI i = k := by
  intro q
  apply h0
  rw [h, q]
  exact Int32.sub_self k
theorem lx_lefts {k l : Int32} {i : Nat} (h : l = k - nI i) : l + (-1) = k - nI (i + 1) := by
  rw [h, nI_succ, Int32.sub_eq_add_neg, Int32.sub_eq_add_neg, Int32.neg_add, Int32.add_assoc, Int32.sub_eq_add_neg]
