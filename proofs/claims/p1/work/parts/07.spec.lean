theorem lx_le {a b : Int32} (h : ¬ a < b) : b ≤ a := Int32.not_lt.mp h
theorem lx_nle {a b : Int32} (h : a < b) : ¬ b ≤ a := Int32.not_le.mpr h
theorem lx_nlt {a b : Int32} (h : a ≤ b) : ¬ b < a := Int32.not_lt.mpr h
theorem lx_lt {a b : Int32} (h : ¬ a ≤ b) : b < a := Int32.not_le.mp h
theorem lx_tout {x : Int32} {n : Nat} (h : ∀ k, k ≤ n → ¬ x = nI k) (hn : n < 2 ^ 31) : x.toInt < (0 : Int) ∨ (n : Int) < x.toInt := by
  rcases Int.lt_or_le x.toInt 0 with q | q
  · exact Or.inl q
  · rcases Int.lt_or_le (n : Int) x.toInt with r | r
    · exact Or.inr r
    · exfalso
      have e : x = nI x.toInt.toNat := by
        apply Int32.toInt_inj.mp
        rw [nI_toInt (by omega)]
        omega
      exact h x.toInt.toNat (by omega) e
/-- what the calls answer on a new object -/
def sp_end (n : Int32) : Int32 := if n < 0 then 0 else if 0 < n then 0 else 1
def okSets (a b : Int32) : Prop := ((a ||| b) &&& (-64)) = 0 ∧ (a &&& b) = 0
def sp_node (k : Int32) : Int32 := if k = 2 then (-1) else 0
def okNode (k : Int32) : Prop := k = 0 ∨ k = 1 ∨ k = 2
def okWidth (k : Int32) : Prop := ¬ k < 0 ∧ ¬ 6 < k
def okVar (k : Int32) : Prop := ¬ k < 0 ∧ k < 6
def okWhat (k : Int32) : Prop := ¬ k < 0 ∧ ¬ 2 < k
def sp_units (a b k : Int32) : Int32 := if k = 0 then a else if k = 1 then b else 0
def sp_within (k : Int32) : Int32 := if k = 0 then 0 else if k = 1 then 0 else (-1)
def sp_count (k : Int32) : Int32 := if k = 0 ∨ k = 1 ∨ k = 2 ∨ k = 3 ∨ k = 4 ∨ k = 5 ∨ k = 6 ∨ k = 7 ∨ k = 8 ∨ k = 10 then 0 else if k = 9 then 64 else (-1)
def sp_model (k : Int32) : Int32 := if k = (-1) then 64 else if k < 0 then (-1) else if k < 64 then k else (-1)
