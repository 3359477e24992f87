theorem inB_of {x : Int32} {n : Nat} (h : ¬ x < 0) (h2 : x ≤ nI n) : inB x (nI 0) (nI n) = true := by
  rw [inB, Bool.and_eq_true, decide_eq_true_eq, decide_eq_true_eq]
  refine ⟨?_, h2⟩
  rw [Int32.le_iff_toInt_le]
  rw [Int32.lt_iff_toInt_lt] at h
  have e : (0 : Int32).toInt = 0 := rfl
  have e2 : (nI 0).toInt = 0 := rfl
  omega
theorem tab_ne {x : Int32} {n k : Nat} (h : ¬ (0 ≤ x.toInt ∧ x.toInt < (n : Int))) (hk : k < n) (hn : n < 2 ^ 31) : ¬ x = nI k := fun e => h (by rw [e, nI_toInt (by omega)]; omega)
theorem tab9 {x : Int32} (h : ¬ (0 ≤ x.toInt ∧ x.toInt < ((#[51, 59, 67, 75, 83, 91, 96, 104, 112] : Array Int).size : Int))) : ¬ x = nI 0 ∧ ¬ x = nI 1 ∧ ¬ x = nI 2 ∧ ¬ x = nI 3 ∧ ¬ x = nI 4 ∧ ¬ x = nI 5 ∧ ¬ x = nI 6 ∧ ¬ x = nI 7 ∧ ¬ x = nI 8 := by
  have h9 : ¬ (0 ≤ x.toInt ∧ x.toInt < ((9 : Nat) : Int)) := h
  exact ⟨tab_ne h9 (by omega) (by omega), tab_ne h9 (by omega) (by omega), tab_ne h9 (by omega) (by omega), tab_ne h9 (by omega) (by omega), tab_ne h9 (by omega) (by omega), tab_ne h9 (by omega) (by omega), tab_ne h9 (by omega) (by omega), tab_ne h9 (by omega) (by omega), tab_ne h9 (by omega) (by omega)⟩
theorem tab4 {x : Int32} (h : ¬ (0 ≤ x.toInt ∧ x.toInt < ((#[30, 39, 48, 65] : Array Int).size : Int))) : ¬ x = nI 0 ∧ ¬ x = nI 1 ∧ ¬ x = nI 2 ∧ ¬ x = nI 3 := by
  have h9 : ¬ (0 ≤ x.toInt ∧ x.toInt < ((4 : Nat) : Int)) := h
  exact ⟨tab_ne h9 (by omega) (by omega), tab_ne h9 (by omega) (by omega), tab_ne h9 (by omega) (by omega), tab_ne h9 (by omega) (by omega)⟩
