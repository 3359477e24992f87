/-! THE MODEL'S PAGES -/
def PGR (g : Nat → Int32) (L : List Sg) (li : Nat) (ye br : Int32) : Prop := hs g L ∧ g 48 = nI L.length ∧ g 49 = nI li ∧ g 50 = ye ∧ g 51 = br
theorem wide_le (a b : Int32) : a.toInt64 ≤ b.toInt64 ↔ a ≤ b := by rw [Int64.le_iff_toInt_le, Int32.le_iff_toInt_le, Int32.toInt_toInt64, Int32.toInt_toInt64]
theorem wide_lt (a b : Int32) : a.toInt64 < b.toInt64 ↔ a < b := by rw [Int64.lt_iff_toInt_lt, Int32.lt_iff_toInt_lt, Int32.toInt_toInt64, Int32.toInt_toInt64]
theorem lgI_lt (x y : Int32) : lg_cmp x.toInt64 y.toInt64 < 0 ↔ ¬ y ≤ x := by
  rw [← wide_le, ← lg_cmp_ge]
  exact Int32.not_le.symm
theorem lgI_gt (x y : Int32) : 0 < lg_cmp x.toInt64 y.toInt64 ↔ ¬ x ≤ y := by
  have h : ¬ x ≤ y ↔ y.toInt64 < x.toInt64 := by rw [wide_lt]; exact Int32.not_le
  rw [h, lg_cmp]
  split
  · rename_i c; exact ⟨fun _ => c, fun _ => by decide⟩
  · rename_i c
    split
    · exact ⟨fun q => absurd q (by decide), fun q => absurd q c⟩
    · exact ⟨fun q => absurd q (by decide), fun q => absurd q c⟩
theorem inB_w {x : Int32} {W : Nat} (hW : W < 1000) : inB x (nI 0) (nI W - nI 1) = hasB x W := by
  have e := pk_sub_toInt (a := W) (b := 1) (by omega) (by omega)
  have e0 : (nI 0).toInt = 0 := rfl
  have h1 : (nI 0 ≤ x) = (¬ x < 0) := propext (by rw [Int32.le_iff_toInt_le, Int32.lt_iff_toInt_lt, e0]; show _ ↔ ¬ x.toInt < 0; omega)
  have h2 : (x ≤ nI W - nI 1) = (¬ nI W ≤ x) := propext (by rw [Int32.le_iff_toInt_le, Int32.le_iff_toInt_le, e, nI_toInt (by omega)]; omega)
  simp only [inB, hasB, h1, h2, decide_not]
theorem pgr_add {g : Nat → Int32} {L : List Sg} {li : Nat} {ye br : Int32} (h : PGR g L li ye br) (h8 : L.length < 8) (a w v p q : Nat) : PGR (upd (upd (upd (upd (upd (upd (upd g (L.length * 6 + 0) (nI a)) (L.length * 6 + 1) (nI w)) (L.length * 6 + 2) (nI v)) (L.length * 6 + 3) (nI p)) (L.length * 6 + 4) (nI 0)) (L.length * 6 + 5) (nI q)) 48 (nI (L.length + 1))) (L ++ [mkS a w v p q]) li ye br := by
  obtain ⟨h1, h2, h3, h4, h5⟩ := h
  refine ⟨hs_upd (hs_add h1 a w v p q) (by simp; omega), by rw [upd_s]; simp, ?_, ?_, ?_⟩
  · simp only [upd]; repeat' rw [if_neg (by omega)]
    exact h3
  · simp only [upd]; repeat' rw [if_neg (by omega)]
    exact h4
  · simp only [upd]; repeat' rw [if_neg (by omega)]
    exact h5
theorem pgr_same {g g2 : Nat → Int32} {L : List Sg} {li : Nat} {ye br : Int32} (h : PGR g L li ye br) (h8 : L.length ≤ 8) (e : ∀ j, j < 52 → g2 j = g j) : PGR g2 L li ye br := by
  obtain ⟨h1, h2, h3, h4, h5⟩ := h
  exact ⟨fun i k hi hk => by rw [e _ (by omega)]; exact h1 i k hi hk, by rw [e _ (by omega), h2], by rw [e _ (by omega), h3], by rw [e _ (by omega), h4], by rw [e _ (by omega), h5]⟩
