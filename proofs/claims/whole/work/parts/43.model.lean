/-! THE MODEL'S BOOK OF ACTS -/
def BKR (b : Nat → Int32) (As : List SS) : Prop := ∀ k, k < As.length → (gSS As k).1.length ≤ 8 ∧ PGR (fun j => b (52 * k + j)) (gSS As k).1 (gSS As k).2.1 (gSS As k).2.2.1 (gSS As k).2.2.2
theorem bkr_out {b : Nat → Int32} {As : List SS} {n : Nat} {v : Int32} (h : BKR b As) (hn : 52 * As.length ≤ n) : BKR (upd b n v) As := fun k hk =>
  ⟨(h k hk).1, pgr_same (h k hk).2 (h k hk).1 (fun j hj => upd_n (by omega))⟩
theorem bkr_drop {b b2 : Nat → Int32} {As : List SS} (h : BKR b As) (h12 : As.length = 12) (e : ∀ j, j < 572 → b2 j = b (j + 52)) : BKR b2 (dropF As) := by
  rw [dropF, if_pos h12]
  intro k hk
  simp only [List.length_drop] at hk
  rw [gSS_drop]
  exact ⟨(h (k + 1) (by omega)).1, pgr_same (h (k + 1) (by omega)).2 (h (k + 1) (by omega)).1 (fun j hj => by
    show b2 (52 * k + j) = b (52 * (k + 1) + j)
    rw [e _ (by omega)]; congr 1; omega)⟩
theorem bkr_snoc {b g : Nat → Int32} {As : List SS} {L : List Sg} {li : Nat} {ye br : Int32} (h : BKR b As) (hg : PGR g L li ye br) (h8 : L.length ≤ 8) (e : ∀ j, j < 52 → b (52 * As.length + j) = g j) : BKR b (As ++ [(L, li, ye, br)]) := by
  intro k hk
  simp only [List.length_append, List.length_singleton] at hk
  by_cases c : k = As.length
  · subst c; rw [gSS_len]; exact ⟨h8, pgr_same hg h8 e⟩
  · rw [gSS_lt (by omega)]; exact h k (by omega)
