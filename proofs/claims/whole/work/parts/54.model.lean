theorem mpF_0 {L : List Sg} {a : Nat} : ∀ p, (mpF L a p).2 = 0 → (mpF L a p).1 = -9
  | 0, _ => rfl
  | p + 1, h => by
    have ih := mpF_0 (L := L) (a := a) p
    simp only [mpF] at h ⊢
    by_cases c : (mpF L a p).2 < suN (copy1 L a p) L.length
    · rw [if_pos c] at h
      have h2 : suN (copy1 L a p) L.length = 0 := h
      omega
    · rw [if_neg c] at h ⊢
      by_cases d : suN (copy1 L a p) L.length = (mpF L a p).2
      · rw [if_pos d]
      · rw [if_neg d] at h ⊢
        exact ih h
