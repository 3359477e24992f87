/-! WHAT A CALL KEEPS: ages no more than the calls, lids on wells that there are -/
theorem gSS_take {As : List SS} {k m : Nat} (h : k < m) : gSS (As.take m) k = gSS As k := by
  simp only [gSS, List.getD_eq_getElem?_getD]
  rw [List.getElem?_take_of_lt h]
theorem rem_all {P : SS → Prop} {As : List SS} {s : SS} (h12 : As.length ≤ 12) (h : ∀ k, k < As.length → P (gSS As k)) (hs : P s) : (remL As s).length ≤ 12 ∧ ∀ k, k < (remL As s).length → P (gSS (remL As s) k) := by
  have hd : (dropF As).length ≤ 11 ∧ ∀ k, k < (dropF As).length → P (gSS (dropF As) k) := by
    rw [dropF]
    by_cases c : As.length = 12
    · rw [if_pos c]
      refine ⟨by simp only [List.length_drop]; omega, fun k hk => ?_⟩
      simp only [List.length_drop] at hk
      rw [gSS_drop]
      exact h _ (by omega)
    · rw [if_neg c]
      exact ⟨by omega, h⟩
  have hl : (remL As s).length = (dropF As).length + 1 := by rw [remL]; simp
  refine ⟨by omega, fun k hk => ?_⟩
  rw [remL]
  by_cases c : k < (dropF As).length
  · rw [gSS_lt c]; exact hd.2 k c
  · rw [show k = (dropF As).length by omega, gSS_len]; exact hs
def okP (W n : Nat) (s : SS) : Prop := okL W n s.1 ∧ s.2.1 < 2 ^ W
theorem okP_mono {W n m : Nat} {s : SS} (h : okP W n s) (hm : n ≤ m) : okP W m s := ⟨okL_mono h.1 hm, h.2⟩
theorem oks_mono {n m : Nat} {T : List Nat} {Ws : List (Nat × Nat)} {L : List Sg} {li : Nat} {As : List SS} {sk : Nat} {s0 s1 : SS} (h : OKS n T Ws L li As sk s0 s1) (hm : n ≤ m) : OKS m T Ws L li As sk s0 s1 := by
  obtain ⟨h1, h2, h3, h4, h5, h6, h7, h8, h9⟩ := h
  exact ⟨h1, h2, okL_mono h3 hm, h4, h5, fun k hk => okP_mono (h6 k hk) hm, h7, fun q => okP_mono (h8 q) hm, fun q => okP_mono (h9 q) hm⟩
theorem oks_T {n : Nat} {T T2 : List Nat} {Ws : List (Nat × Nat)} {L : List Sg} {li : Nat} {As : List SS} {sk : Nat} {s0 s1 : SS} (h : OKS n T Ws L li As sk s0 s1) (h2 : okT T2) : OKS (n + 1) T2 Ws L li As sk s0 s1 := by
  obtain ⟨-, g⟩ := oks_mono h (Nat.le_succ n)
  exact ⟨h2, g⟩
theorem oks_0 {n : Nat} {T : List Nat} {Ws : List (Nat × Nat)} {L : List Sg} {li : Nat} {As : List SS} {sk : Nat} {s0 s1 : SS} (h : OKS n T Ws L li As sk s0 s1) : OKS (n + 1) T Ws L li As sk s0 s1 := oks_mono h (Nat.le_succ n)
theorem oks_land {n : Nat} {T : List Nat} {Ws : List (Nat × Nat)} {L : List Sg} {li : Nat} {As : List SS} {sk : Nat} {s0 s1 : SS} (h : OKS n T Ws L li As sk s0 s1) (h9 : (landP T).1 = -9) : OKS (n + 1) T (landP T).2.1 (landP T).2.2 0 [] 0 s0 s1 := by
  have hl := land_ok h.1.1 h9
  exact ⟨h.1, hl.1, okL_mono hl.2.1 (Nat.zero_le _), Nat.two_pow_pos _, Nat.zero_le _, fun k hk => absurd hk (Nat.not_lt_zero k), by omega, fun q => absurd q (by decide), fun q => absurd q (by decide)⟩
theorem oks_act {n li2 : Nat} {T : List Nat} {Ws : List (Nat × Nat)} {L L2 : List Sg} {li : Nat} {ye br : Int32} {As : List SS} {sk : Nat} {s0 s1 : SS} (h : OKS n T Ws L li As sk s0 s1) (hL : okL Ws.length (n + 1) L2) (hl : li2 < 2 ^ Ws.length) : OKS (n + 1) T Ws L2 li2 (remL As (L, li, ye, br)) sk s0 s1 := by
  obtain ⟨h1, h2, h3, h4, h5, h6, h7, h8, h9⟩ := oks_mono h (Nat.le_succ n)
  have hr := rem_all (P := okP Ws.length (n + 1)) (s := (L, li, ye, br)) h5 h6 ⟨h3, h4⟩
  exact ⟨h1, h2, hL, hl, hr.1, hr.2, h7, h8, h9⟩
theorem oks_year {n : Nat} {T : List Nat} {Ws : List (Nat × Nat)} {L : List Sg} {li : Nat} {ye br : Int32} {As : List SS} {sk : Nat} {s0 s1 : SS} (h : OKS n T Ws L li As sk s0 s1) : OKS (n + 1) T Ws (yearL (stF Ws) li L) li (remL As (L, li, ye, br)) sk s0 s1 := oks_act h (year_ok h.2.2.1) h.2.2.2.1
theorem oks_sing {n s d v p : Nat} {T : List Nat} {Ws : List (Nat × Nat)} {L : List Sg} {li : Nat} {ye br : Int32} {As : List SS} {sk : Nat} {s0 s1 : SS} (h : OKS n T Ws L li As sk s0 s1) (hs1 : s < L.length) (hv0 : 1 ≤ v) (hv9 : v ≤ 9) (hp3 : p ≤ 3) (hway : way Ws.length li (sg L s 1) d = true) (h7 : L.length < 8) : OKS (n + 1) T Ws (sungL (stF Ws) L s (jN L s d) v p) li (remL As (L, li, ye, br)) sk s0 s1 :=
  oks_act h (okL_mono (sung_ok h.2.2.1 hs1 h7 (way_j h.2.1.1 hway).1 hv0 hv9 (by omega)) (Nat.le_succ n)) h.2.2.2.1
theorem oks_lid {n j : Nat} {T : List Nat} {Ws : List (Nat × Nat)} {L : List Sg} {li : Nat} {ye br : Int32} {As : List SS} {sk : Nat} {s0 s1 : SS} (h : OKS n T Ws L li As sk s0 s1) (hj : j < Ws.length) : OKS (n + 1) T Ws L (li ^^^ 2 ^ j) (remL As (L, li, ye, br)) sk s0 s1 :=
  oks_act h (okL_mono h.2.2.1 (Nat.le_succ n)) (mv_ltW h.2.2.2.1 hj)
theorem oks_undo {n : Nat} {T : List Nat} {Ws : List (Nat × Nat)} {L : List Sg} {li : Nat} {As : List SS} {sk : Nat} {s0 s1 : SS} (h : OKS n T Ws L li As sk s0 s1) (h0 : 0 < As.length) : OKS (n + 1) T Ws (gSS As (As.length - 1)).1 (gSS As (As.length - 1)).2.1 (As.take (As.length - 1)) sk s0 s1 := by
  obtain ⟨h1, h2, h3, h4, h5, h6, h7, h8, h9⟩ := oks_mono h (Nat.le_succ n)
  have hl : (As.take (As.length - 1)).length = As.length - 1 := by rw [List.length_take]; omega
  exact ⟨h1, h2, (h6 _ (by omega)).1, (h6 _ (by omega)).2, by omega, fun k hk => by rw [gSS_take (by omega)]; exact h6 k (by omega), h7, h8, h9⟩
theorem oks_keep0 {n : Nat} {T : List Nat} {Ws : List (Nat × Nat)} {L : List Sg} {li : Nat} {ye br : Int32} {As : List SS} {sk : Nat} {s0 s1 : SS} (h : OKS n T Ws L li As sk s0 s1) : OKS (n + 1) T Ws L li As (sk ||| 1) (L, li, ye, br) s1 := by
  obtain ⟨h1, h2, h3, h4, h5, h6, h7, h8, h9⟩ := oks_mono h (Nat.le_succ n)
  exact ⟨h1, h2, h3, h4, h5, h6, Nat.or_lt_two_pow (n := 2) h7 (by omega), fun _ => ⟨h3, h4⟩, fun q => h9 (by rw [Nat.testBit_or, show Nat.testBit 1 1 = false from by decide, Bool.or_false] at q; exact q)⟩
theorem oks_keep1 {n : Nat} {T : List Nat} {Ws : List (Nat × Nat)} {L : List Sg} {li : Nat} {ye br : Int32} {As : List SS} {sk : Nat} {s0 s1 : SS} (h : OKS n T Ws L li As sk s0 s1) : OKS (n + 1) T Ws L li As (sk ||| 2) s0 (L, li, ye, br) := by
  obtain ⟨h1, h2, h3, h4, h5, h6, h7, h8, h9⟩ := oks_mono h (Nat.le_succ n)
  exact ⟨h1, h2, h3, h4, h5, h6, Nat.or_lt_two_pow (n := 2) h7 (by omega), fun q => h8 (by rw [Nat.testBit_or, show Nat.testBit 2 0 = false from by decide, Bool.or_false] at q; exact q), fun _ => ⟨h3, h4⟩⟩
theorem oks_again {n : Nat} {T : List Nat} {Ws : List (Nat × Nat)} {L : List Sg} {li : Nat} {As : List SS} {sk : Nat} {s0 s1 s : SS} (h : OKS n T Ws L li As sk s0 s1) (hs : okL Ws.length n s.1 ∧ s.2.1 < 2 ^ Ws.length) : OKS (n + 1) T Ws s.1 s.2.1 [] sk s0 s1 := by
  obtain ⟨h1, h2, h3, h4, h5, h6, h7, h8, h9⟩ := oks_mono h (Nat.le_succ n)
  have hm := okP_mono (m := n + 1) hs (Nat.le_succ n)
  exact ⟨h1, h2, hm.1, hm.2, Nat.zero_le _, fun k hk => absurd hk (Nat.not_lt_zero k), h7, h8, h9⟩
theorem oks_start {s0 s1 : SS} : OKS 0 [] [] [] 0 [] 0 s0 s1 := ⟨⟨Nat.zero_le _, fun j hj => absurd hj (Nat.not_lt_zero j)⟩, ⟨Nat.zero_le _, fun j hj => absurd hj (Nat.not_lt_zero j)⟩, okL_nil, Nat.two_pow_pos _, Nat.zero_le _, fun k hk => absurd hk (Nat.not_lt_zero k), by omega, fun q => absurd q (by decide), fun q => absurd q (by decide)⟩
/-- what lets a song be sung on -/
theorem singC_0 {W li : Nat} {L : List Sg} {z z2 z3 z4 : Int32} (h8 : L.length ≤ 8) (h : singC W li L z z2 z3 z4 = 0) : ∃ s d v p, z = nI s ∧ z2 = nI d ∧ z3 = nI v ∧ z4 = nI p ∧ s < L.length ∧ d ≤ 1 ∧ 1 ≤ v ∧ v ≤ 9 ∧ p ≤ 3 ∧ way W li (sg L s 1) d = true ∧ L.length < 8 := by
  rw [singC] at h
  by_cases c1 : hasB z L.length = true
  · rw [if_pos c1] at h
    by_cases c2 : inB z2 (nI 0) (nI 1) = true ∧ inB z3 (nI 1) (nI 9) = true ∧ inB z4 (nI 0) (nI 3) = true
    · rw [if_pos c2] at h
      obtain ⟨s, hs, rfl⟩ := hasB_t (by omega) c1
      obtain ⟨d, -, hd, rfl⟩ := inB_t (by omega) (by omega) c2.1
      obtain ⟨v, hv0, hv, rfl⟩ := inB_t (by omega) (by omega) c2.2.1
      obtain ⟨p, -, hp, rfl⟩ := inB_t (by omega) (by omega) c2.2.2
      rw [cl_n (by omega), cl_n (by omega)] at h
      by_cases c3 : way W li (sg L s 1) d = true
      · rw [if_pos c3] at h
        by_cases c4 : L.length < 8
        · exact ⟨s, d, v, p, rfl, rfl, rfl, rfl, hs, hd, hv0, hv, hp, c3, c4⟩
        · rw [if_neg c4] at h; exact absurd h (by decide)
      · rw [if_neg c3] at h; exact absurd h (by decide)
    · rw [if_neg c2] at h; exact absurd h (by decide)
  · rw [if_neg c1] at h; exact absurd h (by decide)
