/-! THE MODEL READS THE TEXT -/
def fgV (T : List Nat) (p a b : Nat) : Int32 := if dgB T p a b = true then nI (tg T p - 48) else -9
def fgP (T : List Nat) (p a b : Nat) : Nat := if dgB T p a b = true then p + 1 else p
theorem fgV_t {T : List Nat} {p a b : Nat} (h : dgB T p a b = true) : fgV T p a b = nI (tg T p - 48) ∧ fgP T p a b = p + 1 := by simp [fgV, fgP, h]
theorem fgV_f {T : List Nat} {p a b : Nat} (h : ¬ dgB T p a b = true) : fgV T p a b = -9 ∧ fgP T p a b = p := by simp [fgV, fgP, h]
theorem dgB_b {T : List Nat} {p a b : Nat} (h : dgB T p a b = true) (hb : b < 100) : p < T.length ∧ tg T p - 48 ≤ b ∧ a ≤ tg T p - 48 ∧ tg T p < 256 := by
  simp only [dgB, Bool.and_eq_true, decide_eq_true_eq] at h; omega
theorem fgV_9 {T : List Nat} {p a b : Nat} (hb : b < 100) : (fgV T p a b = -9) ↔ ¬ dgB T p a b = true := by
  by_cases h : dgB T p a b = true
  · rw [(fgV_t h).1]
    have := dgB_b h hb
    constructor
    · intro q
      have e := congrArg Int32.toInt q
      rw [nI_toInt (by omega)] at e
      have : ((-9 : Int32)).toInt = -9 := by decide
      omega
    · intro q; exact absurd h q
  · rw [(fgV_f h).1]; simp [h]
def wlOk (T : List Nat) (p : Nat) : Bool := dgB T p 1 9 && dgB T (p + 1) 0 2
def wlP (T : List Nat) (p : Nat) : Nat := if dgB T p 1 9 = true then fgP T (p + 1) 0 2 else p
def wlW (T : List Nat) (p : Nat) (W : List (Nat × Nat)) : List (Nat × Nat) := if wlOk T p = true then W ++ [(tg T p - 48, tg T (p + 1) - 48)] else W
def sgOk (T : List Nat) (p w : Nat) : Bool := dgB T p 0 5 && (dgB T (p + 1) 0 (w - 1) && (dgB T (p + 2) 1 9 && dgB T (p + 3) 0 3))
def sgP (T : List Nat) (p w : Nat) : Nat := if dgB T p 0 5 = true then (if dgB T (p + 1) 0 (w - 1) = true then (if dgB T (p + 2) 1 9 = true then fgP T (p + 3) 0 3 else p + 2) else p + 1) else p
def sgL (T : List Nat) (p w : Nat) (L : List Sg) : List Sg := if sgOk T p w = true then L ++ [mkS (tg T p - 48) (tg T (p + 1) - 48) (tg T (p + 2) - 48) (tg T (p + 3) - 48) 0] else L
def isW (T : List Nat) (p : Nat) (W : List (Nat × Nat)) : Bool := decide (tg T p = 87) && decide (W.length < 4)
def isS (T : List Nat) (p : Nat) (W : List (Nat × Nat)) (L : List Sg) : Bool := decide (tg T p = 83) && (decide (0 < W.length) && decide (L.length < 6))
def ptOk (T : List Nat) (p : Nat) (W : List (Nat × Nat)) (L : List Sg) : Bool := if isW T p W = true then wlOk T (p + 1) else if isS T p W L = true then sgOk T (p + 1) W.length else false
def ptP (T : List Nat) (p : Nat) (W : List (Nat × Nat)) (L : List Sg) : Nat := if isW T p W = true then wlP T (p + 1) else if isS T p W L = true then sgP T (p + 1) W.length else p
def ptW (T : List Nat) (p : Nat) (W : List (Nat × Nat)) : List (Nat × Nat) := if isW T p W = true then wlW T (p + 1) W else W
def ptL (T : List Nat) (p : Nat) (W : List (Nat × Nat)) (L : List Sg) : List Sg := if isW T p W = true then L else if isS T p W L = true then sgL T (p + 1) W.length L else L
theorem prs_pt {T : List Nat} {f p : Nat} {W : List (Nat × Nat)} {L : List Sg} (h : p < T.length) : prs T (f + 1) p W L = if ptOk T p W L = true then prs T f (ptP T p W L) (ptW T p W) (ptL T p W L) else (nI (ptP T p W L), W, L) := by
  rw [prs, if_neg (by omega)]
  simp only [ptOk, ptP, ptW, ptL, isW, isS, Bool.and_eq_true, decide_eq_true_eq]
  split
  · simp only [wlOk, wlP, wlW, fgP, Nat.add_assoc, Nat.reduceAdd]
    cases dgB T (p + 1) 1 9 <;> cases dgB T (p + 2) 0 2 <;> simp
  · split
    · simp only [sgOk, sgP, sgL, fgP, Nat.add_assoc, Nat.reduceAdd]
      cases dgB T (p + 1) 0 5 <;> cases dgB T (p + 2) 0 (W.length - 1) <;> cases dgB T (p + 3) 1 9 <;> cases dgB T (p + 4) 0 3 <;> simp
    · simp
theorem pt_no {T : List Nat} {p : Nat} {W : List (Nat × Nat)} {L : List Sg} (h : ¬ ptOk T p W L = true) : ptW T p W = W ∧ ptL T p W L = L := by
  simp only [ptOk, ptW, ptL, wlW, sgL] at *
  split at h
  · rename_i c; simp [c, h]
  · rename_i c
    split at h
    · rename_i c2; simp [c, c2, h]
    · rename_i c2; simp [c, c2]
theorem pt_ok {T : List Nat} {p : Nat} {W : List (Nat × Nat)} {L : List Sg} (hw : W.length ≤ 4) (hl : L.length ≤ 6) (h : ptOk T p W L = true) : p < ptP T p W L ∧ ptP T p W L ≤ T.length ∧ (ptW T p W).length ≤ 4 ∧ (ptL T p W L).length ≤ 6 := by
  simp only [ptOk, ptP, ptW, ptL, wlW, sgL, wlP, sgP, fgP] at *
  split at h
  · rename_i c
    have h' := h
    simp only [wlOk, Bool.and_eq_true] at h'
    have b := dgB_b h'.2 (by omega)
    simp only [isW, Bool.and_eq_true, decide_eq_true_eq] at c
    simp [isW, c, h, h'.1, h'.2]; omega
  · rename_i c
    split at h
    · rename_i c2
      have h' := h
      simp only [sgOk, Bool.and_eq_true] at h'
      have b := dgB_b h'.2.2.2 (by omega)
      rw [if_neg c, if_pos c2, if_pos h'.1, if_pos h'.2.1, if_pos h'.2.2.1, if_pos h'.2.2.2, if_neg c, if_neg c, if_pos c2, if_pos h]
      simp only [isS, Bool.and_eq_true, decide_eq_true_eq] at c2
      simp only [List.length_append, List.length_singleton]; omega
    · cases h
theorem pgr_zero {g : Nat → Int32} (h : ∀ j, j < 52 → g j = nI 0) : PGR g [] 0 (nI 0) (nI 0) := ⟨fun i k hi => absurd hi (Nat.not_lt_zero i), h 48 (by omega), h 49 (by omega), h 50 (by omega), h 51 (by omega)⟩
