/-! LORDS in the model's order: pure -/
theorem lmv_1 {f : Nat → Nat} {q : Nat} : lmvF f q 1 = ((f q : Int), 0) := by
  show (if (-100 : Int) < (f (mvN q 0) : Int) then ((f (mvN q 0) : Int), 0) else (-100, 0)) = _
  rw [if_pos (by omega)]
  rfl
theorem lmv_y {f : Nat → Nat} {q w b mv : Nat} (h : lmvF f q (w + 1) = ((b : Int), mv)) (c : b < f (mvN q (w + 1))) : lmvF f q (w + 2) = ((f (mvN q (w + 1)) : Int), w + 1) := by
  show (if (lmvF f q (w + 1)).1 < (f (mvN q (w + 1)) : Int) then ((f (mvN q (w + 1)) : Int), w + 1) else lmvF f q (w + 1)) = _
  rw [h, if_pos (by show (b : Int) < _; omega)]
theorem lmv_n {f : Nat → Nat} {q w b mv : Nat} (h : lmvF f q (w + 1) = ((b : Int), mv)) (c : ¬ b < f (mvN q (w + 1))) : lmvF f q (w + 2) = ((b : Int), mv) := by
  show (if (lmvF f q (w + 1)).1 < (f (mvN q (w + 1)) : Int) then ((f (mvN q (w + 1)) : Int), w + 1) else lmvF f q (w + 1)) = _
  rw [h, if_neg (by show ¬ (b : Int) < _; omega)]
theorem mv_s {i w : Nat} : mvN i (w + 1) = i ^^^ 2 ^ w := by rw [mvN, if_neg (by omega), Nat.add_sub_cancel]
theorem mv_ltW {q w W : Nat} (hq : q < 2 ^ W) (hw : w < W) : q ^^^ 2 ^ w < 2 ^ W := Nat.xor_lt_two_pow hq (Nat.pow_lt_pow_right (by omega) hw)
theorem lmv_max {f : Nat → Nat} {q : Nat} : ∀ m, (lmvF f q (m + 1)).1 = (lwF true f q m : Int)
  | 0 => by rw [lmv_1]; rfl
  | m + 1 => by
    have ih := lmv_max (f := f) (q := q) m
    have e : lmvF f q (m + 1) = ((lwF true f q m : Int), (lmvF f q (m + 1)).2) := Prod.ext ih rfl
    have e2 : lwF true f q (m + 1) = max (lwF true f q m) (f (mvN q (m + 1))) := rfl
    by_cases c : lwF true f q m < f (mvN q (m + 1))
    · rw [lmv_y e c, e2]
      show (f (mvN q (m + 1)) : Int) = _
      omega
    · rw [lmv_n e c, e2]
      show (lwF true f q m : Int) = _
      omega
theorem lord_s {wv : Nat → Nat} {i w mv vv t v7 v6 : Nat} {most b : Bool} (ht : 1 ≤ t) (hmo : most = decide (t % 2 = 1)) (hvv : vv = wv (i ^^^ 2 ^ w))
    (hb : b = if (t - 1) % 2 = 0 then (if vv ≤ lwF most wv i w then false else true) else (if lwF most wv i w ≤ vv then false else true))
    (h7 : v7 = if b = true then w + 1 else mv) (h6 : v6 = if b = true then vv else lwF most wv i w) (hmv : most = true → lmvF wv i (w + 1) = ((lwF most wv i w : Int), mv)) :
    v6 = lwF most wv i (w + 1) ∧ (most = true → lmvF wv i (w + 1 + 1) = ((lwF most wv i (w + 1) : Int), v7)) := by
  have e2 : lwF most wv i (w + 1) = ext most (lwF most wv i w) vv := by rw [hvv, ← mv_s]; rfl
  obtain ⟨best, eb⟩ : ∃ z, z = lwF most wv i w := ⟨_, rfl⟩
  rw [← eb] at hb h6 hmv e2
  by_cases c : (t - 1) % 2 = 0
  · have m1 : most = true := by rw [hmo]; exact decide_eq_true (by omega)
    rw [if_pos c] at hb
    rw [ext, if_pos m1] at e2
    rcases Nat.lt_or_ge best vv with d | d
    · rw [if_neg (by omega)] at hb
      rw [hb, if_pos rfl] at h7 h6
      have e3 : lwF most wv i (w + 1) = vv := by rw [e2]; omega
      rw [e3, h6, h7]
      refine ⟨rfl, fun m => ?_⟩
      rw [lmv_y (hmv m) (by rw [mv_s, ← hvv]; exact d), mv_s, ← hvv]
    · rw [if_pos d] at hb
      rw [hb, if_neg (by decide)] at h7 h6
      have e3 : lwF most wv i (w + 1) = best := by rw [e2]; omega
      rw [e3, h6, h7]
      refine ⟨rfl, fun m => ?_⟩
      exact lmv_n (hmv m) (by rw [mv_s, ← hvv]; omega)
  · have m1 : most = false := by rw [hmo]; exact decide_eq_false (by omega)
    rw [if_neg c] at hb
    rw [ext, if_neg (by rw [m1]; decide)] at e2
    refine ⟨?_, fun m => by rw [m1] at m; cases m⟩
    rcases Nat.lt_or_ge vv best with d | d
    · rw [if_neg (show ¬ best ≤ vv by omega)] at hb
      rw [e2, h6, hb, if_pos rfl]; omega
    · rw [if_pos d] at hb
      rw [e2, h6, hb, if_neg (by decide)]; omega
theorem nI_dec2 (i : Nat) : nI i + Int32.ofInt (-1) = nI i - nI 1 := by
  rw [Int32.sub_eq_add_neg]
  rfl
