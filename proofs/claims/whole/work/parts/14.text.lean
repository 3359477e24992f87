/-! THE TEXT and its FAULT -/
def tg (T : List Nat) (j : Nat) : Nat := T.getD j 0
def tx (f : Nat → Int32) (T : List Nat) : Prop := ∀ j, j < T.length → f j = nI (tg T j)
def okT (T : List Nat) : Prop := T.length ≤ 56 ∧ ∀ j, j < T.length → tg T j < 256
def appT (T : List Nat) (x : Nat) : List Nat := if T.length < 56 then T ++ [x] else T
theorem tg_lt {T U : List Nat} {j : Nat} (h : j < T.length) : tg (T ++ U) j = tg T j := by
  simp [tg, List.getD_eq_getElem?_getD, List.getElem?_append_left h]
theorem tg_len {T : List Nat} {x : Nat} : tg (T ++ [x]) T.length = x := by
  simp [tg, List.getD_eq_getElem?_getD]
theorem tx_app {f : Nat → Int32} {T : List Nat} {x : Nat} (h : tx f T) (hl : T.length < 56) : tx (upd f T.length (nI x)) (appT T x) := by
  rw [appT, if_pos hl]
  intro j hj
  simp only [List.length_append, List.length_singleton] at hj
  by_cases c : j = T.length
  · subst c; rw [upd_s, tg_len]
  · rw [upd_n c, tg_lt (by omega), h j (by omega)]
theorem tx_app2 {f : Nat → Int32} {T : List Nat} {x : Nat} (h : tx f T) (hl : ¬ T.length < 56) : tx f (appT T x) := by
  rw [appT, if_neg hl]; exact h
theorem okT_app {T : List Nat} {x : Nat} (h : okT T) (hx : x < 256) : okT (appT T x) := by
  rw [appT]
  split
  · refine ⟨by simp only [List.length_append, List.length_singleton]; omega, fun j hj => ?_⟩
    simp only [List.length_append, List.length_singleton] at hj
    by_cases c : j = T.length
    · subst c; rw [tg_len]; exact hx
    · rw [tg_lt (by omega)]; exact h.2 j (by omega)
  · exact h
/-- a figure stands there, from a to b -/
def dgB (T : List Nat) (j a b : Nat) : Bool := decide (j < T.length) && (decide (48 + a ≤ tg T j) && decide (tg T j ≤ 48 + b))
/-- the parts from place p on: the fault (-9: none), the wells, the songs -/
def prs (T : List Nat) : Nat → Nat → List (Nat × Nat) → List Sg → Int32 × List (Nat × Nat) × List Sg
  | 0, p, W, L => (nI p, W, L)
  | f + 1, p, W, L =>
    if T.length ≤ p then (-9, W, L)
    else if tg T p = 87 ∧ W.length < 4 then
      (if dgB T (p + 1) 1 9 = true then (if dgB T (p + 2) 0 2 = true then prs T f (p + 3) (W ++ [(tg T (p + 1) - 48, tg T (p + 2) - 48)]) L else (nI (p + 2), W, L)) else (nI (p + 1), W, L))
    else if tg T p = 83 ∧ 0 < W.length ∧ L.length < 6 then
      (if dgB T (p + 1) 0 5 = true then (if dgB T (p + 2) 0 (W.length - 1) = true then (if dgB T (p + 3) 1 9 = true then (if dgB T (p + 4) 0 3 = true then prs T f (p + 5) W (L ++ [mkS (tg T (p + 1) - 48) (tg T (p + 2) - 48) (tg T (p + 3) - 48) (tg T (p + 4) - 48) 0]) else (nI (p + 4), W, L)) else (nI (p + 3), W, L)) else (nI (p + 2), W, L)) else (nI (p + 1), W, L))
    else (nI p, W, L)
def landP (T : List Nat) : Int32 × List (Nat × Nat) × List Sg := if T.length = 0 ∨ tg T 0 ≠ 76 then (nI 0, [], []) else prs T (T.length + 1) 1 [] []
def opB (c w s : Nat) : Bool := if c = 87 then decide (w < 4) else if c = 83 then (decide (0 < w) && decide (s < 6)) else false
def stB (c k d w : Nat) : Bool :=
  if k = 87 then (if d = 0 then decide (49 ≤ c) && decide (c ≤ 57) else decide (48 ≤ c) && decide (c ≤ 50))
  else if d = 0 then decide (48 ≤ c) && decide (c ≤ 53) else if d = 1 then decide (48 ≤ c) && decide (c ≤ 48 + (w - 1)) else if d = 2 then decide (49 ≤ c) && decide (c ≤ 57) else decide (48 ≤ c) && decide (c ≤ 51)
theorem inB_48 {c a b : Nat} (hc : c < 256) (ha : a < 100) (hb : b < 100) : inB (nI c - nI 48) (nI a) (nI b) = (decide (48 + a ≤ c) && decide (c ≤ 48 + b)) := by
  have e := pk_sub_toInt (a := c) (b := 48) (by omega) (by omega)
  have h1 : (nI a ≤ nI c - nI 48) = (48 + a ≤ c) := propext (by rw [Int32.le_iff_toInt_le, e, nI_toInt (by omega)]; omega)
  have h2 : (nI c - nI 48 ≤ nI b) = (c ≤ 48 + b) := propext (by rw [Int32.le_iff_toInt_le, e, nI_toInt (by omega)]; omega)
  simp only [inB, h1, h2]
/-- where the walk of the faults stands: at place i, w wells and s songs told, in a part k (0 none) at its figure d -/
def fIn (T : List Nat) (V : Int32) (i w s k d : Nat) : Prop :=
  (i = 0 ∧ w = 0 ∧ s = 0 ∧ k = 0 ∧ V = (landP T).1) ∨
  (0 < i ∧ 0 < T.length ∧ ∃ (p : Nat) (W : List (Nat × Nat)) (L : List Sg) (f : Nat), V = (prs T f p W L).1 ∧ W.length = w ∧ L.length = s ∧ w ≤ 4 ∧ s ≤ 6 ∧ T.length < f + p ∧ p ≤ T.length ∧
    ((k = 0 ∧ p = i) ∨
     (k = 87 ∧ p < T.length ∧ d < 2 ∧ p + 1 + d = i ∧ tg T p = 87 ∧ w < 4 ∧ (0 < d → dgB T (p + 1) 1 9 = true)) ∨
     (k = 83 ∧ p < T.length ∧ d < 4 ∧ p + 1 + d = i ∧ tg T p = 83 ∧ 0 < w ∧ s < 6 ∧ (0 < d → dgB T (p + 1) 0 5 = true) ∧ (1 < d → dgB T (p + 2) 0 (w - 1) = true) ∧ (2 < d → dgB T (p + 3) 1 9 = true))))
theorem fIn_0 {T : List Nat} : fIn T (landP T).1 0 0 0 0 0 := Or.inl ⟨rfl, rfl, rfl, rfl, rfl⟩
theorem fIn_no {T : List Nat} {V : Int32} {w s k d : Nat} (h : fIn T V 0 w s k d) (hc : ¬ tg T 0 = 76) : V = nI 0 := by
  rcases h with ⟨-, -, -, -, h⟩ | ⟨h, -⟩
  · rw [h, landP, if_pos (Or.inr hc)]
  · omega
theorem fIn_L {T : List Nat} {V : Int32} {w s k d : Nat} (h : fIn T V 0 w s k d) (hi : 0 < T.length) (hc : tg T 0 = 76) : fIn T V 1 w s k d := by
  rcases h with ⟨-, rfl, rfl, rfl, h⟩ | ⟨h, -⟩
  · refine Or.inr ⟨by omega, hi, 1, [], [], T.length + 1, ?_, rfl, rfl, by omega, by omega, by omega, by omega, Or.inl ⟨rfl, rfl⟩⟩
    rw [h, landP, if_neg]
    rintro (q | q)
    · omega
    · exact q hc
  · omega
theorem prs_fu {T : List Nat} {f p : Nat} (h : T.length < f + p) (hp : p ≤ T.length) : ∃ f', f = f' + 1 := ⟨f - 1, by omega⟩
theorem fIn_op {T : List Nat} {V : Int32} {i w s d : Nat} (h : fIn T V i w s 0 d) (h0 : i ≠ 0) (hi : i < T.length) (hc : ¬ opB (tg T i) w s = true) : V = nI i := by
  rcases h with ⟨h, -⟩ | ⟨-, -, p, W, L, f, hV, rfl, rfl, hw, hs, hf, hp, ⟨-, rfl⟩ | ⟨hk, -⟩ | ⟨hk, -⟩⟩
  · omega
  · obtain ⟨f', rfl⟩ := prs_fu hf hp
    rw [hV, prs, if_neg (by omega), if_neg, if_neg]
    · rintro ⟨q1, q2, q3⟩; exact hc (by simp [opB, q1, q2, q3])
    · rintro ⟨q1, q2⟩; exact hc (by simp [opB, q1, q2])
  · omega
  · omega
theorem fIn_in {T : List Nat} {V : Int32} {i w s d : Nat} (h : fIn T V i w s 0 d) (h0 : i ≠ 0) (hi : i < T.length) (hc : opB (tg T i) w s = true) : fIn T V (i + 1) w s (tg T i) 0 := by
  rcases h with ⟨h, -⟩ | ⟨h1, h2, p, W, L, f, hV, rfl, rfl, hw, hs, hf, hp, ⟨-, rfl⟩ | ⟨hk, -⟩ | ⟨hk, -⟩⟩
  · omega
  · refine Or.inr ⟨by omega, h2, p, W, L, f, hV, rfl, rfl, hw, hs, hf, hp, Or.inr ?_⟩
    by_cases c : tg T p = 87
    · rw [opB, if_pos c, decide_eq_true_eq] at hc
      exact Or.inl ⟨c, hi, by omega, by omega, c, hc, fun q => by omega⟩
    · rw [opB, if_neg c] at hc
      by_cases c2 : tg T p = 83
      · rw [if_pos c2, Bool.and_eq_true, decide_eq_true_eq, decide_eq_true_eq] at hc
        exact Or.inr ⟨c2, hi, by omega, by omega, c2, hc.1, hc.2, fun q => by omega, fun q => by omega, fun q => by omega⟩
      · rw [if_neg c2] at hc; cases hc
  · omega
  · omega
theorem fIn_k {T : List Nat} {V : Int32} {i w s k d : Nat} (h : fIn T V i w s k d) (h0 : i ≠ 0) (hk : k ≠ 0) : (k = 87 ∧ d < 2) ∨ (k = 83 ∧ d < 4 ∧ 0 < w ∧ w ≤ 4) := by
  rcases h with ⟨h, -⟩ | ⟨h1, h2, p, W, L, f, hV, e1, e2, hw, hs, hf, hp, ⟨hk', -⟩ | ⟨hk', q⟩ | ⟨hk', q⟩⟩
  · omega
  · omega
  · exact Or.inl ⟨hk', q.2.1⟩
  · exact Or.inr ⟨hk', q.2.1, q.2.2.2.2.1, hw⟩
theorem dgB_i {T : List Nat} {j a b : Nat} (h : j < T.length) : dgB T j a b = (decide (48 + a ≤ tg T j) && decide (tg T j ≤ 48 + b)) := by simp [dgB, h]
theorem dgB_o {T : List Nat} {j a b : Nat} (h : ¬ j < T.length) : dgB T j a b = false := by simp [dgB, h]
/-- the fault within a part: at its first figure that can't stand -/
theorem prs_W {T : List Nat} {f p d : Nat} {W : List (Nat × Nat)} {L : List Sg} (hp : p < T.length) (hc : tg T p = 87) (hw : W.length < 4) (hd : d < 2) (h1 : 0 < d → dgB T (p + 1) 1 9 = true) (hn : (if d = 0 then dgB T (p + 1) 1 9 else dgB T (p + 2) 0 2) = false) : (prs T (f + 1) p W L).1 = nI (p + 1 + d) := by
  rw [prs, if_neg (by omega), if_pos ⟨hc, hw⟩]
  have : d = 0 ∨ d = 1 := by omega
  rcases this with rfl | rfl
  · rw [if_pos rfl] at hn; rw [hn]; rfl
  · rw [if_neg (by omega)] at hn; rw [h1 (by omega), hn]; rfl
theorem prs_S {T : List Nat} {f p d : Nat} {W : List (Nat × Nat)} {L : List Sg} (hp : p < T.length) (hc : tg T p = 83) (hw : 0 < W.length) (hs : L.length < 6) (hd : d < 4) (h1 : 0 < d → dgB T (p + 1) 0 5 = true) (h2 : 1 < d → dgB T (p + 2) 0 (W.length - 1) = true) (h3 : 2 < d → dgB T (p + 3) 1 9 = true)
    (hn : (if d = 0 then dgB T (p + 1) 0 5 else if d = 1 then dgB T (p + 2) 0 (W.length - 1) else if d = 2 then dgB T (p + 3) 1 9 else dgB T (p + 4) 0 3) = false) : (prs T (f + 1) p W L).1 = nI (p + 1 + d) := by
  rw [prs, if_neg (by omega), if_neg (by rintro ⟨q, -⟩; omega), if_pos ⟨hc, hw, hs⟩]
  have : d = 0 ∨ d = 1 ∨ d = 2 ∨ d = 3 := by omega
  rcases this with rfl | rfl | rfl | rfl
  · rw [if_pos rfl] at hn; rw [hn]; rfl
  · rw [if_neg (by omega), if_pos rfl] at hn; rw [h1 (by omega), hn]; rfl
  · rw [if_neg (by omega), if_neg (by omega), if_pos rfl] at hn; rw [h1 (by omega), h2 (by omega), hn]; rfl
  · rw [if_neg (by omega), if_neg (by omega), if_neg (by omega)] at hn; rw [h1 (by omega), h2 (by omega), h3 (by omega), hn]; rfl
theorem stB_W {T : List Nat} {p d w : Nat} (h : p + 1 + d < T.length) (hd : d < 2) : stB (tg T (p + 1 + d)) 87 d w = if d = 0 then dgB T (p + 1) 1 9 else dgB T (p + 2) 0 2 := by
  have : d = 0 ∨ d = 1 := by omega
  rcases this with rfl | rfl
  · rw [if_pos rfl, dgB_i (by omega)]; simp [stB]
  · rw [if_neg (by omega), dgB_i (by omega)]; simp [stB]
theorem stB_S {T : List Nat} {p d w : Nat} (h : p + 1 + d < T.length) (hd : d < 4) : stB (tg T (p + 1 + d)) 83 d w = if d = 0 then dgB T (p + 1) 0 5 else if d = 1 then dgB T (p + 2) 0 (w - 1) else if d = 2 then dgB T (p + 3) 1 9 else dgB T (p + 4) 0 3 := by
  have : d = 0 ∨ d = 1 ∨ d = 2 ∨ d = 3 := by omega
  rcases this with rfl | rfl | rfl | rfl
  · rw [if_pos rfl, dgB_i (by omega)]; simp [stB]
  · rw [if_neg (by omega), if_pos rfl, dgB_i (by omega)]; simp [stB]
  · rw [if_neg (by omega), if_neg (by omega), if_pos rfl, dgB_i (by omega)]; simp [stB]
  · rw [if_neg (by omega), if_neg (by omega), if_neg (by omega), dgB_i (by omega)]; simp [stB]
theorem fIn_st {T : List Nat} {V : Int32} {i w s k d : Nat} (h : fIn T V i w s k d) (h0 : i ≠ 0) (hk : k ≠ 0) (hi : i < T.length) (hc : ¬ stB (tg T i) k d w = true) : V = nI i := by
  rcases h with ⟨h, -⟩ | ⟨h1, h2, p, W, L, f, hV, rfl, rfl, hw, hs, hf, hp, ⟨hk', -⟩ | ⟨rfl, q1, q2, rfl, q4, q5, q6⟩ | ⟨rfl, q1, q2, rfl, q4, q5, q6, q7, q8, q9⟩⟩
  · omega
  · omega
  · obtain ⟨f', rfl⟩ := prs_fu hf hp
    rw [stB_W hi q2, Bool.not_eq_true] at hc
    rw [hV]; exact prs_W q1 q4 q5 q2 q6 hc
  · obtain ⟨f', rfl⟩ := prs_fu hf hp
    rw [stB_S hi q2, Bool.not_eq_true] at hc
    rw [hV]; exact prs_S q1 q4 q5 q6 q2 q7 q8 q9 hc
theorem fIn_nx {T : List Nat} {V : Int32} {i w s k d : Nat} (h : fIn T V i w s k d) (h0 : i ≠ 0) (hk : k ≠ 0) (hi : i < T.length) (hc : stB (tg T i) k d w = true) (hd : ¬ d + 1 = if k = 87 then 2 else 4) : fIn T V (i + 1) w s k (d + 1) := by
  rcases h with ⟨h, -⟩ | ⟨h1, h2, p, W, L, f, hV, rfl, rfl, hw, hs, hf, hp, ⟨hk', -⟩ | ⟨rfl, q1, q2, rfl, q4, q5, q6⟩ | ⟨rfl, q1, q2, rfl, q4, q5, q6, q7, q8, q9⟩⟩
  · omega
  · omega
  · rw [if_pos rfl] at hd
    rw [stB_W hi q2, if_pos (by omega)] at hc
    exact Or.inr ⟨by omega, h2, p, W, L, f, hV, rfl, rfl, hw, hs, hf, hp, Or.inr (Or.inl ⟨rfl, q1, by omega, by omega, q4, q5, fun _ => hc⟩)⟩
  · rw [if_neg (by omega)] at hd
    rw [stB_S hi q2] at hc
    have : d = 0 ∨ d = 1 ∨ d = 2 := by omega
    refine Or.inr ⟨by omega, h2, p, W, L, f, hV, rfl, rfl, hw, hs, hf, hp, Or.inr (Or.inr ⟨rfl, q1, by omega, by omega, q4, q5, q6, ?_⟩)⟩
    rcases this with rfl | rfl | rfl
    · exact ⟨fun _ => hc, fun q => by omega, fun q => by omega⟩
    · exact ⟨fun _ => q7 (by omega), fun _ => hc, fun q => by omega⟩
    · exact ⟨fun _ => q7 (by omega), fun _ => q8 (by omega), fun _ => hc⟩
theorem fIn_end {T : List Nat} {V : Int32} {i w s k d d' : Nat} (h : fIn T V i w s k d) (h0 : i ≠ 0) (hk : k ≠ 0) (hi : i < T.length) (hc : stB (tg T i) k d w = true) (hd : d + 1 = if k = 87 then 2 else 4) : fIn T V (i + 1) (w + if k = 87 then 1 else 0) (s + if k = 83 then 1 else 0) 0 d' := by
  rcases h with ⟨h, -⟩ | ⟨h1, h2, p, W, L, f, hV, rfl, rfl, hw, hs, hf, hp, ⟨hk', -⟩ | ⟨rfl, q1, q2, rfl, q4, q5, q6⟩ | ⟨rfl, q1, q2, rfl, q4, q5, q6, q7, q8, q9⟩⟩
  · omega
  · omega
  · obtain ⟨f', rfl⟩ := prs_fu hf hp
    rw [if_pos rfl] at hd
    obtain rfl : d = 1 := by omega
    rw [stB_W hi q2, if_neg (by omega)] at hc
    refine Or.inr ⟨by omega, h2, p + 3, W ++ [(tg T (p + 1) - 48, tg T (p + 2) - 48)], L, f', ?_, by simp, by simp, ?_, by simp; omega, by omega, by omega, Or.inl ⟨rfl, by omega⟩⟩
    · rw [hV, prs, if_neg (by omega), if_pos ⟨q4, q5⟩, if_pos (q6 (by omega)), if_pos hc]
    · simp; omega
  · obtain ⟨f', rfl⟩ := prs_fu hf hp
    rw [if_neg (by omega)] at hd
    obtain rfl : d = 3 := by omega
    rw [stB_S hi q2, if_neg (by omega), if_neg (by omega), if_neg (by omega)] at hc
    refine Or.inr ⟨by omega, h2, p + 5, W, L ++ [mkS (tg T (p + 1) - 48) (tg T (p + 2) - 48) (tg T (p + 3) - 48) (tg T (p + 4) - 48) 0], f', ?_, by simp, by simp, ?_, ?_, by omega, by omega, Or.inl ⟨rfl, by omega⟩⟩
    · rw [hV, prs, if_neg (by omega), if_neg (by rintro ⟨q, -⟩; omega), if_pos ⟨q4, q5, q6⟩, if_pos (q7 (by omega)), if_pos (q8 (by omega)), if_pos (q9 (by omega)), if_pos hc]
    · simp; omega
    · simp; omega
theorem fIn_out {T : List Nat} {V : Int32} {w s k d : Nat} (h : fIn T V T.length w s k d) (hc : T.length = 0 ∨ k ≠ 0) : V = nI T.length := by
  rcases h with ⟨h, -, -, -, h2⟩ | ⟨h1, h2, p, W, L, f, hV, rfl, rfl, hw, hs, hf, hp, ⟨hk', -⟩ | ⟨rfl, q1, q2, q3, q4, q5, q6⟩ | ⟨rfl, q1, q2, q3, q4, q5, q6, q7, q8, q9⟩⟩
  · rw [h2, landP, if_pos (Or.inl h), h]
  · omega
  · obtain ⟨f', rfl⟩ := prs_fu hf hp
    rw [hV, prs_W q1 q4 q5 q2 q6, q3]
    have : d = 0 ∨ d = 1 := by omega
    rcases this with rfl | rfl
    · rw [if_pos rfl]; exact dgB_o (by omega)
    · rw [if_neg (by omega)]; exact dgB_o (by omega)
  · obtain ⟨f', rfl⟩ := prs_fu hf hp
    rw [hV, prs_S q1 q4 q5 q6 q2 q7 q8 q9, q3]
    have : d = 0 ∨ d = 1 ∨ d = 2 ∨ d = 3 := by omega
    rcases this with rfl | rfl | rfl | rfl
    · rw [if_pos rfl]; exact dgB_o (by omega)
    · rw [if_neg (by omega), if_pos rfl]; exact dgB_o (by omega)
    · rw [if_neg (by omega), if_neg (by omega), if_pos rfl]; exact dgB_o (by omega)
    · rw [if_neg (by omega), if_neg (by omega), if_neg (by omega)]; exact dgB_o (by omega)
theorem fIn_fin {T : List Nat} {V : Int32} {w s d : Nat} (h : fIn T V T.length w s 0 d) (hc : T.length ≠ 0) : V = -9 := by
  rcases h with ⟨h, -⟩ | ⟨h1, h2, p, W, L, f, hV, rfl, rfl, hw, hs, hf, hp, ⟨hk', q⟩ | ⟨hk, -⟩ | ⟨hk, -⟩⟩
  · omega
  · obtain ⟨f', rfl⟩ := prs_fu hf hp
    rw [hV, prs, if_pos (by omega)]
  · omega
  · omega
theorem fIn_b {T : List Nat} {V : Int32} {i w s d : Nat} (h : fIn T V i w s 0 d) (h0 : i ≠ 0) (hd : d < 100) : w < 100 ∧ s < 100 ∧ 0 < 256 ∧ d < 100 := by
  rcases h with ⟨h, -⟩ | ⟨h1, h2, p, W, L, f, hV, rfl, rfl, hw, hs, hf, hp, -⟩
  · omega
  · omega
theorem inB_1 {x lo up : Int32} (h : x < lo) : inB x lo up = false := by
  have : ¬ lo ≤ x := fun q => by have := Int32.le_iff_toInt_le.mp q; have := Int32.lt_iff_toInt_lt.mp h; omega
  simp [inB, this]
theorem inB_2 {x lo up : Int32} (h : up < x) : inB x lo up = false := by
  have : ¬ x ≤ up := fun q => by have := Int32.le_iff_toInt_le.mp q; have := Int32.lt_iff_toInt_lt.mp h; omega
  simp [inB, this]
theorem inB_3 {x lo up : Int32} (h : ¬ x < lo) (h2 : ¬ up < x) : inB x lo up = true := by
  have a : lo ≤ x := Int32.le_iff_toInt_le.mpr (by rw [Int32.lt_iff_toInt_lt] at h; omega)
  have b : x ≤ up := Int32.le_iff_toInt_le.mpr (by rw [Int32.lt_iff_toInt_lt] at h2; omega)
  simp [inB, a, b]
