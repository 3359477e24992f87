/-! THE LAND out of the text: pure -/
def dpF (Ws : List (Nat × Nat)) (w : Nat) : Nat := (Ws.getD w (0, 0)).1
def stF (Ws : List (Nat × Nat)) (w : Nat) : Nat := (Ws.getD w (0, 0)).2
def wD (df : Nat → Int32) (Ws : List (Nat × Nat)) : Prop := ∀ w, w < Ws.length → df w = nI (dpF Ws w)
def wT (tf : Nat → Int32) (Ws : List (Nat × Nat)) : Prop := ∀ w, w < Ws.length → tf w = nI (stF Ws w)
def okW (Ws : List (Nat × Nat)) : Prop := Ws.length ≤ 4 ∧ ∀ w, w < Ws.length → 1 ≤ dpF Ws w ∧ dpF Ws w ≤ 9 ∧ stF Ws w ≤ 2
theorem dpF_lt {Ws Vs : List (Nat × Nat)} {w : Nat} (h : w < Ws.length) : dpF (Ws ++ Vs) w = dpF Ws w ∧ stF (Ws ++ Vs) w = stF Ws w := by
  simp [dpF, stF, List.getD_eq_getElem?_getD, List.getElem?_append_left h]
theorem dpF_len {Ws : List (Nat × Nat)} {d s : Nat} : dpF (Ws ++ [(d, s)]) Ws.length = d ∧ stF (Ws ++ [(d, s)]) Ws.length = s := by
  simp [dpF, stF, List.getD_eq_getElem?_getD]
theorem wD_app {df : Nat → Int32} {Ws : List (Nat × Nat)} {d s : Nat} (h : wD df Ws) : wD (upd df Ws.length (nI d)) (Ws ++ [(d, s)]) := by
  intro w hw
  simp only [List.length_append, List.length_singleton] at hw
  by_cases c : w = Ws.length
  · subst c; rw [upd_s, dpF_len.1]
  · rw [upd_n c, (dpF_lt (by omega)).1, h w (by omega)]
theorem wT_app {tf : Nat → Int32} {Ws : List (Nat × Nat)} {d s : Nat} (h : wT tf Ws) : wT (upd tf Ws.length (nI s)) (Ws ++ [(d, s)]) := by
  intro w hw
  simp only [List.length_append, List.length_singleton] at hw
  by_cases c : w = Ws.length
  · subst c; rw [upd_s, dpF_len.2]
  · rw [upd_n c, (dpF_lt (by omega)).2, h w (by omega)]
def tellW (T : List Nat) (p : Nat) (Ws : List (Nat × Nat)) : List (Nat × Nat) := if tg T p = 87 then Ws ++ [(tg T (p + 1) - 48, tg T (p + 2) - 48)] else Ws
def tellL (T : List Nat) (p : Nat) (L : List Sg) : List Sg := if tg T p = 83 then L ++ [mkS (tg T (p + 1) - 48) (tg T (p + 2) - 48) (tg T (p + 3) - 48) (tg T (p + 4) - 48) 0] else L
/-- the telling of the parts: at place p, what is told so far is W, L, the next part begins at q -/
def lIn (T : List Nat) (R : Int32 × List (Nat × Nat) × List Sg) (p : Nat) (W : List (Nat × Nat)) (L : List Sg) : Prop :=
  ∃ q f : Nat, p ≤ q ∧ q ≤ T.length ∧ T.length < f + q ∧ prs T f q W L = R ∧ (∀ j, p ≤ j → j < q → 48 ≤ tg T j ∧ tg T j ≤ 57) ∧ W.length ≤ 4 ∧ L.length ≤ 6
theorem lIn_0 {T : List Nat} (h : (landP T).1 = -9) : 1 ≤ T.length ∧ lIn T (landP T) 1 [] [] := by
  by_cases c : T.length = 0 ∨ tg T 0 ≠ 76
  · rw [landP, if_pos c] at h
    exact absurd h (by decide)
  · have hl : 1 ≤ T.length := by omega
    exact ⟨hl, 1, T.length + 1, by omega, hl, by omega, by rw [landP, if_neg c], fun j h1 h2 => by omega, by simp, by simp⟩
theorem nI_ne9 {p : Nat} (h : p < 2 ^ 31) : ¬ nI p = -9 := fun e => by
  have := congrArg Int32.toInt e
  rw [nI_toInt h] at this
  have e9 : (-9 : Int32).toInt = -9 := rfl
  omega
theorem dgB_t {T : List Nat} {j a b : Nat} (h : dgB T j a b = true) : j < T.length ∧ 48 + a ≤ tg T j ∧ tg T j ≤ 48 + b := by
  simpa [dgB, Bool.and_eq_true, decide_eq_true_eq] using h
/-- at a part's beginning: what prs says there -/
theorem prs_at {T : List Nat} {f p : Nat} {W : List (Nat × Nat)} {L : List Sg} {R : Int32 × List (Nat × Nat) × List Sg} (hT : T.length ≤ 56) (hp : p < T.length) (h : prs T (f + 1) p W L = R) (h9 : R.1 = -9) :
    (tg T p = 87 ∧ W.length < 4 ∧ dgB T (p + 1) 1 9 = true ∧ dgB T (p + 2) 0 2 = true ∧ prs T f (p + 3) (tellW T p W) (tellL T p L) = R) ∨
    (tg T p = 83 ∧ 0 < W.length ∧ L.length < 6 ∧ dgB T (p + 1) 0 5 = true ∧ dgB T (p + 2) 0 (W.length - 1) = true ∧ dgB T (p + 3) 1 9 = true ∧ dgB T (p + 4) 0 3 = true ∧ prs T f (p + 5) (tellW T p W) (tellL T p L) = R) := by
  rw [prs, if_neg (by omega)] at h
  have bad : ∀ {q : Nat} {W : List (Nat × Nat)} {L : List Sg}, q < 100 → (nI q, W, L) = R → False := fun {q _ _} hq e => nI_ne9 (p := q) (by omega) (by rw [← e] at h9; exact h9)
  by_cases c : tg T p = 87 ∧ W.length < 4
  · rw [if_pos c] at h
    by_cases d1 : dgB T (p + 1) 1 9 = true
    · rw [if_pos d1] at h
      by_cases d2 : dgB T (p + 2) 0 2 = true
      · rw [if_pos d2] at h
        exact Or.inl ⟨c.1, c.2, d1, d2, by rw [tellW, if_pos c.1, tellL, if_neg (by omega)]; exact h⟩
      · rw [if_neg d2] at h; exact (bad (by omega) h).elim
    · rw [if_neg d1] at h; exact (bad (by omega) h).elim
  · rw [if_neg c] at h
    by_cases c2 : tg T p = 83 ∧ 0 < W.length ∧ L.length < 6
    · rw [if_pos c2] at h
      by_cases d1 : dgB T (p + 1) 0 5 = true
      · rw [if_pos d1] at h
        by_cases d2 : dgB T (p + 2) 0 (W.length - 1) = true
        · rw [if_pos d2] at h
          by_cases d3 : dgB T (p + 3) 1 9 = true
          · rw [if_pos d3] at h
            by_cases d4 : dgB T (p + 4) 0 3 = true
            · rw [if_pos d4] at h
              exact Or.inr ⟨c2.1, c2.2.1, c2.2.2, d1, d2, d3, d4, by rw [tellW, if_neg (by omega), tellL, if_pos c2.1]; exact h⟩
            · rw [if_neg d4] at h; exact (bad (by omega) h).elim
          · rw [if_neg d3] at h; exact (bad (by omega) h).elim
        · rw [if_neg d2] at h; exact (bad (by omega) h).elim
      · rw [if_neg d1] at h; exact (bad (by omega) h).elim
    · rw [if_neg c2] at h; exact (bad (by omega) h).elim
/-- what a telling at p needs -/
theorem lIn_at {T : List Nat} {R : Int32 × List (Nat × Nat) × List Sg} {p : Nat} {W : List (Nat × Nat)} {L : List Sg} (hT : T.length ≤ 56) (h9 : R.1 = -9) (h : lIn T R p W L) (hp : p < T.length) :
    (tg T p = 87 → W.length < 4 ∧ p + 2 < T.length ∧ 48 ≤ tg T (p + 1) ∧ 48 ≤ tg T (p + 2)) ∧
    (tg T p = 83 → L.length < 6 ∧ p + 4 < T.length ∧ 48 ≤ tg T (p + 1) ∧ 48 ≤ tg T (p + 2) ∧ 48 ≤ tg T (p + 3) ∧ 48 ≤ tg T (p + 4)) ∧ lIn T R (p + 1) (tellW T p W) (tellL T p L) := by
  obtain ⟨q, f, h1, h2, h3, h4, h5, h6, h7⟩ := h
  rcases Nat.lt_or_ge p q with c | c
  · have hd := h5 p (Nat.le_refl p) c
    refine ⟨fun e => by omega, fun e => by omega, q, f, c, h2, h3, ?_, fun j a b => h5 j (by omega) b, ?_, ?_⟩
    · rw [tellW, if_neg (by omega), tellL, if_neg (by omega)]; exact h4
    · rw [tellW, if_neg (by omega)]; exact h6
    · rw [tellL, if_neg (by omega)]; exact h7
  · obtain rfl : p = q := by omega
    obtain ⟨f', rfl⟩ := prs_fu h3 h2
    rcases prs_at hT hp h4 h9 with ⟨a1, a2, a3, a4, a5⟩ | ⟨a1, a2, a3, a4, a5, a6, a7, a8⟩
    · have b1 := dgB_t a3
      have b2 := dgB_t a4
      refine ⟨fun _ => ⟨a2, by omega, by omega, by omega⟩, fun e => by omega, p + 3, f', by omega, by omega, by omega, a5, fun j x y => ?_, ?_, ?_⟩
      · have : j = p + 1 ∨ j = p + 2 := by omega
        rcases this with rfl | rfl <;> omega
      · rw [tellW, if_pos a1]; simp; omega
      · rw [tellL, if_neg (by omega)]; exact h7
    · have b1 := dgB_t a4
      have b2 := dgB_t a5
      have b3 := dgB_t a6
      have b4 := dgB_t a7
      refine ⟨fun e => by omega, fun _ => ⟨a3, by omega, by omega, by omega, by omega, by omega⟩, p + 5, f', by omega, by omega, by omega, a8, fun j x y => ?_, ?_, ?_⟩
      · have : j = p + 1 ∨ j = p + 2 ∨ j = p + 3 ∨ j = p + 4 := by omega
        rcases this with rfl | rfl | rfl | rfl <;> omega
      · rw [tellW, if_neg (by omega)]; exact h6
      · rw [tellL, if_pos a1]; simp; omega
theorem lIn_n {T : List Nat} {R : Int32 × List (Nat × Nat) × List Sg} {W : List (Nat × Nat)} {L : List Sg} (h : lIn T R T.length W L) : R = (-9, W, L) := by
  obtain ⟨q, f, h1, h2, h3, h4, h5, h6, h7⟩ := h
  obtain rfl : q = T.length := by omega
  obtain ⟨f', rfl⟩ := prs_fu h3 h2
  rw [← h4, prs, if_pos (Nat.le_refl _)]
theorem okL_W {W W' A : Nat} {L : List Sg} (h : okL W A L) (hW : W ≤ W') : okL W' A L := ⟨h.1, fun i hi => by
  obtain ⟨a0, a1, a2, a3, a4, a5, a6⟩ := h.2 i hi
  exact ⟨a0, by omega, a2, a3, a4, a5, a6⟩⟩
theorem prs_ok {T : List Nat} (hT : T.length ≤ 56) : ∀ (f p : Nat) (W : List (Nat × Nat)) (L : List Sg) (R : Int32 × List (Nat × Nat) × List Sg), T.length < f + p → p ≤ T.length → prs T f p W L = R → R.1 = -9 → okW W → okL W.length 0 L → L.length ≤ 6 → okW R.2.1 ∧ okL R.2.1.length 0 R.2.2 ∧ R.2.2.length ≤ 6
  | 0, p, W, L, R, hf, hp, h, h9, hW, hL, h6 => by omega
  | f + 1, p, W, L, R, hf, hp, h, h9, hW, hL, h6 => by
    rcases Nat.lt_or_ge p T.length with c | c
    · rcases prs_at hT c h h9 with ⟨a1, a2, a3, a4, a5⟩ | ⟨a1, a2, a3, a4, a5, a6, a7, a8⟩
      · have b1 := dgB_t a3
        have b2 := dgB_t a4
        rw [tellW, if_pos a1, tellL, if_neg (by omega)] at a5
        refine prs_ok hT f (p + 3) _ _ R (by omega) (by omega) a5 h9 ⟨by simp; omega, fun w hw => ?_⟩ (okL_W hL (by simp)) h6
        simp only [List.length_append, List.length_singleton] at hw
        by_cases e : w = W.length
        · subst e; rw [dpF_len.1, dpF_len.2]; omega
        · rw [(dpF_lt (by omega)).1, (dpF_lt (by omega)).2]; exact hW.2 w (by omega)
      · have b1 := dgB_t a4
        have b2 := dgB_t a5
        have b3 := dgB_t a6
        have b4 := dgB_t a7
        rw [tellW, if_neg (by omega), tellL, if_pos a1] at a8
        refine prs_ok hT f (p + 5) _ _ R (by omega) (by omega) a8 h9 hW (okL_snoc hL (by omega) ?_) (by simp; omega)
        refine ⟨?_, ?_, ?_, ?_, ?_, ?_, ?_⟩ <;> simp [mkS] <;> omega
    · rw [prs, if_pos c] at h
      subst h
      exact ⟨hW, hL, h6⟩
theorem land_ok {T : List Nat} (hT : T.length ≤ 56) (h9 : (landP T).1 = -9) : okW (landP T).2.1 ∧ okL (landP T).2.1.length 0 (landP T).2.2 ∧ (landP T).2.2.length ≤ 6 := by
  obtain ⟨h1, q, f, a1, a2, a3, a4, a5, a6, a7⟩ := lIn_0 h9
  exact prs_ok hT f q [] [] _ a3 a2 a4 h9 ⟨by simp, fun w hw => by simp at hw⟩ okL_nil (by simp)
