/-! THE ACTS: twelve Songs in a pool -/
def poolW (cI : ClassId) (ra ca nn pl : Nat → Nat) (yy bb : Nat → Int32) (ff : Nat → Nat → Int32) : va_W := [(ra 0, .inr (1, [.ref (ca 0), .int (nI (nn 0)), .int (nI (pl 0)), .int (yy 0), .int (bb 0)])), (ca 0, .inl (cI, 48, .inl (ff 0))), (ra 1, .inr (1, [.ref (ca 1), .int (nI (nn 1)), .int (nI (pl 1)), .int (yy 1), .int (bb 1)])), (ca 1, .inl (cI, 48, .inl (ff 1))), (ra 2, .inr (1, [.ref (ca 2), .int (nI (nn 2)), .int (nI (pl 2)), .int (yy 2), .int (bb 2)])), (ca 2, .inl (cI, 48, .inl (ff 2))), (ra 3, .inr (1, [.ref (ca 3), .int (nI (nn 3)), .int (nI (pl 3)), .int (yy 3), .int (bb 3)])), (ca 3, .inl (cI, 48, .inl (ff 3))), (ra 4, .inr (1, [.ref (ca 4), .int (nI (nn 4)), .int (nI (pl 4)), .int (yy 4), .int (bb 4)])), (ca 4, .inl (cI, 48, .inl (ff 4))), (ra 5, .inr (1, [.ref (ca 5), .int (nI (nn 5)), .int (nI (pl 5)), .int (yy 5), .int (bb 5)])), (ca 5, .inl (cI, 48, .inl (ff 5))), (ra 6, .inr (1, [.ref (ca 6), .int (nI (nn 6)), .int (nI (pl 6)), .int (yy 6), .int (bb 6)])), (ca 6, .inl (cI, 48, .inl (ff 6))), (ra 7, .inr (1, [.ref (ca 7), .int (nI (nn 7)), .int (nI (pl 7)), .int (yy 7), .int (bb 7)])), (ca 7, .inl (cI, 48, .inl (ff 7))), (ra 8, .inr (1, [.ref (ca 8), .int (nI (nn 8)), .int (nI (pl 8)), .int (yy 8), .int (bb 8)])), (ca 8, .inl (cI, 48, .inl (ff 8))), (ra 9, .inr (1, [.ref (ca 9), .int (nI (nn 9)), .int (nI (pl 9)), .int (yy 9), .int (bb 9)])), (ca 9, .inl (cI, 48, .inl (ff 9))), (ra 10, .inr (1, [.ref (ca 10), .int (nI (nn 10)), .int (nI (pl 10)), .int (yy 10), .int (bb 10)])), (ca 10, .inl (cI, 48, .inl (ff 10))), (ra 11, .inr (1, [.ref (ca 11), .int (nI (nn 11)), .int (nI (pl 11)), .int (yy 11), .int (bb 11)])), (ca 11, .inl (cI, 48, .inl (ff 11)))]
def pobj (ra ca nn pl : Nat → Nat) (yy bb : Nat → Int32) (p : Nat) : Nat × va_E := (ra p, .inr (1, [.ref (ca p), .int (nI (nn p)), .int (nI (pl p)), .int (yy p), .int (bb p)]))
def parr (cI : ClassId) (ca : Nat → Nat) (ff : Nat → Nat → Int32) (p : Nat) : Nat × va_E := (ca p, .inl (cI, 48, .inl (ff p)))
set_option maxRecDepth 100000 in
theorem pool_at2 {cI : ClassId} {ra ca nn pl : Nat → Nat} {yy bb : Nat → Int32} {ff : Nat → Nat → Int32} {x0 x1 : Nat × va_E} {p : Nat} (hp : p < 12) : ([x0, x1] ++ poolW cI ra ca nn pl yy bb ff)[2 + 2 * p]? = some (pobj ra ca nn pl yy bb p) := by
  have : p = 0 ∨ p = 1 ∨ p = 2 ∨ p = 3 ∨ p = 4 ∨ p = 5 ∨ p = 6 ∨ p = 7 ∨ p = 8 ∨ p = 9 ∨ p = 10 ∨ p = 11 := by omega
  rcases this with rfl | rfl | rfl | rfl | rfl | rfl | rfl | rfl | rfl | rfl | rfl | rfl <;> rfl
set_option maxRecDepth 100000 in
theorem pool_at4 {cI : ClassId} {ra ca nn pl : Nat → Nat} {yy bb : Nat → Int32} {ff : Nat → Nat → Int32} {x0 x1 x2 x3 : Nat × va_E} {p : Nat} (hp : p < 12) : ([x0, x1, x2, x3] ++ poolW cI ra ca nn pl yy bb ff)[4 + 2 * p]? = some (pobj ra ca nn pl yy bb p) ∧ ([x0, x1, x2, x3] ++ poolW cI ra ca nn pl yy bb ff)[5 + 2 * p]? = some (parr cI ca ff p) := by
  have : p = 0 ∨ p = 1 ∨ p = 2 ∨ p = 3 ∨ p = 4 ∨ p = 5 ∨ p = 6 ∨ p = 7 ∨ p = 8 ∨ p = 9 ∨ p = 10 ∨ p = 11 := by omega
  rcases this with rfl | rfl | rfl | rfl | rfl | rfl | rfl | rfl | rfl | rfl | rfl | rfl <;> exact ⟨rfl, rfl⟩
set_option maxRecDepth 100000 in
theorem pool_set {cI : ClassId} {ra ca nn pl : Nat → Nat} {yy bb : Nat → Int32} {ff : Nat → Nat → Int32} {x0 x1 x2 x3 : Nat × va_E} {p : Nat} (hp : p < 12) (n q : Nat) (y b : Int32) (g : Nat → Int32) : setL ([x0, x1, x2, x3] ++ poolW cI ra ca nn pl yy bb ff) [4 + 2 * p, 5 + 2 * p, 2, 3] [(ra p, .inr (1, [.ref (ca p), .int (nI n), .int (nI q), .int y, .int b])), (ca p, .inl (cI, 48, .inl g)), x2, x3] = [x0, x1, x2, x3] ++ poolW cI ra ca (va_up nn p n) (va_up pl p q) (va_up yy p y) (va_up bb p b) (va_up ff p g) := by
  have : p = 0 ∨ p = 1 ∨ p = 2 ∨ p = 3 ∨ p = 4 ∨ p = 5 ∨ p = 6 ∨ p = 7 ∨ p = 8 ∨ p = 9 ∨ p = 10 ∨ p = 11 := by omega
  rcases this with rfl | rfl | rfl | rfl | rfl | rfl | rfl | rfl | rfl | rfl | rfl | rfl <;> rfl
set_option maxRecDepth 100000 in
theorem pool_same {cI : ClassId} {ra ca nn pl : Nat → Nat} {yy bb : Nat → Int32} {ff : Nat → Nat → Int32} {x0 x1 x2 x3 y2 y3 : Nat × va_E} {p : Nat} (hp : p < 12) : setL ([x0, x1, x2, x3] ++ poolW cI ra ca nn pl yy bb ff) [2, 3, 4 + 2 * p, 5 + 2 * p] [y2, y3, pobj ra ca nn pl yy bb p, parr cI ca ff p] = [x0, x1, y2, y3] ++ poolW cI ra ca nn pl yy bb ff := by
  have : p = 0 ∨ p = 1 ∨ p = 2 ∨ p = 3 ∨ p = 4 ∨ p = 5 ∨ p = 6 ∨ p = 7 ∨ p = 8 ∨ p = 9 ∨ p = 10 ∨ p = 11 := by omega
  rcases this with rfl | rfl | rfl | rfl | rfl | rfl | rfl | rfl | rfl | rfl | rfl | rfl <;> rfl
abbrev SS : Type := List Sg × Nat × Int32 × Int32
def gSS (As : List SS) (k : Nat) : SS := As.getD k ([], 0, 0, 0)
theorem gSS_lt {As B : List SS} {k : Nat} (h : k < As.length) : gSS (As ++ B) k = gSS As k := by
  simp [gSS, List.getD_eq_getElem?_getD, List.getElem?_append_left h]
theorem gSS_len {As : List SS} {s : SS} : gSS (As ++ [s]) As.length = s := by
  simp [gSS, List.getD_eq_getElem?_getD]
theorem gSS_drop {As : List SS} {k : Nat} : gSS (As.drop 1) k = gSS As (k + 1) := by
  simp [gSS, List.getD_eq_getElem?_getD, List.getElem?_drop, Nat.add_comm]
/-- a Songs' numbers are those of s -/
def isSS (s : SS) (n q : Nat) (y b : Int32) (f : Nat → Int32) : Prop := n = s.1.length ∧ q = s.2.1 ∧ y = s.2.2.1 ∧ b = s.2.2.2 ∧ hs f s.1
def actR (As : List SS) (pm nn pl : Nat → Nat) (yy bb : Nat → Int32) (ff : Nat → Nat → Int32) : Prop := As.length ≤ 12 ∧ (∀ k, k < 12 → pm k < 12) ∧ (∀ i j, i < 12 → j < 12 → pm i = pm j → i = j) ∧ ∀ k, k < As.length → isSS (gSS As k) (nn (pm k)) (pl (pm k)) (yy (pm k)) (bb (pm k)) (ff (pm k))
def rowR (rf : Nat → Option Nat) (ra pm : Nat → Nat) : Prop := ∀ k, k < 12 → rf k = some (ra (pm k))
def rotP (pm : Nat → Nat) (k : Nat) : Nat := if k = 11 then pm 0 else pm (k + 1)
def dropF (As : List SS) : List SS := if As.length = 12 then As.drop 1 else As
def remL (As : List SS) (s : SS) : List SS := dropF As ++ [s]
theorem actR_rot {As : List SS} {pm nn pl : Nat → Nat} {yy bb : Nat → Int32} {ff : Nat → Nat → Int32} (h : actR As pm nn pl yy bb ff) (h12 : As.length = 12) : actR (dropF As) (rotP pm) nn pl yy bb ff := by
  obtain ⟨h1, h2, h3, h4⟩ := h
  rw [dropF, if_pos h12]
  refine ⟨by simp only [List.length_drop]; omega, fun k hk => ?_, fun i j hi hj e => ?_, fun k hk => ?_⟩
  · rw [rotP]; split
    · exact h2 0 (by omega)
    · exact h2 _ (by omega)
  · rw [rotP, rotP] at e
    split at e <;> split at e
    · omega
    · have := h3 _ _ (by omega) (by omega) e; omega
    · have := h3 _ _ (by omega) (by omega) e; omega
    · have := h3 _ _ (by omega) (by omega) e; omega
  · simp only [List.length_drop] at hk
    rw [rotP, if_neg (by omega), gSS_drop]
    exact h4 _ (by omega)
theorem actR_push {As : List SS} {pm nn pl : Nat → Nat} {yy bb : Nat → Int32} {ff : Nat → Nat → Int32} {s : SS} {g : Nat → Int32} (h : actR As pm nn pl yy bb ff) (hl : As.length < 12) (hg : hs g s.1) : actR (As ++ [s]) pm (va_up nn (pm As.length) s.1.length) (va_up pl (pm As.length) s.2.1) (va_up yy (pm As.length) s.2.2.1) (va_up bb (pm As.length) s.2.2.2) (va_up ff (pm As.length) g) := by
  obtain ⟨h1, h2, h3, h4⟩ := h
  refine ⟨by simp only [List.length_append, List.length_singleton]; omega, h2, h3, fun k hk => ?_⟩
  simp only [List.length_append, List.length_singleton] at hk
  rcases Nat.lt_or_ge k As.length with c | c
  · have hne : pm k ≠ pm As.length := fun e => by have := h3 _ _ (by omega) (by omega) e; omega
    rw [gSS_lt c]
    simp only [va_up, if_neg hne]
    exact h4 k c
  · obtain rfl : k = As.length := by omega
    rw [gSS_len]
    simp only [va_up, if_true]
    exact ⟨rfl, rfl, rfl, rfl, hg⟩
theorem actR_pop {As : List SS} {pm nn pl : Nat → Nat} {yy bb : Nat → Int32} {ff : Nat → Nat → Int32} (h : actR As pm nn pl yy bb ff) : actR (As.take (As.length - 1)) pm nn pl yy bb ff := by
  obtain ⟨h1, h2, h3, h4⟩ := h
  refine ⟨by simp only [List.length_take]; omega, h2, h3, fun k hk => ?_⟩
  simp only [List.length_take] at hk
  have e : gSS (As.take (As.length - 1)) k = gSS As k := by
    simp only [gSS, List.getD_eq_getElem?_getD]
    rw [List.getElem?_take_of_lt (by omega)]
  rw [e]
  exact h4 k (by omega)
theorem nd4a (p : Nat) : va_nd [4 + 2 * p, 5 + 2 * p, 2, 3] = true := by simp [va_nd]; omega
theorem nd4b (p : Nat) : va_nd [2, 3, 4 + 2 * p, 5 + 2 * p] = true := by simp [va_nd]; omega
theorem pool_hCa {cI : ClassId} {ra ca nn pl : Nat → Nat} {yy bb : Nat → Int32} {ff : Nat → Nat → Int32} {x0 x1 x2 x3 : Nat × va_E} {p : Nat} (hp : p < 12) : [4 + 2 * p, 5 + 2 * p, 2, 3].map (fun i => ([x0, x1, x2, x3] ++ poolW cI ra ca nn pl yy bb ff)[i]?) = [pobj ra ca nn pl yy bb p, parr cI ca ff p, x2, x3].map some := by
  simp only [List.map_cons, List.map_nil, (pool_at4 hp).1, (pool_at4 hp).2]
  rfl
theorem pool_hCb {cI : ClassId} {ra ca nn pl : Nat → Nat} {yy bb : Nat → Int32} {ff : Nat → Nat → Int32} {x0 x1 x2 x3 : Nat × va_E} {p : Nat} (hp : p < 12) : [2, 3, 4 + 2 * p, 5 + 2 * p].map (fun i => ([x0, x1, x2, x3] ++ poolW cI ra ca nn pl yy bb ff)[i]?) = [x2, x3, pobj ra ca nn pl yy bb p, parr cI ca ff p].map some := by
  simp only [List.map_cons, List.map_nil, (pool_at4 hp).1, (pool_at4 hp).2]
  rfl
theorem rowR_rot {rf g : Nat → Option Nat} {ra pm : Nat → Nat} (hr : rowR rf ra pm) (h : ∀ k, k + 1 < 12 → g k = rf (k + 1)) : rowR (va_up g 11 (some (ra (pm 0)))) ra (rotP pm) := by
  intro k hk
  by_cases c : k = 11
  · subst c; simp [va_up, rotP]
  · simp only [va_up, if_neg c, rotP]
    rw [h k (by omega), hr _ (by omega)]
set_option maxRecDepth 100000 in
theorem pool_hC2_4 {cI : ClassId} {ra ca nn pl : Nat → Nat} {yy bb : Nat → Int32} {ff : Nat → Nat → Int32} {x0 x1 x2 x3 : Nat × va_E} : [0, 1, 4, 5, 6, 7, 8, 9, 10, 11, 12, 13, 14, 15, 16, 17, 18, 19, 20, 21, 22, 23, 24, 25, 26, 27].map (fun i => ([x0, x1, x2, x3] ++ poolW cI ra ca nn pl yy bb ff)[i]?) = ([x0, x1] ++ poolW cI ra ca nn pl yy bb ff).map some := by
  simp only [poolW, List.map_cons, List.map_nil, List.cons_append, List.nil_append]
  rfl
theorem pool_ha2 {cI : ClassId} {ra ca nn pl : Nat → Nat} {yy bb : Nat → Int32} {ff : Nat → Nat → Int32} {x0 x1 y0 y1 : Nat × va_E} (h0 : y0.1 = x0.1 := by rfl) (h1 : y1.1 = x1.1 := by rfl) : ([y0, y1] ++ poolW cI ra ca nn pl yy bb ff).map (·.1) = ([x0, x1] ++ poolW cI ra ca nn pl yy bb ff).map (·.1) := by
  simp only [List.map_append, List.map_cons, List.map_nil, h0, h1]
set_option maxRecDepth 100000 in
theorem pool_hw2_4 {cI : ClassId} {ra ca nn pl : Nat → Nat} {yy bb : Nat → Int32} {ff : Nat → Nat → Int32} {x0 x1 x2 x3 y0 y1 : Nat × va_E} : setL ([x0, x1, x2, x3] ++ poolW cI ra ca nn pl yy bb ff) [0, 1, 4, 5, 6, 7, 8, 9, 10, 11, 12, 13, 14, 15, 16, 17, 18, 19, 20, 21, 22, 23, 24, 25, 26, 27] ([y0, y1] ++ poolW cI ra ca nn pl yy bb ff) = [y0, y1, x2, x3] ++ poolW cI ra ca nn pl yy bb ff := by
  simp only [poolW, List.cons_append, List.nil_append, setL, List.set_cons_zero, List.set_cons_succ]
