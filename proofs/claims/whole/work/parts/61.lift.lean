/-! CONTRACTS OVER A WHOLE SIDE: what comes back has the same addresses -/
def LW (ws : va_W) : Type := {u : va_W // u.map (·.1) = ws.map (·.1)}
theorem setL_map {is : List Nat} {qs wc ws : va_W} (hC : is.map (fun i => ws[i]?) = wc.map some) (ha : qs.map (·.1) = wc.map (·.1)) (hn : va_nd is = true) : (setL ws is qs).map (·.1) = ws.map (·.1) := by
  apply List.ext_getElem?
  intro k
  rw [List.getElem?_map, List.getElem?_map]
  cases h : (setL ws is qs)[k]? with
  | none =>
    have h2 : ws[k]? = none := by
      rw [List.getElem?_eq_none_iff] at h ⊢
      rw [setL_len] at h
      exact h
    rw [h2]
  | some q =>
    obtain ⟨q', h1, h2⟩ := setL_adr is qs wc ws k q hC ha hn h
    rw [h1]
    show some q.1 = some q'.1
    rw [h2]
theorem CO.lift {l : Launch} {D : va_G} {tys : List (ClassId × FieldType)} {y : MethodName} {bytes : ByteArray} {maxL : Nat} {ret : Option FieldType} {fr lo : Nat} {av : List Value} {wc ws : va_W} {σ : Type} {rv : σ → Option Value} {cs : σ → va_W} {po : σ → Prop}
    (h : CO l D tys y bytes maxL ret fr lo 0 0 av wc rv cs po) (isC : List Nat) (hn : va_nd isC = true) (hC : isC.map (fun i => ws[i]?) = wc.map some) (ha : ∀ u, (cs u).map (·.1) = wc.map (·.1)) {R : Option Value} {P : va_W → Prop} (hp : ∀ u, po u → rv u = R ∧ P (setL ws isC (cs u))) :
    CO l D tys y bytes maxL ret fr lo 0 0 av ws (σ := LW ws) (fun _ => R) (fun u => u.1) (fun u => P u.1) := by
  refine CO.post (h.frame isC hn hC ha) (fun u hu => ⟨⟨setL ws isC (cs u), setL_map hC (ha u) hn⟩, ?_, rfl, ?_⟩)
  · exact (hp u hu).1.symm
  · exact (hp u hu).2
/-! two sides in one world -/
theorem law_hC1 {wc wm : va_W} {n : Nat} (h : wc.length = n) : (List.range n).map (fun i => (wc ++ wm)[i]?) = wc.map some := by
  apply List.ext_getElem?
  intro k
  rw [List.getElem?_map, List.getElem?_map]
  by_cases c : k < n
  · rw [List.getElem?_range c, List.getElem?_eq_getElem (show k < wc.length by omega)]
    show some ((wc ++ wm)[k]?) = some (some wc[k])
    rw [List.getElem?_append_left (by omega), List.getElem?_eq_getElem (show k < wc.length by omega)]
  · rw [List.getElem?_eq_none_iff.mpr (show (List.range n).length ≤ k by rw [List.length_range]; omega), List.getElem?_eq_none_iff.mpr (show wc.length ≤ k by omega)]
    rfl
theorem law_hC2 {wc wm : va_W} {n m : Nat} (h : wc.length = n) (h2 : wm.length = m) : (List.range' n m).map (fun i => (wc ++ wm)[i]?) = wm.map some := by
  apply List.ext_getElem?
  intro k
  rw [List.getElem?_map, List.getElem?_map]
  by_cases c : k < m
  · rw [List.getElem?_range' c, List.getElem?_eq_getElem (show k < wm.length by omega)]
    show some ((wc ++ wm)[n + 1 * k]?) = some (some wm[k])
    rw [List.getElem?_append_right (by omega), show n + 1 * k - wc.length = k by omega, List.getElem?_eq_getElem (show k < wm.length by omega)]
  · rw [List.getElem?_eq_none_iff.mpr (show (List.range' n m).length ≤ k by rw [List.length_range']; omega), List.getElem?_eq_none_iff.mpr (show wm.length ≤ k by omega)]
    rfl
theorem setL_at : ∀ (m a : Nat) (pre ws qs suf : va_W), pre.length = a → ws.length = m → qs.length = m → setL (pre ++ (ws ++ suf)) (List.range' a m) qs = pre ++ (qs ++ suf)
  | 0, a, pre, ws, qs, suf, ha, h1, h2 => by
    rw [List.length_eq_zero_iff.mp h1, List.length_eq_zero_iff.mp h2]
    rfl
  | m + 1, a, pre, [], qs, suf, ha, h1, h2 => by simp at h1
  | m + 1, a, pre, w :: ws, [], suf, ha, h1, h2 => by simp at h2
  | m + 1, a, pre, w :: ws, q :: qs, suf, ha, h1, h2 => by
    rw [List.range'_succ, setL]
    have e : (pre ++ (w :: ws ++ suf)).set a q = (pre ++ [q]) ++ (ws ++ suf) := by
      rw [List.set_append_right _ _ (by omega), show a - pre.length = 0 by omega]
      simp
    rw [e, setL_at m (a + 1) (pre ++ [q]) ws qs suf (by simp; omega) (by simpa using h1) (by simpa using h2)]
    simp
theorem law_hw1 {wc wm c : va_W} {n : Nat} (h : wc.length = n) (h2 : c.length = n) : setL (wc ++ wm) (List.range n) c = c ++ wm := by
  rw [List.range_eq_range']
  exact setL_at n 0 [] wc c wm rfl h h2
theorem law_hw2 {wc wm c : va_W} {n m : Nat} (h : wc.length = n) (h1 : wm.length = m) (h2 : c.length = m) : setL (wc ++ wm) (List.range' n m) c = wc ++ c := by
  have e := setL_at m n wc wm c [] h h1 h2
  rw [List.append_nil, List.append_nil] at e
  exact e
theorem LW_len {ws : va_W} (u : LW ws) : u.1.length = ws.length := by
  have e := congrArg List.length u.2
  rw [List.length_map, List.length_map] at e
  exact e
