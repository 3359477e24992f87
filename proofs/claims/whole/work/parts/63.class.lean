set_option maxRecDepth 100000 in
theorem pl_0_3_5_6_7_8_9_n20_hC {cI : ClassId} {ra ca nn pl : Nat → Nat} {yy bb : Nat → Int32} {ff : Nat → Nat → Int32} {x0 x1 x2 x3 x4 x5 x6 x7 x8 x9 x10 x11 x12 x13 x14 x15 x16 x17 x18 x19 : Nat × va_E} : [0, 3, 5, 6, 7, 8, 9, 20, 21, 22, 23, 24, 25, 26, 27, 28, 29, 30, 31, 32, 33, 34, 35, 36, 37, 38, 39, 40, 41, 42, 43].map (fun i => ([x0, x1, x2, x3, x4, x5, x6, x7, x8, x9, x10, x11, x12, x13, x14, x15, x16, x17, x18, x19] ++ poolW cI ra ca nn pl yy bb ff)[i]?) = ([x0, x3, x5, x6, x7, x8, x9] ++ poolW cI ra ca nn pl yy bb ff).map some := by
  simp only [poolW, List.map_cons, List.map_nil, List.cons_append, List.nil_append]
  rfl
theorem pl_0_3_5_6_7_8_9_n20_ha {cI : ClassId} {ra ca nn pl : Nat → Nat} {yy bb : Nat → Int32} {ff : Nat → Nat → Int32} {n2 p2 : Nat → Nat} {y2 b2 : Nat → Int32} {f2 : Nat → Nat → Int32} {x0 x3 x5 x6 x7 x8 x9 e0 e1 e2 e3 e4 e5 e6 : Nat × va_E} (h : [e0, e1, e2, e3, e4, e5, e6].map (·.1) = [x0, x3, x5, x6, x7, x8, x9].map (·.1)) : ([e0, e1, e2, e3, e4, e5, e6] ++ poolW cI ra ca n2 p2 y2 b2 f2).map (·.1) = ([x0, x3, x5, x6, x7, x8, x9] ++ poolW cI ra ca nn pl yy bb ff).map (·.1) := by
  rw [List.map_append, List.map_append, h]
  rfl
set_option maxRecDepth 100000 in
theorem pl_0_3_5_6_7_8_9_n20_hw {cI : ClassId} {ra ca nn pl : Nat → Nat} {yy bb : Nat → Int32} {ff : Nat → Nat → Int32} {n2 p2 : Nat → Nat} {y2 b2 : Nat → Int32} {f2 : Nat → Nat → Int32} {x0 x1 x2 x3 x4 x5 x6 x7 x8 x9 x10 x11 x12 x13 x14 x15 x16 x17 x18 x19 e0 e1 e2 e3 e4 e5 e6 : Nat × va_E} : setL ([x0, x1, x2, x3, x4, x5, x6, x7, x8, x9, x10, x11, x12, x13, x14, x15, x16, x17, x18, x19] ++ poolW cI ra ca nn pl yy bb ff) [0, 3, 5, 6, 7, 8, 9, 20, 21, 22, 23, 24, 25, 26, 27, 28, 29, 30, 31, 32, 33, 34, 35, 36, 37, 38, 39, 40, 41, 42, 43] ([e0, e1, e2, e3, e4, e5, e6] ++ poolW cI ra ca n2 p2 y2 b2 f2) = [e0, x1, x2, e1, x4, e2, e3, e4, e5, e6, x10, x11, x12, x13, x14, x15, x16, x17, x18, x19] ++ poolW cI ra ca n2 p2 y2 b2 f2 := by
  simp only [poolW, List.cons_append, List.nil_append, setL, List.set_cons_zero, List.set_cons_succ]
set_option maxRecDepth 100000 in
theorem pl_0_3_6_7_8_9_n20_hC {cI : ClassId} {ra ca nn pl : Nat → Nat} {yy bb : Nat → Int32} {ff : Nat → Nat → Int32} {x0 x1 x2 x3 x4 x5 x6 x7 x8 x9 x10 x11 x12 x13 x14 x15 x16 x17 x18 x19 : Nat × va_E} : [0, 3, 6, 7, 8, 9, 20, 21, 22, 23, 24, 25, 26, 27, 28, 29, 30, 31, 32, 33, 34, 35, 36, 37, 38, 39, 40, 41, 42, 43].map (fun i => ([x0, x1, x2, x3, x4, x5, x6, x7, x8, x9, x10, x11, x12, x13, x14, x15, x16, x17, x18, x19] ++ poolW cI ra ca nn pl yy bb ff)[i]?) = ([x0, x3, x6, x7, x8, x9] ++ poolW cI ra ca nn pl yy bb ff).map some := by
  simp only [poolW, List.map_cons, List.map_nil, List.cons_append, List.nil_append]
  rfl
theorem pl_0_3_6_7_8_9_n20_ha {cI : ClassId} {ra ca nn pl : Nat → Nat} {yy bb : Nat → Int32} {ff : Nat → Nat → Int32} {n2 p2 : Nat → Nat} {y2 b2 : Nat → Int32} {f2 : Nat → Nat → Int32} {x0 x3 x6 x7 x8 x9 e0 e1 e2 e3 e4 e5 : Nat × va_E} (h : [e0, e1, e2, e3, e4, e5].map (·.1) = [x0, x3, x6, x7, x8, x9].map (·.1)) : ([e0, e1, e2, e3, e4, e5] ++ poolW cI ra ca n2 p2 y2 b2 f2).map (·.1) = ([x0, x3, x6, x7, x8, x9] ++ poolW cI ra ca nn pl yy bb ff).map (·.1) := by
  rw [List.map_append, List.map_append, h]
  rfl
set_option maxRecDepth 100000 in
theorem pl_0_3_6_7_8_9_n20_hw {cI : ClassId} {ra ca nn pl : Nat → Nat} {yy bb : Nat → Int32} {ff : Nat → Nat → Int32} {n2 p2 : Nat → Nat} {y2 b2 : Nat → Int32} {f2 : Nat → Nat → Int32} {x0 x1 x2 x3 x4 x5 x6 x7 x8 x9 x10 x11 x12 x13 x14 x15 x16 x17 x18 x19 e0 e1 e2 e3 e4 e5 : Nat × va_E} : setL ([x0, x1, x2, x3, x4, x5, x6, x7, x8, x9, x10, x11, x12, x13, x14, x15, x16, x17, x18, x19] ++ poolW cI ra ca nn pl yy bb ff) [0, 3, 6, 7, 8, 9, 20, 21, 22, 23, 24, 25, 26, 27, 28, 29, 30, 31, 32, 33, 34, 35, 36, 37, 38, 39, 40, 41, 42, 43] ([e0, e1, e2, e3, e4, e5] ++ poolW cI ra ca n2 p2 y2 b2 f2) = [e0, x1, x2, e1, x4, x5, e2, e3, e4, e5, x10, x11, x12, x13, x14, x15, x16, x17, x18, x19] ++ poolW cI ra ca n2 p2 y2 b2 f2 := by
  simp only [poolW, List.cons_append, List.nil_append, setL, List.set_cons_zero, List.set_cons_succ]
set_option maxRecDepth 100000 in
theorem pl_0_6_7_8_9_n20_hC {cI : ClassId} {ra ca nn pl : Nat → Nat} {yy bb : Nat → Int32} {ff : Nat → Nat → Int32} {x0 x1 x2 x3 x4 x5 x6 x7 x8 x9 x10 x11 x12 x13 x14 x15 x16 x17 x18 x19 : Nat × va_E} : [0, 6, 7, 8, 9, 20, 21, 22, 23, 24, 25, 26, 27, 28, 29, 30, 31, 32, 33, 34, 35, 36, 37, 38, 39, 40, 41, 42, 43].map (fun i => ([x0, x1, x2, x3, x4, x5, x6, x7, x8, x9, x10, x11, x12, x13, x14, x15, x16, x17, x18, x19] ++ poolW cI ra ca nn pl yy bb ff)[i]?) = ([x0, x6, x7, x8, x9] ++ poolW cI ra ca nn pl yy bb ff).map some := by
  simp only [poolW, List.map_cons, List.map_nil, List.cons_append, List.nil_append]
  rfl
theorem pl_0_6_7_8_9_n20_ha {cI : ClassId} {ra ca nn pl : Nat → Nat} {yy bb : Nat → Int32} {ff : Nat → Nat → Int32} {n2 p2 : Nat → Nat} {y2 b2 : Nat → Int32} {f2 : Nat → Nat → Int32} {x0 x6 x7 x8 x9 e0 e1 e2 e3 e4 : Nat × va_E} (h : [e0, e1, e2, e3, e4].map (·.1) = [x0, x6, x7, x8, x9].map (·.1)) : ([e0, e1, e2, e3, e4] ++ poolW cI ra ca n2 p2 y2 b2 f2).map (·.1) = ([x0, x6, x7, x8, x9] ++ poolW cI ra ca nn pl yy bb ff).map (·.1) := by
  rw [List.map_append, List.map_append, h]
  rfl
set_option maxRecDepth 100000 in
theorem pl_0_6_7_8_9_n20_hw {cI : ClassId} {ra ca nn pl : Nat → Nat} {yy bb : Nat → Int32} {ff : Nat → Nat → Int32} {n2 p2 : Nat → Nat} {y2 b2 : Nat → Int32} {f2 : Nat → Nat → Int32} {x0 x1 x2 x3 x4 x5 x6 x7 x8 x9 x10 x11 x12 x13 x14 x15 x16 x17 x18 x19 e0 e1 e2 e3 e4 : Nat × va_E} : setL ([x0, x1, x2, x3, x4, x5, x6, x7, x8, x9, x10, x11, x12, x13, x14, x15, x16, x17, x18, x19] ++ poolW cI ra ca nn pl yy bb ff) [0, 6, 7, 8, 9, 20, 21, 22, 23, 24, 25, 26, 27, 28, 29, 30, 31, 32, 33, 34, 35, 36, 37, 38, 39, 40, 41, 42, 43] ([e0, e1, e2, e3, e4] ++ poolW cI ra ca n2 p2 y2 b2 f2) = [e0, x1, x2, x3, x4, x5, e1, e2, e3, e4, x10, x11, x12, x13, x14, x15, x16, x17, x18, x19] ++ poolW cI ra ca n2 p2 y2 b2 f2 := by
  simp only [poolW, List.cons_append, List.nil_append, setL, List.set_cons_zero, List.set_cons_succ]
set_option maxHeartbeats 4000000 in
set_option maxRecDepth 100000 in
theorem P_write0 (l : Launch) (D : va_G) (cI cZ cS : ClassId) {x : Nat} {T : List Nat} {Ws : List (Nat × Nat)} {ll : Nat} {L : List Sg} {li : Nat} {ye : Int32} {br : Int32} {As : List SS} {sk : Nat} {s0 : SS} {s1 : SS} {sd : Int64} {n : Nat} {ws : va_W} {z : Int32} (h : CW cI cS x T Ws ll L li ye br As sk s0 s1 sd ws) (hk : OKS n T Ws L li As sk s0 s1) (hn : n ≤ 600) (hz : ¬ inB z (nI 0) (nI 255) = true) : CO l D (TY cI cZ cS) yX4_write cX4_write 2 (some .int) 0 0 0 0 [.ref x, .int z] ws (σ := LW ws) (fun _ => some (.int (wrC T z))) (fun u => u.1) (fun u => CW cI cS x T Ws ll L li ye br As sk s0 s1 sd u.1) := by
  obtain ⟨ax, aw, an, aa, a0, a1, ar, aq, al, am, ta, wd, wt, nc, rw, c0, c1, rc, qc, jtx, jdp, jst, jnw, j0, j1, jtr, jla, jwf, jhf, rf, n0, l0, n1, l1, rn, rl, qn, ql, y0, b0, y1, b1, ry, rb, qy, qb, ra, ca, nn, pl, pm, yy, bb, ff, h⟩ := h
  obtain ⟨rfl, hT, hDw, hTw, hf, hr, hact, hz0, hz1⟩ := h
  obtain ⟨hO, hWW, hv, hli, hA12, hAs, hsk, hs0, hs1⟩ := hk
  have hW := hWW.1
  have hst2 : ∀ w, w < Ws.length → stF Ws w ≤ 2 := fun w q => (hWW.2 w q).2.2
  have hdp2 : ∀ w, w < Ws.length → 1 ≤ dpF Ws w ∧ dpF Ws w ≤ 9 := fun w q => ⟨(hWW.2 w q).1, (hWW.2 w q).2.1⟩
  have hp16 : 2 ^ Ws.length ≤ 16 := (Nat.pow_le_pow_right (by omega) hW : 2 ^ Ws.length ≤ 2 ^ 4)
  have hl16 : li < 16 := by omega
  have hl : li < 256 := by omega
  have h8 := hv.1
  refine CO.lift (p_write0 l D cI cZ cS x ax aw an aa a0 a1 sk ll ar aq al am sd ta T jtx z (hT) (hO) (hz)) [0, 1, 2] (by decide) rfl (fun _ => rfl) (fun u hu => ?_)
  exact ⟨rfl, ax, aw, an, aa, a0, a1, ar, aq, al, am, ta, wd, wt, nc, rw, c0, c1, rc, qc, jtx, jdp, jst, jnw, j0, j1, jtr, jla, jwf, jhf, rf, n0, l0, n1, l1, rn, rl, qn, ql, y0, b0, y1, b1, ry, rb, qy, qb, ra, ca, nn, pl, pm, yy, bb, ff, ⟨(by simp only [setL, List.cons_append, List.nil_append, List.set_cons_zero, List.set_cons_succ] <;> rfl), (hT), (hDw), (hTw), (hf), (hr), (hact), (hz0), (hz1)⟩⟩
set_option maxHeartbeats 4000000 in
set_option maxRecDepth 100000 in
theorem P_write1 (l : Launch) (D : va_G) (cI cZ cS : ClassId) {x : Nat} {T : List Nat} {Ws : List (Nat × Nat)} {ll : Nat} {L : List Sg} {li : Nat} {ye : Int32} {br : Int32} {As : List SS} {sk : Nat} {s0 : SS} {s1 : SS} {sd : Int64} {n : Nat} {ws : va_W} {j : Nat} (h : CW cI cS x T Ws ll L li ye br As sk s0 s1 sd ws) (hk : OKS n T Ws L li As sk s0 s1) (hn : n ≤ 600) (hj : j ≤ 255) : CO l D (TY cI cZ cS) yX4_write cX4_write 2 (some .int) 1 21 0 0 [.ref x, .int (nI j)] ws (σ := LW ws) (fun _ => some (.int (wrC T (nI j)))) (fun u => u.1) (fun u => CW cI cS x (appT T j) Ws ll L li ye br As sk s0 s1 sd u.1) := by
  obtain ⟨ax, aw, an, aa, a0, a1, ar, aq, al, am, ta, wd, wt, nc, rw, c0, c1, rc, qc, jtx, jdp, jst, jnw, j0, j1, jtr, jla, jwf, jhf, rf, n0, l0, n1, l1, rn, rl, qn, ql, y0, b0, y1, b1, ry, rb, qy, qb, ra, ca, nn, pl, pm, yy, bb, ff, h⟩ := h
  obtain ⟨rfl, hT, hDw, hTw, hf, hr, hact, hz0, hz1⟩ := h
  obtain ⟨hO, hWW, hv, hli, hA12, hAs, hsk, hs0, hs1⟩ := hk
  have hW := hWW.1
  have hst2 : ∀ w, w < Ws.length → stF Ws w ≤ 2 := fun w q => (hWW.2 w q).2.2
  have hdp2 : ∀ w, w < Ws.length → 1 ≤ dpF Ws w ∧ dpF Ws w ≤ 9 := fun w q => ⟨(hWW.2 w q).1, (hWW.2 w q).2.1⟩
  have hp16 : 2 ^ Ws.length ≤ 16 := (Nat.pow_le_pow_right (by omega) hW : 2 ^ Ws.length ≤ 2 ^ 4)
  have hl16 : li < 16 := by omega
  have hl : li < 256 := by omega
  have h8 := hv.1
  refine CO.lift (p_write1 l D cI cZ cS x ax aw an aa a0 a1 sk ll ar aq al am sd ta T jtx j (hT) (hO) (by first | assumption | omega)) [0, 1, 2] (by decide) rfl (fun _ => rfl) (fun g hu => ?_)
  have hg := hu
  exact ⟨rfl, ax, aw, an, aa, a0, a1, ar, aq, al, am, ta, wd, wt, nc, rw, c0, c1, rc, qc, g, jdp, jst, jnw, j0, j1, jtr, jla, jwf, jhf, rf, n0, l0, n1, l1, rn, rl, qn, ql, y0, b0, y1, b1, ry, rb, qy, qb, ra, ca, nn, pl, pm, yy, bb, ff, ⟨(by simp only [setL, List.cons_append, List.nil_append, List.set_cons_zero, List.set_cons_succ] <;> rfl), (hg), (hDw), (hTw), (hf), (hr), (hact), (hz0), (hz1)⟩⟩
set_option maxHeartbeats 4000000 in
set_option maxRecDepth 100000 in
theorem P_wipe (l : Launch) (D : va_G) (cI cZ cS : ClassId) {x : Nat} {T : List Nat} {Ws : List (Nat × Nat)} {ll : Nat} {L : List Sg} {li : Nat} {ye : Int32} {br : Int32} {As : List SS} {sk : Nat} {s0 : SS} {s1 : SS} {sd : Int64} {n : Nat} {ws : va_W}  (h : CW cI cS x T Ws ll L li ye br As sk s0 s1 sd ws) (hk : OKS n T Ws L li As sk s0 s1) (hn : n ≤ 600)  : CO l D (TY cI cZ cS) yX4_wipe cX4_wipe 2 (some .int) 0 0 0 0 [.ref x] ws (σ := LW ws) (fun _ => some (.int (nI T.length))) (fun u => u.1) (fun u => CW cI cS x ([]) Ws ll L li ye br As sk s0 s1 sd u.1) := by
  obtain ⟨ax, aw, an, aa, a0, a1, ar, aq, al, am, ta, wd, wt, nc, rw, c0, c1, rc, qc, jtx, jdp, jst, jnw, j0, j1, jtr, jla, jwf, jhf, rf, n0, l0, n1, l1, rn, rl, qn, ql, y0, b0, y1, b1, ry, rb, qy, qb, ra, ca, nn, pl, pm, yy, bb, ff, h⟩ := h
  obtain ⟨rfl, hT, hDw, hTw, hf, hr, hact, hz0, hz1⟩ := h
  obtain ⟨hO, hWW, hv, hli, hA12, hAs, hsk, hs0, hs1⟩ := hk
  have hW := hWW.1
  have hst2 : ∀ w, w < Ws.length → stF Ws w ≤ 2 := fun w q => (hWW.2 w q).2.2
  have hdp2 : ∀ w, w < Ws.length → 1 ≤ dpF Ws w ∧ dpF Ws w ≤ 9 := fun w q => ⟨(hWW.2 w q).1, (hWW.2 w q).2.1⟩
  have hp16 : 2 ^ Ws.length ≤ 16 := (Nat.pow_le_pow_right (by omega) hW : 2 ^ Ws.length ≤ 2 ^ 4)
  have hl16 : li < 16 := by omega
  have hl : li < 256 := by omega
  have h8 := hv.1
  refine CO.lift (p_wipe l D cI cZ cS x ax aw an aa a0 a1 sk ll ar aq al am sd ta T jtx ) [0, 1, 2] (by decide) rfl (fun _ => rfl) (fun u hu => ?_)
  exact ⟨rfl, ax, aw, an, aa, a0, a1, ar, aq, al, am, ta, wd, wt, nc, rw, c0, c1, rc, qc, jtx, jdp, jst, jnw, j0, j1, jtr, jla, jwf, jhf, rf, n0, l0, n1, l1, rn, rl, qn, ql, y0, b0, y1, b1, ry, rb, qy, qb, ra, ca, nn, pl, pm, yy, bb, ff, ⟨(by simp only [setL, List.cons_append, List.nil_append, List.set_cons_zero, List.set_cons_succ] <;> rfl), (fun j hj => absurd hj (Nat.not_lt_zero j)), (hDw), (hTw), (hf), (hr), (hact), (hz0), (hz1)⟩⟩
set_option maxHeartbeats 4000000 in
set_option maxRecDepth 100000 in
theorem P_fault (l : Launch) (D : va_G) (cI cZ cS : ClassId) {x : Nat} {T : List Nat} {Ws : List (Nat × Nat)} {ll : Nat} {L : List Sg} {li : Nat} {ye : Int32} {br : Int32} {As : List SS} {sk : Nat} {s0 : SS} {s1 : SS} {sd : Int64} {n : Nat} {ws : va_W}  (h : CW cI cS x T Ws ll L li ye br As sk s0 s1 sd ws) (hk : OKS n T Ws L li As sk s0 s1) (hn : n ≤ 600)  : CO l D (TY cI cZ cS) yX4_fault cX4_fault 1 (some .int) 3 71 0 0 [.ref x] ws (σ := LW ws) (fun _ => some (.int ((landP T).1))) (fun u => u.1) (fun u => CW cI cS x T Ws ll L li ye br As sk s0 s1 sd u.1) := by
  obtain ⟨ax, aw, an, aa, a0, a1, ar, aq, al, am, ta, wd, wt, nc, rw, c0, c1, rc, qc, jtx, jdp, jst, jnw, j0, j1, jtr, jla, jwf, jhf, rf, n0, l0, n1, l1, rn, rl, qn, ql, y0, b0, y1, b1, ry, rb, qy, qb, ra, ca, nn, pl, pm, yy, bb, ff, h⟩ := h
  obtain ⟨rfl, hT, hDw, hTw, hf, hr, hact, hz0, hz1⟩ := h
  obtain ⟨hO, hWW, hv, hli, hA12, hAs, hsk, hs0, hs1⟩ := hk
  have hW := hWW.1
  have hst2 : ∀ w, w < Ws.length → stF Ws w ≤ 2 := fun w q => (hWW.2 w q).2.2
  have hdp2 : ∀ w, w < Ws.length → 1 ≤ dpF Ws w ∧ dpF Ws w ≤ 9 := fun w q => ⟨(hWW.2 w q).1, (hWW.2 w q).2.1⟩
  have hp16 : 2 ^ Ws.length ≤ 16 := (Nat.pow_le_pow_right (by omega) hW : 2 ^ Ws.length ≤ 2 ^ 4)
  have hl16 : li < 16 := by omega
  have hl : li < 256 := by omega
  have h8 := hv.1
  refine CO.lift (p_fault l D cI cZ cS x ax aw an aa a0 a1 sk ll ar aq al am sd ta T jtx (hT) (hO)) [0, 1, 2] (by decide) rfl (fun _ => rfl) (fun u hu => ?_)
  exact ⟨rfl, ax, aw, an, aa, a0, a1, ar, aq, al, am, ta, wd, wt, nc, rw, c0, c1, rc, qc, jtx, jdp, jst, jnw, j0, j1, jtr, jla, jwf, jhf, rf, n0, l0, n1, l1, rn, rl, qn, ql, y0, b0, y1, b1, ry, rb, qy, qb, ra, ca, nn, pl, pm, yy, bb, ff, ⟨(by simp only [setL, List.cons_append, List.nil_append, List.set_cons_zero, List.set_cons_succ] <;> rfl), (hT), (hDw), (hTw), (hf), (hr), (hact), (hz0), (hz1)⟩⟩
set_option maxHeartbeats 4000000 in
set_option maxRecDepth 100000 in
theorem P_land0 (l : Launch) (D : va_G) (cI cZ cS : ClassId) {x : Nat} {T : List Nat} {Ws : List (Nat × Nat)} {ll : Nat} {L : List Sg} {li : Nat} {ye : Int32} {br : Int32} {As : List SS} {sk : Nat} {s0 : SS} {s1 : SS} {sd : Int64} {n : Nat} {ws : va_W}  (h : CW cI cS x T Ws ll L li ye br As sk s0 s1 sd ws) (hk : OKS n T Ws L li As sk s0 s1) (hn : n ≤ 600) (h9 : ¬ (landP T).1 = -9) : CO l D (TY cI cZ cS) yX4_land cX4_land 2 (some .int) 3 71 0 0 [.ref x] ws (σ := LW ws) (fun _ => some (.int ((-3)))) (fun u => u.1) (fun u => CW cI cS x T Ws ll L li ye br As sk s0 s1 sd u.1) := by
  obtain ⟨ax, aw, an, aa, a0, a1, ar, aq, al, am, ta, wd, wt, nc, rw, c0, c1, rc, qc, jtx, jdp, jst, jnw, j0, j1, jtr, jla, jwf, jhf, rf, n0, l0, n1, l1, rn, rl, qn, ql, y0, b0, y1, b1, ry, rb, qy, qb, ra, ca, nn, pl, pm, yy, bb, ff, h⟩ := h
  obtain ⟨rfl, hT, hDw, hTw, hf, hr, hact, hz0, hz1⟩ := h
  obtain ⟨hO, hWW, hv, hli, hA12, hAs, hsk, hs0, hs1⟩ := hk
  have hW := hWW.1
  have hst2 : ∀ w, w < Ws.length → stF Ws w ≤ 2 := fun w q => (hWW.2 w q).2.2
  have hdp2 : ∀ w, w < Ws.length → 1 ≤ dpF Ws w ∧ dpF Ws w ≤ 9 := fun w q => ⟨(hWW.2 w q).1, (hWW.2 w q).2.1⟩
  have hp16 : 2 ^ Ws.length ≤ 16 := (Nat.pow_le_pow_right (by omega) hW : 2 ^ Ws.length ≤ 2 ^ 4)
  have hl16 : li < 16 := by omega
  have hl : li < 256 := by omega
  have h8 := hv.1
  refine CO.lift (p_land0 l D cI cZ cS x ax aw an aa a0 a1 sk ll ar aq al am sd ta T jtx (hT) (hO) (h9)) [0, 1, 2] (by decide) rfl (fun _ => rfl) (fun u hu => ?_)
  exact ⟨rfl, ax, aw, an, aa, a0, a1, ar, aq, al, am, ta, wd, wt, nc, rw, c0, c1, rc, qc, jtx, jdp, jst, jnw, j0, j1, jtr, jla, jwf, jhf, rf, n0, l0, n1, l1, rn, rl, qn, ql, y0, b0, y1, b1, ry, rb, qy, qb, ra, ca, nn, pl, pm, yy, bb, ff, ⟨(by simp only [setL, List.cons_append, List.nil_append, List.set_cons_zero, List.set_cons_succ] <;> rfl), (hT), (hDw), (hTw), (hf), (hr), (hact), (hz0), (hz1)⟩⟩
set_option maxHeartbeats 4000000 in
set_option maxRecDepth 100000 in
theorem P_land1 (l : Launch) (D : va_G) (cI cZ cS : ClassId) {x : Nat} {T : List Nat} {Ws : List (Nat × Nat)} {ll : Nat} {L : List Sg} {li : Nat} {ye : Int32} {br : Int32} {As : List SS} {sk : Nat} {s0 : SS} {s1 : SS} {sd : Int64} {n : Nat} {ws : va_W}  (h : CW cI cS x T Ws ll L li ye br As sk s0 s1 sd ws) (hk : OKS n T Ws L li As sk s0 s1) (hn : n ≤ 600) (h9 : (landP T).1 = -9) : CO l D (TY cI cZ cS) yX4_land cX4_land 2 (some .int) 3 72 0 0 [.ref x] ws (σ := LW ws) (fun _ => some (.int (nI (10 * (landP T).2.1.length + (landP T).2.2.length)))) (fun u => u.1) (fun u => CW cI cS x T ((landP T).2.1) (lawsN (landP T).2.2) ((landP T).2.2) 0 (nI 0) (nI 0) ([]) 0 s0 s1 sd u.1) := by
  obtain ⟨ax, aw, an, aa, a0, a1, ar, aq, al, am, ta, wd, wt, nc, rw, c0, c1, rc, qc, jtx, jdp, jst, jnw, j0, j1, jtr, jla, jwf, jhf, rf, n0, l0, n1, l1, rn, rl, qn, ql, y0, b0, y1, b1, ry, rb, qy, qb, ra, ca, nn, pl, pm, yy, bb, ff, h⟩ := h
  obtain ⟨rfl, hT, hDw, hTw, hf, hr, hact, hz0, hz1⟩ := h
  obtain ⟨hO, hWW, hv, hli, hA12, hAs, hsk, hs0, hs1⟩ := hk
  have hW := hWW.1
  have hst2 : ∀ w, w < Ws.length → stF Ws w ≤ 2 := fun w q => (hWW.2 w q).2.2
  have hdp2 : ∀ w, w < Ws.length → 1 ≤ dpF Ws w ∧ dpF Ws w ≤ 9 := fun w q => ⟨(hWW.2 w q).1, (hWW.2 w q).2.1⟩
  have hp16 : 2 ^ Ws.length ≤ 16 := (Nat.pow_le_pow_right (by omega) hW : 2 ^ Ws.length ≤ 2 ^ 4)
  have hl16 : li < 16 := by omega
  have hl : li < 256 := by omega
  have h8 := hv.1
  refine CO.lift (p_land1 l D cI cZ cS x ax aw an aa a0 a1 sk ll ar aq al am sd ta T jtx wd wt Ws.length jdp jst nc L li ye br jnw rw As.length (hT) (hO) (by first | assumption | omega) (by first | assumption | omega) (by first | assumption | omega)) [0, 1, 2, 3, 4, 5, 6, 7, 8] (by decide) rfl (fun _ => rfl) (fun u hu => ?_)
  obtain ⟨dg, tq, g⟩ := u
  obtain ⟨hD2, hT2, hg⟩ := hu
  exact ⟨rfl, ax, aw, an, aa, a0, a1, ar, aq, al, am, ta, wd, wt, nc, rw, c0, c1, rc, qc, jtx, dg, tq, g, j0, j1, jtr, jla, jwf, jhf, rf, n0, l0, n1, l1, rn, rl, qn, ql, y0, b0, y1, b1, ry, rb, qy, qb, ra, ca, nn, pl, pm, yy, bb, ff, ⟨(by simp only [setL, List.cons_append, List.nil_append, List.set_cons_zero, List.set_cons_succ] <;> rfl), (hT), (hD2), (hT2), (hg), (hr), (⟨Nat.zero_le _, hact.2.1, hact.2.2.1, fun k hk => absurd hk (Nat.not_lt_zero k)⟩), (fun q => absurd q (by decide)), (fun q => absurd q (by decide))⟩⟩
set_option maxHeartbeats 4000000 in
set_option maxRecDepth 100000 in
theorem P_about (l : Launch) (D : va_G) (cI cZ cS : ClassId) {x : Nat} {T : List Nat} {Ws : List (Nat × Nat)} {ll : Nat} {L : List Sg} {li : Nat} {ye : Int32} {br : Int32} {As : List SS} {sk : Nat} {s0 : SS} {s1 : SS} {sd : Int64} {n : Nat} {ws : va_W} {z : Int32} (h : CW cI cS x T Ws ll L li ye br As sk s0 s1 sd ws) (hk : OKS n T Ws L li As sk s0 s1) (hn : n ≤ 600)  : CO l D (TY cI cZ cS) yX4_about cX4_about 2 (some .int) 3 66 0 0 [.ref x, .int z] ws (σ := LW ws) (fun _ => some (.int (aboutI Ws.length L.length ye br li ll (lawsN L) As.length T.length z))) (fun u => u.1) (fun u => CW cI cS x T Ws ll L li ye br As sk s0 s1 sd u.1) := by
  obtain ⟨ax, aw, an, aa, a0, a1, ar, aq, al, am, ta, wd, wt, nc, rw, c0, c1, rc, qc, jtx, jdp, jst, jnw, j0, j1, jtr, jla, jwf, jhf, rf, n0, l0, n1, l1, rn, rl, qn, ql, y0, b0, y1, b1, ry, rb, qy, qb, ra, ca, nn, pl, pm, yy, bb, ff, h⟩ := h
  obtain ⟨rfl, hT, hDw, hTw, hf, hr, hact, hz0, hz1⟩ := h
  obtain ⟨hO, hWW, hv, hli, hA12, hAs, hsk, hs0, hs1⟩ := hk
  have hW := hWW.1
  have hst2 : ∀ w, w < Ws.length → stF Ws w ≤ 2 := fun w q => (hWW.2 w q).2.2
  have hdp2 : ∀ w, w < Ws.length → 1 ≤ dpF Ws w ∧ dpF Ws w ≤ 9 := fun w q => ⟨(hWW.2 w q).1, (hWW.2 w q).2.1⟩
  have hp16 : 2 ^ Ws.length ≤ 16 := (Nat.pow_le_pow_right (by omega) hW : 2 ^ Ws.length ≤ 2 ^ 4)
  have hl16 : li < 16 := by omega
  have hl : li < 256 := by omega
  have h8 := hv.1
  refine CO.lift (p_about l D cI cZ cS x ax aw an aa a0 a1 sk ll ar aq al am sd ta T.length wd wt Ws.length n nc L li ye br jnw rw As.length z (hf) (hv)) [0, 1, 3, 6, 7, 8] (by decide) rfl (fun _ => rfl) (fun u hu => ?_)
  exact ⟨rfl, ax, aw, an, aa, a0, a1, ar, aq, al, am, ta, wd, wt, nc, rw, c0, c1, rc, qc, jtx, jdp, jst, jnw, j0, j1, jtr, jla, jwf, jhf, rf, n0, l0, n1, l1, rn, rl, qn, ql, y0, b0, y1, b1, ry, rb, qy, qb, ra, ca, nn, pl, pm, yy, bb, ff, ⟨(by simp only [setL, List.cons_append, List.nil_append, List.set_cons_zero, List.set_cons_succ] <;> rfl), (hT), (hDw), (hTw), (hf), (hr), (hact), (hz0), (hz1)⟩⟩
set_option maxHeartbeats 4000000 in
set_option maxRecDepth 100000 in
theorem P_well (l : Launch) (D : va_G) (cI cZ cS : ClassId) {x : Nat} {T : List Nat} {Ws : List (Nat × Nat)} {ll : Nat} {L : List Sg} {li : Nat} {ye : Int32} {br : Int32} {As : List SS} {sk : Nat} {s0 : SS} {s1 : SS} {sd : Int64} {n : Nat} {ws : va_W} {z : Int32} {z2 : Int32} (h : CW cI cS x T Ws ll L li ye br As sk s0 s1 sd ws) (hk : OKS n T Ws L li As sk s0 s1) (hn : n ≤ 600)  : CO l D (TY cI cZ cS) yX4_well cX4_well 3 (some .int) 2 46 0 0 [.ref x, .int z, .int z2] ws (σ := LW ws) (fun _ => some (.int (wellI Ws.length (dpF Ws) (stF Ws) li L z z2))) (fun u => u.1) (fun u => CW cI cS x T Ws ll L li ye br As sk s0 s1 sd u.1) := by
  obtain ⟨ax, aw, an, aa, a0, a1, ar, aq, al, am, ta, wd, wt, nc, rw, c0, c1, rc, qc, jtx, jdp, jst, jnw, j0, j1, jtr, jla, jwf, jhf, rf, n0, l0, n1, l1, rn, rl, qn, ql, y0, b0, y1, b1, ry, rb, qy, qb, ra, ca, nn, pl, pm, yy, bb, ff, h⟩ := h
  obtain ⟨rfl, hT, hDw, hTw, hf, hr, hact, hz0, hz1⟩ := h
  obtain ⟨hO, hWW, hv, hli, hA12, hAs, hsk, hs0, hs1⟩ := hk
  have hW := hWW.1
  have hst2 : ∀ w, w < Ws.length → stF Ws w ≤ 2 := fun w q => (hWW.2 w q).2.2
  have hdp2 : ∀ w, w < Ws.length → 1 ≤ dpF Ws w ∧ dpF Ws w ≤ 9 := fun w q => ⟨(hWW.2 w q).1, (hWW.2 w q).2.1⟩
  have hp16 : 2 ^ Ws.length ≤ 16 := (Nat.pow_le_pow_right (by omega) hW : 2 ^ Ws.length ≤ 2 ^ 4)
  have hl16 : li < 16 := by omega
  have hl : li < 256 := by omega
  have h8 := hv.1
  refine CO.lift (p_well l D cI cZ cS x ax aw an aa a0 a1 sk ll ar aq al am sd wd wt Ws.length jdp jst (dpF Ws) (stF Ws) n nc L li ye br jnw z z2 (hf) (hv) (hW) (hDw) (hdp2) (hTw) (hst2) (hl)) [0, 3, 4, 5, 6, 7] (by decide) rfl (fun _ => rfl) (fun u hu => ?_)
  exact ⟨rfl, ax, aw, an, aa, a0, a1, ar, aq, al, am, ta, wd, wt, nc, rw, c0, c1, rc, qc, jtx, jdp, jst, jnw, j0, j1, jtr, jla, jwf, jhf, rf, n0, l0, n1, l1, rn, rl, qn, ql, y0, b0, y1, b1, ry, rb, qy, qb, ra, ca, nn, pl, pm, yy, bb, ff, ⟨(by simp only [setL, List.cons_append, List.nil_append, List.set_cons_zero, List.set_cons_succ] <;> rfl), (hT), (hDw), (hTw), (hf), (hr), (hact), (hz0), (hz1)⟩⟩
set_option maxHeartbeats 4000000 in
set_option maxRecDepth 100000 in
theorem P_song (l : Launch) (D : va_G) (cI cZ cS : ClassId) {x : Nat} {T : List Nat} {Ws : List (Nat × Nat)} {ll : Nat} {L : List Sg} {li : Nat} {ye : Int32} {br : Int32} {As : List SS} {sk : Nat} {s0 : SS} {s1 : SS} {sd : Int64} {n : Nat} {ws : va_W} {z : Int32} {z2 : Int32} (h : CW cI cS x T Ws ll L li ye br As sk s0 s1 sd ws) (hk : OKS n T Ws L li As sk s0 s1) (hn : n ≤ 600)  : CO l D (TY cI cZ cS) yX4_song cX4_song 3 (some .int) 1 23 0 0 [.ref x, .int z, .int z2] ws (σ := LW ws) (fun _ => some (.int (songI L z z2))) (fun u => u.1) (fun u => CW cI cS x T Ws ll L li ye br As sk s0 s1 sd u.1) := by
  obtain ⟨ax, aw, an, aa, a0, a1, ar, aq, al, am, ta, wd, wt, nc, rw, c0, c1, rc, qc, jtx, jdp, jst, jnw, j0, j1, jtr, jla, jwf, jhf, rf, n0, l0, n1, l1, rn, rl, qn, ql, y0, b0, y1, b1, ry, rb, qy, qb, ra, ca, nn, pl, pm, yy, bb, ff, h⟩ := h
  obtain ⟨rfl, hT, hDw, hTw, hf, hr, hact, hz0, hz1⟩ := h
  obtain ⟨hO, hWW, hv, hli, hA12, hAs, hsk, hs0, hs1⟩ := hk
  have hW := hWW.1
  have hst2 : ∀ w, w < Ws.length → stF Ws w ≤ 2 := fun w q => (hWW.2 w q).2.2
  have hdp2 : ∀ w, w < Ws.length → 1 ≤ dpF Ws w ∧ dpF Ws w ≤ 9 := fun w q => ⟨(hWW.2 w q).1, (hWW.2 w q).2.1⟩
  have hp16 : 2 ^ Ws.length ≤ 16 := (Nat.pow_le_pow_right (by omega) hW : 2 ^ Ws.length ≤ 2 ^ 4)
  have hl16 : li < 16 := by omega
  have hl : li < 256 := by omega
  have h8 := hv.1
  refine CO.lift (p_song l D cI cZ cS x ax aw an aa a0 a1 sk ll ar aq al am sd nc L li ye br jnw Ws.length n z z2 (hf) (hv)) [0, 6, 7] (by decide) rfl (fun _ => rfl) (fun u hu => ?_)
  exact ⟨rfl, ax, aw, an, aa, a0, a1, ar, aq, al, am, ta, wd, wt, nc, rw, c0, c1, rc, qc, jtx, jdp, jst, jnw, j0, j1, jtr, jla, jwf, jhf, rf, n0, l0, n1, l1, rn, rl, qn, ql, y0, b0, y1, b1, ry, rb, qy, qb, ra, ca, nn, pl, pm, yy, bb, ff, ⟨(by simp only [setL, List.cons_append, List.nil_append, List.set_cons_zero, List.set_cons_succ] <;> rfl), (hT), (hDw), (hTw), (hf), (hr), (hact), (hz0), (hz1)⟩⟩
set_option maxHeartbeats 4000000 in
set_option maxRecDepth 100000 in
theorem P_year (l : Launch) (D : va_G) (cI cZ cS : ClassId) {x : Nat} {T : List Nat} {Ws : List (Nat × Nat)} {ll : Nat} {L : List Sg} {li : Nat} {ye : Int32} {br : Int32} {As : List SS} {sk : Nat} {s0 : SS} {s1 : SS} {sd : Int64} {n : Nat} {ws : va_W}  (h : CW cI cS x T Ws ll L li ye br As sk s0 s1 sd ws) (hk : OKS n T Ws L li As sk s0 s1) (hn : n ≤ 600)  : CO l D (TY cI cZ cS) yX4_year cX4_year 1 (some .int) 4 93 0 0 [.ref x] ws (σ := LW ws) (fun _ => some (.int (nI (L.length - (yearL (stF Ws) li L).length)))) (fun u => u.1) (fun u => CW cI cS x T Ws ll (yearL (stF Ws) li L) li (ye + nI 1) br (remL As (L, li, ye, br)) sk s0 s1 sd u.1) := by
  obtain ⟨ax, aw, an, aa, a0, a1, ar, aq, al, am, ta, wd, wt, nc, rw, c0, c1, rc, qc, jtx, jdp, jst, jnw, j0, j1, jtr, jla, jwf, jhf, rf, n0, l0, n1, l1, rn, rl, qn, ql, y0, b0, y1, b1, ry, rb, qy, qb, ra, ca, nn, pl, pm, yy, bb, ff, h⟩ := h
  obtain ⟨rfl, hT, hDw, hTw, hf, hr, hact, hz0, hz1⟩ := h
  obtain ⟨hO, hWW, hv, hli, hA12, hAs, hsk, hs0, hs1⟩ := hk
  have hW := hWW.1
  have hst2 : ∀ w, w < Ws.length → stF Ws w ≤ 2 := fun w q => (hWW.2 w q).2.2
  have hdp2 : ∀ w, w < Ws.length → 1 ≤ dpF Ws w ∧ dpF Ws w ≤ 9 := fun w q => ⟨(hWW.2 w q).1, (hWW.2 w q).2.1⟩
  have hp16 : 2 ^ Ws.length ≤ 16 := (Nat.pow_le_pow_right (by omega) hW : 2 ^ Ws.length ≤ 2 ^ 4)
  have hl16 : li < 16 := by omega
  have hl : li < 256 := by omega
  have h8 := hv.1
  refine CO.lift (p_year l D cI cZ cS x ax aw an aa a0 a1 sk ll ar aq al am sd wd wt Ws.length jdp jst (dpF Ws) (stF Ws) n nc L li ye br jnw rw ra ca nn pl yy bb ff pm rf As (hf) (hv) (hW) (hTw) (hst2) (hl) (hr) (hact)) [0, 3, 5, 6, 7, 8, 9, 20, 21, 22, 23, 24, 25, 26, 27, 28, 29, 30, 31, 32, 33, 34, 35, 36, 37, 38, 39, 40, 41, 42, 43] (by decide) pl_0_3_5_6_7_8_9_n20_hC (fun _ => pl_0_3_5_6_7_8_9_n20_ha (by rfl)) (fun u hu => ?_)
  obtain ⟨g, rg, qm, n2, p2, y2, b2, f2⟩ := u
  obtain ⟨hg, hr2, hact2⟩ := hu
  exact ⟨rfl, ax, aw, an, aa, a0, a1, ar, aq, al, am, ta, wd, wt, nc, rw, c0, c1, rc, qc, jtx, jdp, jst, g, j0, j1, jtr, jla, jwf, jhf, rg, n0, l0, n1, l1, rn, rl, qn, ql, y0, b0, y1, b1, ry, rb, qy, qb, ra, ca, n2, p2, qm, y2, b2, f2, ⟨pl_0_3_5_6_7_8_9_n20_hw, (hT), (hDw), (hTw), (hg), (hr2), (hact2), (hz0), (hz1)⟩⟩
set_option maxHeartbeats 4000000 in
set_option maxRecDepth 100000 in
theorem P_sing0 (l : Launch) (D : va_G) (cI cZ cS : ClassId) {x : Nat} {T : List Nat} {Ws : List (Nat × Nat)} {ll : Nat} {L : List Sg} {li : Nat} {ye : Int32} {br : Int32} {As : List SS} {sk : Nat} {s0 : SS} {s1 : SS} {sd : Int64} {n : Nat} {ws : va_W} {z : Int32} {z2 : Int32} {z3 : Int32} {z4 : Int32} (h : CW cI cS x T Ws ll L li ye br As sk s0 s1 sd ws) (hk : OKS n T Ws L li As sk s0 s1) (hn : n ≤ 600) (hz : ¬ singC Ws.length li L z z2 z3 z4 = 0) : CO l D (TY cI cZ cS) yX4_sing cX4_sing 5 (some .int) 2 48 0 0 [.ref x, .int z, .int z2, .int z3, .int z4] ws (σ := LW ws) (fun _ => some (.int (singC Ws.length li L z z2 z3 z4))) (fun u => u.1) (fun u => CW cI cS x T Ws ll L li ye br As sk s0 s1 sd u.1) := by
  obtain ⟨ax, aw, an, aa, a0, a1, ar, aq, al, am, ta, wd, wt, nc, rw, c0, c1, rc, qc, jtx, jdp, jst, jnw, j0, j1, jtr, jla, jwf, jhf, rf, n0, l0, n1, l1, rn, rl, qn, ql, y0, b0, y1, b1, ry, rb, qy, qb, ra, ca, nn, pl, pm, yy, bb, ff, h⟩ := h
  obtain ⟨rfl, hT, hDw, hTw, hf, hr, hact, hz0, hz1⟩ := h
  obtain ⟨hO, hWW, hv, hli, hA12, hAs, hsk, hs0, hs1⟩ := hk
  have hW := hWW.1
  have hst2 : ∀ w, w < Ws.length → stF Ws w ≤ 2 := fun w q => (hWW.2 w q).2.2
  have hdp2 : ∀ w, w < Ws.length → 1 ≤ dpF Ws w ∧ dpF Ws w ≤ 9 := fun w q => ⟨(hWW.2 w q).1, (hWW.2 w q).2.1⟩
  have hp16 : 2 ^ Ws.length ≤ 16 := (Nat.pow_le_pow_right (by omega) hW : 2 ^ Ws.length ≤ 2 ^ 4)
  have hl16 : li < 16 := by omega
  have hl : li < 256 := by omega
  have h8 := hv.1
  refine CO.lift (p_sing0 l D cI cZ cS x ax aw an aa a0 a1 sk ll ar aq al am sd wd wt Ws.length jdp jst (dpF Ws) (stF Ws) n nc L li ye br jnw z z2 z3 z4 (hf) (hv) (hW) (hl) (hz)) [0, 3, 6, 7] (by decide) rfl (fun _ => rfl) (fun u hu => ?_)
  exact ⟨rfl, ax, aw, an, aa, a0, a1, ar, aq, al, am, ta, wd, wt, nc, rw, c0, c1, rc, qc, jtx, jdp, jst, jnw, j0, j1, jtr, jla, jwf, jhf, rf, n0, l0, n1, l1, rn, rl, qn, ql, y0, b0, y1, b1, ry, rb, qy, qb, ra, ca, nn, pl, pm, yy, bb, ff, ⟨(by simp only [setL, List.cons_append, List.nil_append, List.set_cons_zero, List.set_cons_succ] <;> rfl), (hT), (hDw), (hTw), (hf), (hr), (hact), (hz0), (hz1)⟩⟩
set_option maxHeartbeats 4000000 in
set_option maxRecDepth 100000 in
theorem P_sing1 (l : Launch) (D : va_G) (cI cZ cS : ClassId) {x : Nat} {T : List Nat} {Ws : List (Nat × Nat)} {ll : Nat} {L : List Sg} {li : Nat} {ye : Int32} {br : Int32} {As : List SS} {sk : Nat} {s0 : SS} {s1 : SS} {sd : Int64} {n : Nat} {ws : va_W} {s : Nat} {d : Nat} {v : Nat} {p : Nat} (h : CW cI cS x T Ws ll L li ye br As sk s0 s1 sd ws) (hk : OKS n T Ws L li As sk s0 s1) (hn : n ≤ 600) (hs1 : s < L.length) (hd : d ≤ 1) (hv0 : 1 ≤ v) (hv9 : v ≤ 9) (hp3 : p ≤ 3) (hway : way Ws.length li (sg L s 1) d = true) (h7 : L.length < 8) : CO l D (TY cI cZ cS) yX4_sing cX4_sing 5 (some .int) 3 78 0 0 [.ref x, .int (nI s), .int (nI d), .int (nI v), .int (nI p)] ws (σ := LW ws) (fun _ => some (.int (nI L.length))) (fun u => u.1) (fun u => CW cI cS x T Ws ll (sungL (stF Ws) L s (jN L s d) v p) li ye (br + nI v) (remL As (L, li, ye, br)) sk s0 s1 sd u.1) := by
  obtain ⟨ax, aw, an, aa, a0, a1, ar, aq, al, am, ta, wd, wt, nc, rw, c0, c1, rc, qc, jtx, jdp, jst, jnw, j0, j1, jtr, jla, jwf, jhf, rf, n0, l0, n1, l1, rn, rl, qn, ql, y0, b0, y1, b1, ry, rb, qy, qb, ra, ca, nn, pl, pm, yy, bb, ff, h⟩ := h
  obtain ⟨rfl, hT, hDw, hTw, hf, hr, hact, hz0, hz1⟩ := h
  obtain ⟨hO, hWW, hv, hli, hA12, hAs, hsk, hs0, hs1⟩ := hk
  have hW := hWW.1
  have hst2 : ∀ w, w < Ws.length → stF Ws w ≤ 2 := fun w q => (hWW.2 w q).2.2
  have hdp2 : ∀ w, w < Ws.length → 1 ≤ dpF Ws w ∧ dpF Ws w ≤ 9 := fun w q => ⟨(hWW.2 w q).1, (hWW.2 w q).2.1⟩
  have hp16 : 2 ^ Ws.length ≤ 16 := (Nat.pow_le_pow_right (by omega) hW : 2 ^ Ws.length ≤ 2 ^ 4)
  have hl16 : li < 16 := by omega
  have hl : li < 256 := by omega
  have h8 := hv.1
  refine CO.lift (p_sing1 l D cI cZ cS x ax aw an aa a0 a1 sk ll ar aq al am sd wd wt Ws.length jdp jst (dpF Ws) (stF Ws) n nc L li ye br jnw rw ra ca nn pl yy bb ff pm rf As s d v p (hf) (hv) (hW) (hTw) (hst2) (hl) (hr) (hact) (by first | assumption | omega) (by first | assumption | omega) (by first | assumption | omega) (by first | assumption | omega) (by first | assumption | omega) (by first | assumption | omega) (by first | assumption | omega)) [0, 3, 5, 6, 7, 8, 9, 20, 21, 22, 23, 24, 25, 26, 27, 28, 29, 30, 31, 32, 33, 34, 35, 36, 37, 38, 39, 40, 41, 42, 43] (by decide) pl_0_3_5_6_7_8_9_n20_hC (fun _ => pl_0_3_5_6_7_8_9_n20_ha (by rfl)) (fun u hu => ?_)
  obtain ⟨g, rg, qm, n2, p2, y2, b2, f2⟩ := u
  obtain ⟨hg, hr2, hact2⟩ := hu
  exact ⟨rfl, ax, aw, an, aa, a0, a1, ar, aq, al, am, ta, wd, wt, nc, rw, c0, c1, rc, qc, jtx, jdp, jst, g, j0, j1, jtr, jla, jwf, jhf, rg, n0, l0, n1, l1, rn, rl, qn, ql, y0, b0, y1, b1, ry, rb, qy, qb, ra, ca, n2, p2, qm, y2, b2, f2, ⟨pl_0_3_5_6_7_8_9_n20_hw, (hT), (hDw), (hTw), (hg), (hr2), (hact2), (hz0), (hz1)⟩⟩
set_option maxHeartbeats 4000000 in
set_option maxRecDepth 100000 in
theorem P_lid0 (l : Launch) (D : va_G) (cI cZ cS : ClassId) {x : Nat} {T : List Nat} {Ws : List (Nat × Nat)} {ll : Nat} {L : List Sg} {li : Nat} {ye : Int32} {br : Int32} {As : List SS} {sk : Nat} {s0 : SS} {s1 : SS} {sd : Int64} {n : Nat} {ws : va_W} {z : Int32} (h : CW cI cS x T Ws ll L li ye br As sk s0 s1 sd ws) (hk : OKS n T Ws L li As sk s0 s1) (hn : n ≤ 600) (hz : ¬ hasB z Ws.length = true) : CO l D (TY cI cZ cS) yX4_lid cX4_lid 2 (some .int) 1 21 0 0 [.ref x, .int z] ws (σ := LW ws) (fun _ => some (.int ((-1)))) (fun u => u.1) (fun u => CW cI cS x T Ws ll L li ye br As sk s0 s1 sd u.1) := by
  obtain ⟨ax, aw, an, aa, a0, a1, ar, aq, al, am, ta, wd, wt, nc, rw, c0, c1, rc, qc, jtx, jdp, jst, jnw, j0, j1, jtr, jla, jwf, jhf, rf, n0, l0, n1, l1, rn, rl, qn, ql, y0, b0, y1, b1, ry, rb, qy, qb, ra, ca, nn, pl, pm, yy, bb, ff, h⟩ := h
  obtain ⟨rfl, hT, hDw, hTw, hf, hr, hact, hz0, hz1⟩ := h
  obtain ⟨hO, hWW, hv, hli, hA12, hAs, hsk, hs0, hs1⟩ := hk
  have hW := hWW.1
  have hst2 : ∀ w, w < Ws.length → stF Ws w ≤ 2 := fun w q => (hWW.2 w q).2.2
  have hdp2 : ∀ w, w < Ws.length → 1 ≤ dpF Ws w ∧ dpF Ws w ≤ 9 := fun w q => ⟨(hWW.2 w q).1, (hWW.2 w q).2.1⟩
  have hp16 : 2 ^ Ws.length ≤ 16 := (Nat.pow_le_pow_right (by omega) hW : 2 ^ Ws.length ≤ 2 ^ 4)
  have hl16 : li < 16 := by omega
  have hl : li < 256 := by omega
  have h8 := hv.1
  refine CO.lift (p_lid0 l D cI cZ cS x ax aw an aa a0 a1 sk ll ar aq al am sd wd wt Ws.length z (hz)) [0, 3] (by decide) rfl (fun _ => rfl) (fun u hu => ?_)
  exact ⟨rfl, ax, aw, an, aa, a0, a1, ar, aq, al, am, ta, wd, wt, nc, rw, c0, c1, rc, qc, jtx, jdp, jst, jnw, j0, j1, jtr, jla, jwf, jhf, rf, n0, l0, n1, l1, rn, rl, qn, ql, y0, b0, y1, b1, ry, rb, qy, qb, ra, ca, nn, pl, pm, yy, bb, ff, ⟨(by simp only [setL, List.cons_append, List.nil_append, List.set_cons_zero, List.set_cons_succ] <;> rfl), (hT), (hDw), (hTw), (hf), (hr), (hact), (hz0), (hz1)⟩⟩
set_option maxHeartbeats 4000000 in
set_option maxRecDepth 100000 in
theorem P_lid1 (l : Launch) (D : va_G) (cI cZ cS : ClassId) {x : Nat} {T : List Nat} {Ws : List (Nat × Nat)} {ll : Nat} {L : List Sg} {li : Nat} {ye : Int32} {br : Int32} {As : List SS} {sk : Nat} {s0 : SS} {s1 : SS} {sd : Int64} {n : Nat} {ws : va_W} {j : Nat} (h : CW cI cS x T Ws ll L li ye br As sk s0 s1 sd ws) (hk : OKS n T Ws L li As sk s0 s1) (hn : n ≤ 600) (hj : j < Ws.length) : CO l D (TY cI cZ cS) yX4_lid cX4_lid 2 (some .int) 3 59 0 0 [.ref x, .int (nI j)] ws (σ := LW ws) (fun _ => some (.int (nI (((li ^^^ 2 ^ j).testBit j).toNat)))) (fun u => u.1) (fun u => CW cI cS x T Ws ll L (li ^^^ 2 ^ j) ye br (remL As (L, li, ye, br)) sk s0 s1 sd u.1) := by
  obtain ⟨ax, aw, an, aa, a0, a1, ar, aq, al, am, ta, wd, wt, nc, rw, c0, c1, rc, qc, jtx, jdp, jst, jnw, j0, j1, jtr, jla, jwf, jhf, rf, n0, l0, n1, l1, rn, rl, qn, ql, y0, b0, y1, b1, ry, rb, qy, qb, ra, ca, nn, pl, pm, yy, bb, ff, h⟩ := h
  obtain ⟨rfl, hT, hDw, hTw, hf, hr, hact, hz0, hz1⟩ := h
  obtain ⟨hO, hWW, hv, hli, hA12, hAs, hsk, hs0, hs1⟩ := hk
  have hW := hWW.1
  have hst2 : ∀ w, w < Ws.length → stF Ws w ≤ 2 := fun w q => (hWW.2 w q).2.2
  have hdp2 : ∀ w, w < Ws.length → 1 ≤ dpF Ws w ∧ dpF Ws w ≤ 9 := fun w q => ⟨(hWW.2 w q).1, (hWW.2 w q).2.1⟩
  have hp16 : 2 ^ Ws.length ≤ 16 := (Nat.pow_le_pow_right (by omega) hW : 2 ^ Ws.length ≤ 2 ^ 4)
  have hl16 : li < 16 := by omega
  have hl : li < 256 := by omega
  have h8 := hv.1
  refine CO.lift (p_lid1 l D cI cZ cS x ax aw an aa a0 a1 sk ll ar aq al am sd wd wt Ws.length n nc L li ye br jnw rw ra ca nn pl yy bb ff pm rf As j (hf) (hv) (hW) (hl16) (hr) (hact) (by first | assumption | omega)) [0, 3, 6, 7, 8, 9, 20, 21, 22, 23, 24, 25, 26, 27, 28, 29, 30, 31, 32, 33, 34, 35, 36, 37, 38, 39, 40, 41, 42, 43] (by decide) pl_0_3_6_7_8_9_n20_hC (fun _ => pl_0_3_6_7_8_9_n20_ha (by rfl)) (fun u hu => ?_)
  obtain ⟨rg, qm, n2, p2, y2, b2, f2⟩ := u
  obtain ⟨hr2, hact2⟩ := hu
  exact ⟨rfl, ax, aw, an, aa, a0, a1, ar, aq, al, am, ta, wd, wt, nc, rw, c0, c1, rc, qc, jtx, jdp, jst, jnw, j0, j1, jtr, jla, jwf, jhf, rg, n0, l0, n1, l1, rn, rl, qn, ql, y0, b0, y1, b1, ry, rb, qy, qb, ra, ca, n2, p2, qm, y2, b2, f2, ⟨pl_0_3_6_7_8_9_n20_hw, (hT), (hDw), (hTw), (hf), (hr2), (hact2), (hz0), (hz1)⟩⟩
set_option maxHeartbeats 4000000 in
set_option maxRecDepth 100000 in
theorem P_undo0 (l : Launch) (D : va_G) (cI cZ cS : ClassId) {x : Nat} {T : List Nat} {Ws : List (Nat × Nat)} {ll : Nat} {L : List Sg} {li : Nat} {ye : Int32} {br : Int32} {sk : Nat} {s0 : SS} {s1 : SS} {sd : Int64} {n : Nat} {ws : va_W}  (h : CW cI cS x T Ws ll L li ye br [] sk s0 s1 sd ws) (hk : OKS n T Ws L li [] sk s0 s1) (hn : n ≤ 600)  : CO l D (TY cI cZ cS) yX4_undo cX4_undo 1 (some .int) 1 23 0 0 [.ref x] ws (σ := LW ws) (fun _ => some (.int ((-3)))) (fun u => u.1) (fun u => CW cI cS x T Ws ll L li ye br ([]) sk s0 s1 sd u.1) := by
  obtain ⟨ax, aw, an, aa, a0, a1, ar, aq, al, am, ta, wd, wt, nc, rw, c0, c1, rc, qc, jtx, jdp, jst, jnw, j0, j1, jtr, jla, jwf, jhf, rf, n0, l0, n1, l1, rn, rl, qn, ql, y0, b0, y1, b1, ry, rb, qy, qb, ra, ca, nn, pl, pm, yy, bb, ff, h⟩ := h
  obtain ⟨rfl, hT, hDw, hTw, hf, hr, hact, hz0, hz1⟩ := h
  obtain ⟨hO, hWW, hv, hli, hA12, hAs, hsk, hs0, hs1⟩ := hk
  have hW := hWW.1
  have hst2 : ∀ w, w < Ws.length → stF Ws w ≤ 2 := fun w q => (hWW.2 w q).2.2
  have hdp2 : ∀ w, w < Ws.length → 1 ≤ dpF Ws w ∧ dpF Ws w ≤ 9 := fun w q => ⟨(hWW.2 w q).1, (hWW.2 w q).2.1⟩
  have hp16 : 2 ^ Ws.length ≤ 16 := (Nat.pow_le_pow_right (by omega) hW : 2 ^ Ws.length ≤ 2 ^ 4)
  have hl16 : li < 16 := by omega
  have hl : li < 256 := by omega
  have h8 := hv.1
  refine CO.lift (p_undo0 l D cI cZ cS x ax aw an aa a0 a1 sk ll ar aq al am sd rw nc L.length li ye br ) [0, 6, 8] (by decide) rfl (fun _ => rfl) (fun u hu => ?_)
  exact ⟨rfl, ax, aw, an, aa, a0, a1, ar, aq, al, am, ta, wd, wt, nc, rw, c0, c1, rc, qc, jtx, jdp, jst, jnw, j0, j1, jtr, jla, jwf, jhf, rf, n0, l0, n1, l1, rn, rl, qn, ql, y0, b0, y1, b1, ry, rb, qy, qb, ra, ca, nn, pl, pm, yy, bb, ff, ⟨(by simp only [setL, List.cons_append, List.nil_append, List.set_cons_zero, List.set_cons_succ] <;> rfl), (hT), (hDw), (hTw), (hf), (hr), (hact), (hz0), (hz1)⟩⟩
set_option maxHeartbeats 4000000 in
set_option maxRecDepth 100000 in
theorem P_undo1 (l : Launch) (D : va_G) (cI cZ cS : ClassId) {x : Nat} {T : List Nat} {Ws : List (Nat × Nat)} {ll : Nat} {L : List Sg} {li : Nat} {ye : Int32} {br : Int32} {As : List SS} {sk : Nat} {s0 : SS} {s1 : SS} {sd : Int64} {n : Nat} {ws : va_W}  (h : CW cI cS x T Ws ll L li ye br As sk s0 s1 sd ws) (hk : OKS n T Ws L li As sk s0 s1) (hn : n ≤ 600) (h0 : 0 < As.length) : CO l D (TY cI cZ cS) yX4_undo cX4_undo 1 (some .int) 3 60 0 0 [.ref x] ws (σ := LW ws) (fun _ => some (.int (nI (As.length - 1)))) (fun u => u.1) (fun u => CW cI cS x T Ws ll ((gSS As (As.length - 1)).1) ((gSS As (As.length - 1)).2.1) ((gSS As (As.length - 1)).2.2.1) ((gSS As (As.length - 1)).2.2.2) (As.take (As.length - 1)) sk s0 s1 sd u.1) := by
  obtain ⟨ax, aw, an, aa, a0, a1, ar, aq, al, am, ta, wd, wt, nc, rw, c0, c1, rc, qc, jtx, jdp, jst, jnw, j0, j1, jtr, jla, jwf, jhf, rf, n0, l0, n1, l1, rn, rl, qn, ql, y0, b0, y1, b1, ry, rb, qy, qb, ra, ca, nn, pl, pm, yy, bb, ff, h⟩ := h
  obtain ⟨rfl, hT, hDw, hTw, hf, hr, hact, hz0, hz1⟩ := h
  obtain ⟨hO, hWW, hv, hli, hA12, hAs, hsk, hs0, hs1⟩ := hk
  have hW := hWW.1
  have hst2 : ∀ w, w < Ws.length → stF Ws w ≤ 2 := fun w q => (hWW.2 w q).2.2
  have hdp2 : ∀ w, w < Ws.length → 1 ≤ dpF Ws w ∧ dpF Ws w ≤ 9 := fun w q => ⟨(hWW.2 w q).1, (hWW.2 w q).2.1⟩
  have hp16 : 2 ^ Ws.length ≤ 16 := (Nat.pow_le_pow_right (by omega) hW : 2 ^ Ws.length ≤ 2 ^ 4)
  have hl16 : li < 16 := by omega
  have hl : li < 256 := by omega
  have h8 := hv.1
  have hlt : (As.take (As.length - 1)).length = As.length - 1 := by rw [List.length_take]; omega
  refine CO.lift (p_undo1 l D cI cZ cS x ax aw an aa a0 a1 sk ll ar aq al am sd nc L li ye br jnw rw ra ca nn pl yy bb ff pm rf As (hr) (hact) (by first | assumption | omega) (fun k q => (hAs k q).1.1)) [0, 6, 7, 8, 9, 20, 21, 22, 23, 24, 25, 26, 27, 28, 29, 30, 31, 32, 33, 34, 35, 36, 37, 38, 39, 40, 41, 42, 43] (by decide) pl_0_6_7_8_9_n20_hC (fun _ => pl_0_6_7_8_9_n20_ha (by rfl)) (fun g hu => ?_)
  have hg := hu
  exact ⟨rfl, ax, aw, an, aa, a0, a1, ar, aq, al, am, ta, wd, wt, nc, rw, c0, c1, rc, qc, jtx, jdp, jst, g, j0, j1, jtr, jla, jwf, jhf, rf, n0, l0, n1, l1, rn, rl, qn, ql, y0, b0, y1, b1, ry, rb, qy, qb, ra, ca, nn, pl, pm, yy, bb, ff, ⟨(by rw [hlt]; exact pl_0_6_7_8_9_n20_hw), (hT), (hDw), (hTw), (hg), (hr), (actR_pop hact), (hz0), (hz1)⟩⟩
set_option maxHeartbeats 4000000 in
set_option maxRecDepth 100000 in
theorem P_heard (l : Launch) (D : va_G) (cI cZ cS : ClassId) {x : Nat} {T : List Nat} {Ws : List (Nat × Nat)} {ll : Nat} {L : List Sg} {li : Nat} {ye : Int32} {br : Int32} {As : List SS} {sk : Nat} {s0 : SS} {s1 : SS} {sd : Int64} {n : Nat} {ws : va_W} {z : Int32} {z2 : Int32} {noon : Bool} (h : CW cI cS x T Ws ll L li ye br As sk s0 s1 sd ws) (hk : OKS n T Ws L li As sk s0 s1) (hn : n ≤ 600)  : CO l D (TY cI cZ cS) yX4_heard cX4_heard 4 (some .int) 2 52 0 0 [.ref x, .int z, .int z2, .int (bz noon)] ws (σ := LW ws) (fun _ => some (.int (heardI Ws.length (dpF Ws) li L z z2 noon))) (fun u => u.1) (fun u => CW cI cS x T Ws ll L li ye br As sk s0 s1 sd u.1) := by
  obtain ⟨ax, aw, an, aa, a0, a1, ar, aq, al, am, ta, wd, wt, nc, rw, c0, c1, rc, qc, jtx, jdp, jst, jnw, j0, j1, jtr, jla, jwf, jhf, rf, n0, l0, n1, l1, rn, rl, qn, ql, y0, b0, y1, b1, ry, rb, qy, qb, ra, ca, nn, pl, pm, yy, bb, ff, h⟩ := h
  obtain ⟨rfl, hT, hDw, hTw, hf, hr, hact, hz0, hz1⟩ := h
  obtain ⟨hO, hWW, hv, hli, hA12, hAs, hsk, hs0, hs1⟩ := hk
  have hW := hWW.1
  have hst2 : ∀ w, w < Ws.length → stF Ws w ≤ 2 := fun w q => (hWW.2 w q).2.2
  have hdp2 : ∀ w, w < Ws.length → 1 ≤ dpF Ws w ∧ dpF Ws w ≤ 9 := fun w q => ⟨(hWW.2 w q).1, (hWW.2 w q).2.1⟩
  have hp16 : 2 ^ Ws.length ≤ 16 := (Nat.pow_le_pow_right (by omega) hW : 2 ^ Ws.length ≤ 2 ^ 4)
  have hl16 : li < 16 := by omega
  have hl : li < 256 := by omega
  have h8 := hv.1
  refine CO.lift (p_heard l D cI cZ cS x ax aw an aa a0 a1 sk ll ar aq al am sd wd wt Ws.length jdp jst (dpF Ws) (stF Ws) n nc L li ye br jnw z z2 noon (hf) (hv) (hW) (hDw) (hdp2) (hl) (by first | assumption | omega)) [0, 3, 4, 6, 7] (by decide) rfl (fun _ => rfl) (fun u hu => ?_)
  exact ⟨rfl, ax, aw, an, aa, a0, a1, ar, aq, al, am, ta, wd, wt, nc, rw, c0, c1, rc, qc, jtx, jdp, jst, jnw, j0, j1, jtr, jla, jwf, jhf, rf, n0, l0, n1, l1, rn, rl, qn, ql, y0, b0, y1, b1, ry, rb, qy, qb, ra, ca, nn, pl, pm, yy, bb, ff, ⟨(by simp only [setL, List.cons_append, List.nil_append, List.set_cons_zero, List.set_cons_succ] <;> rfl), (hT), (hDw), (hTw), (hf), (hr), (hact), (hz0), (hz1)⟩⟩
set_option maxHeartbeats 4000000 in
set_option maxRecDepth 100000 in
theorem P_songLasts (l : Launch) (D : va_G) (cI cZ cS : ClassId) {x : Nat} {T : List Nat} {Ws : List (Nat × Nat)} {ll : Nat} {L : List Sg} {li : Nat} {ye : Int32} {br : Int32} {As : List SS} {sk : Nat} {s0 : SS} {s1 : SS} {sd : Int64} {n : Nat} {ws : va_W} {z : Int32} (h : CW cI cS x T Ws ll L li ye br As sk s0 s1 sd ws) (hk : OKS n T Ws L li As sk s0 s1) (hn : n ≤ 600)  : CO l D (TY cI cZ cS) yX4_songLasts cX4_songLasts 4 (some .int) 3 70 0 0 [.ref x, .int z] ws (σ := LW ws) (fun _ => some (.int (songLastsI (stF Ws) li L z))) (fun u => u.1) (fun u => CW cI cS x T Ws ll L li ye br As sk s0 s1 sd u.1) := by
  obtain ⟨ax, aw, an, aa, a0, a1, ar, aq, al, am, ta, wd, wt, nc, rw, c0, c1, rc, qc, jtx, jdp, jst, jnw, j0, j1, jtr, jla, jwf, jhf, rf, n0, l0, n1, l1, rn, rl, qn, ql, y0, b0, y1, b1, ry, rb, qy, qb, ra, ca, nn, pl, pm, yy, bb, ff, h⟩ := h
  obtain ⟨rfl, hT, hDw, hTw, hf, hr, hact, hz0, hz1⟩ := h
  obtain ⟨hO, hWW, hv, hli, hA12, hAs, hsk, hs0, hs1⟩ := hk
  have hW := hWW.1
  have hst2 : ∀ w, w < Ws.length → stF Ws w ≤ 2 := fun w q => (hWW.2 w q).2.2
  have hdp2 : ∀ w, w < Ws.length → 1 ≤ dpF Ws w ∧ dpF Ws w ≤ 9 := fun w q => ⟨(hWW.2 w q).1, (hWW.2 w q).2.1⟩
  have hp16 : 2 ^ Ws.length ≤ 16 := (Nat.pow_le_pow_right (by omega) hW : 2 ^ Ws.length ≤ 2 ^ 4)
  have hl16 : li < 16 := by omega
  have hl : li < 256 := by omega
  have h8 := hv.1
  refine CO.lift (p_songLasts l D cI cZ cS x ax aw an aa a0 a1 sk ll ar aq al am sd wd wt Ws.length jdp jst (dpF Ws) (stF Ws) n nc L li ye br jnw rc rn rl ry rb jtr z (hf) (hv) (hW) (hTw) (hst2) (hl)) [0, 3, 5, 6, 7, 14, 15] (by decide) rfl (fun _ => rfl) (fun u hu => ?_)
  obtain ⟨un, ul, uy, ub, uf⟩ := u
  exact ⟨rfl, ax, aw, an, aa, a0, a1, ar, aq, al, am, ta, wd, wt, nc, rw, c0, c1, rc, qc, jtx, jdp, jst, jnw, j0, j1, uf, jla, jwf, jhf, rf, n0, l0, n1, l1, un, ul, qn, ql, y0, b0, y1, b1, uy, ub, qy, qb, ra, ca, nn, pl, pm, yy, bb, ff, ⟨(by simp only [setL, List.cons_append, List.nil_append, List.set_cons_zero, List.set_cons_succ] <;> rfl), (hT), (hDw), (hTw), (hf), (hr), (hact), (hz0), (hz1)⟩⟩
set_option maxHeartbeats 4000000 in
set_option maxRecDepth 100000 in
theorem P_lawLasts (l : Launch) (D : va_G) (cI cZ cS : ClassId) {x : Nat} {T : List Nat} {Ws : List (Nat × Nat)} {ll : Nat} {L : List Sg} {li : Nat} {ye : Int32} {br : Int32} {As : List SS} {sk : Nat} {s0 : SS} {s1 : SS} {sd : Int64} {n : Nat} {ws : va_W} {z : Int32} (h : CW cI cS x T Ws ll L li ye br As sk s0 s1 sd ws) (hk : OKS n T Ws L li As sk s0 s1) (hn : n ≤ 600)  : CO l D (TY cI cZ cS) yX4_lawLasts cX4_lawLasts 3 (some .int) 4 93 0 0 [.ref x, .int z] ws (σ := LW ws) (fun _ => some (.int (lawLastsI (stF Ws) li L z))) (fun u => u.1) (fun u => CW cI cS x T Ws ll L li ye br As sk s0 s1 sd u.1) := by
  obtain ⟨ax, aw, an, aa, a0, a1, ar, aq, al, am, ta, wd, wt, nc, rw, c0, c1, rc, qc, jtx, jdp, jst, jnw, j0, j1, jtr, jla, jwf, jhf, rf, n0, l0, n1, l1, rn, rl, qn, ql, y0, b0, y1, b1, ry, rb, qy, qb, ra, ca, nn, pl, pm, yy, bb, ff, h⟩ := h
  obtain ⟨rfl, hT, hDw, hTw, hf, hr, hact, hz0, hz1⟩ := h
  obtain ⟨hO, hWW, hv, hli, hA12, hAs, hsk, hs0, hs1⟩ := hk
  have hW := hWW.1
  have hst2 : ∀ w, w < Ws.length → stF Ws w ≤ 2 := fun w q => (hWW.2 w q).2.2
  have hdp2 : ∀ w, w < Ws.length → 1 ≤ dpF Ws w ∧ dpF Ws w ≤ 9 := fun w q => ⟨(hWW.2 w q).1, (hWW.2 w q).2.1⟩
  have hp16 : 2 ^ Ws.length ≤ 16 := (Nat.pow_le_pow_right (by omega) hW : 2 ^ Ws.length ≤ 2 ^ 4)
  have hl16 : li < 16 := by omega
  have hl : li < 256 := by omega
  have h8 := hv.1
  refine CO.lift (p_lawLasts l D cI cZ cS x ax aw an aa a0 a1 sk ll ar aq al am sd wd wt Ws.length jdp jst (dpF Ws) (stF Ws) n nc L li ye br jnw rc rn rl ry rb jtr z (hf) (hv) (hW) (hTw) (hst2) (hl)) [0, 3, 5, 6, 7, 14, 15] (by decide) rfl (fun _ => rfl) (fun u hu => ?_)
  obtain ⟨un, ul, uy, ub, uf⟩ := u
  exact ⟨rfl, ax, aw, an, aa, a0, a1, ar, aq, al, am, ta, wd, wt, nc, rw, c0, c1, rc, qc, jtx, jdp, jst, jnw, j0, j1, uf, jla, jwf, jhf, rf, n0, l0, n1, l1, un, ul, qn, ql, y0, b0, y1, b1, uy, ub, qy, qb, ra, ca, nn, pl, pm, yy, bb, ff, ⟨(by simp only [setL, List.cons_append, List.nil_append, List.set_cons_zero, List.set_cons_succ] <;> rfl), (hT), (hDw), (hTw), (hf), (hr), (hact), (hz0), (hz1)⟩⟩
set_option maxHeartbeats 4000000 in
set_option maxRecDepth 100000 in
theorem P_lost (l : Launch) (D : va_G) (cI cZ cS : ClassId) {x : Nat} {T : List Nat} {Ws : List (Nat × Nat)} {ll : Nat} {L : List Sg} {li : Nat} {ye : Int32} {br : Int32} {As : List SS} {sk : Nat} {s0 : SS} {s1 : SS} {sd : Int64} {n : Nat} {ws : va_W} {z : Int32} (h : CW cI cS x T Ws ll L li ye br As sk s0 s1 sd ws) (hk : OKS n T Ws L li As sk s0 s1) (hn : n ≤ 600)  : CO l D (TY cI cZ cS) yX4_lost cX4_lost 2 (some .int) 5 116 0 0 [.ref x, .int z] ws (σ := LW ws) (fun _ => some (.int (lostI (stF Ws) li ll L z))) (fun u => u.1) (fun u => CW cI cS x T Ws ll L li ye br As sk s0 s1 sd u.1) := by
  obtain ⟨ax, aw, an, aa, a0, a1, ar, aq, al, am, ta, wd, wt, nc, rw, c0, c1, rc, qc, jtx, jdp, jst, jnw, j0, j1, jtr, jla, jwf, jhf, rf, n0, l0, n1, l1, rn, rl, qn, ql, y0, b0, y1, b1, ry, rb, qy, qb, ra, ca, nn, pl, pm, yy, bb, ff, h⟩ := h
  obtain ⟨rfl, hT, hDw, hTw, hf, hr, hact, hz0, hz1⟩ := h
  obtain ⟨hO, hWW, hv, hli, hA12, hAs, hsk, hs0, hs1⟩ := hk
  have hW := hWW.1
  have hst2 : ∀ w, w < Ws.length → stF Ws w ≤ 2 := fun w q => (hWW.2 w q).2.2
  have hdp2 : ∀ w, w < Ws.length → 1 ≤ dpF Ws w ∧ dpF Ws w ≤ 9 := fun w q => ⟨(hWW.2 w q).1, (hWW.2 w q).2.1⟩
  have hp16 : 2 ^ Ws.length ≤ 16 := (Nat.pow_le_pow_right (by omega) hW : 2 ^ Ws.length ≤ 2 ^ 4)
  have hl16 : li < 16 := by omega
  have hl : li < 256 := by omega
  have h8 := hv.1
  refine CO.lift (p_lost l D cI cZ cS x ax aw an aa a0 a1 sk ll ar aq al am sd wd wt Ws.length jdp jst (dpF Ws) (stF Ws) n nc L li ye br jnw rc rn rl ry rb jtr z (hf) (hv) (hW) (hTw) (hst2) (hl)) [0, 3, 5, 6, 7, 14, 15] (by decide) rfl (fun _ => rfl) (fun u hu => ?_)
  obtain ⟨un, ul, uy, ub, uf⟩ := u
  exact ⟨rfl, ax, aw, an, aa, a0, a1, ar, aq, al, am, ta, wd, wt, nc, rw, c0, c1, rc, qc, jtx, jdp, jst, jnw, j0, j1, uf, jla, jwf, jhf, rf, n0, l0, n1, l1, un, ul, qn, ql, y0, b0, y1, b1, uy, ub, qy, qb, ra, ca, nn, pl, pm, yy, bb, ff, ⟨(by simp only [setL, List.cons_append, List.nil_append, List.set_cons_zero, List.set_cons_succ] <;> rfl), (hT), (hDw), (hTw), (hf), (hr), (hact), (hz0), (hz1)⟩⟩
set_option maxHeartbeats 4000000 in
set_option maxRecDepth 100000 in
theorem P_bestLid (l : Launch) (D : va_G) (cI cZ cS : ClassId) {x : Nat} {T : List Nat} {Ws : List (Nat × Nat)} {ll : Nat} {L : List Sg} {li : Nat} {ye : Int32} {br : Int32} {As : List SS} {sk : Nat} {s0 : SS} {s1 : SS} {sd : Int64} {n : Nat} {ws : va_W} {z : Int32} (h : CW cI cS x T Ws ll L li ye br As sk s0 s1 sd ws) (hk : OKS n T Ws L li As sk s0 s1) (hn : n ≤ 600)  : CO l D (TY cI cZ cS) yX4_bestLid cX4_bestLid 6 (some .int) 6 138 0 0 [.ref x, .int z] ws (σ := LW ws) (fun _ => some (.int (bestLidI (stF Ws) Ws.length li ll L z))) (fun u => u.1) (fun u => CW cI cS x T Ws ll L li ye br As sk s0 s1 sd u.1) := by
  obtain ⟨ax, aw, an, aa, a0, a1, ar, aq, al, am, ta, wd, wt, nc, rw, c0, c1, rc, qc, jtx, jdp, jst, jnw, j0, j1, jtr, jla, jwf, jhf, rf, n0, l0, n1, l1, rn, rl, qn, ql, y0, b0, y1, b1, ry, rb, qy, qb, ra, ca, nn, pl, pm, yy, bb, ff, h⟩ := h
  obtain ⟨rfl, hT, hDw, hTw, hf, hr, hact, hz0, hz1⟩ := h
  obtain ⟨hO, hWW, hv, hli, hA12, hAs, hsk, hs0, hs1⟩ := hk
  have hW := hWW.1
  have hst2 : ∀ w, w < Ws.length → stF Ws w ≤ 2 := fun w q => (hWW.2 w q).2.2
  have hdp2 : ∀ w, w < Ws.length → 1 ≤ dpF Ws w ∧ dpF Ws w ≤ 9 := fun w q => ⟨(hWW.2 w q).1, (hWW.2 w q).2.1⟩
  have hp16 : 2 ^ Ws.length ≤ 16 := (Nat.pow_le_pow_right (by omega) hW : 2 ^ Ws.length ≤ 2 ^ 4)
  have hl16 : li < 16 := by omega
  have hl : li < 256 := by omega
  have h8 := hv.1
  refine CO.lift (p_bestLid l D cI cZ cS x ax aw an aa a0 a1 sk ll ar aq al am sd wd wt Ws.length jdp jst (dpF Ws) (stF Ws) n nc L li ye br jnw rc rn rl ry rb jtr z (hf) (hv) (hW) (hTw) (hst2) (hl16)) [0, 3, 5, 6, 7, 14, 15] (by decide) rfl (fun _ => rfl) (fun u hu => ?_)
  obtain ⟨un, ul, uy, ub, uf⟩ := u
  exact ⟨rfl, ax, aw, an, aa, a0, a1, ar, aq, al, am, ta, wd, wt, nc, rw, c0, c1, rc, qc, jtx, jdp, jst, jnw, j0, j1, uf, jla, jwf, jhf, rf, n0, l0, n1, l1, un, ul, qn, ql, y0, b0, y1, b1, uy, ub, qy, qb, ra, ca, nn, pl, pm, yy, bb, ff, ⟨(by simp only [setL, List.cons_append, List.nil_append, List.set_cons_zero, List.set_cons_succ] <;> rfl), (hT), (hDw), (hTw), (hf), (hr), (hact), (hz0), (hz1)⟩⟩
set_option maxHeartbeats 4000000 in
set_option maxRecDepth 100000 in
theorem P_mostPitch (l : Launch) (D : va_G) (cI cZ cS : ClassId) {x : Nat} {T : List Nat} {Ws : List (Nat × Nat)} {ll : Nat} {L : List Sg} {li : Nat} {ye : Int32} {br : Int32} {As : List SS} {sk : Nat} {s0 : SS} {s1 : SS} {sd : Int64} {n : Nat} {ws : va_W} {z : Int32} (h : CW cI cS x T Ws ll L li ye br As sk s0 s1 sd ws) (hk : OKS n T Ws L li As sk s0 s1) (hn : n ≤ 600)  : CO l D (TY cI cZ cS) yX4_mostPitch cX4_mostPitch 6 (some .int) 2 47 0 0 [.ref x, .int z] ws (σ := LW ws) (fun _ => some (.int (mostPitchI L z))) (fun u => u.1) (fun u => CW cI cS x T Ws ll L li ye br As sk s0 s1 sd u.1) := by
  obtain ⟨ax, aw, an, aa, a0, a1, ar, aq, al, am, ta, wd, wt, nc, rw, c0, c1, rc, qc, jtx, jdp, jst, jnw, j0, j1, jtr, jla, jwf, jhf, rf, n0, l0, n1, l1, rn, rl, qn, ql, y0, b0, y1, b1, ry, rb, qy, qb, ra, ca, nn, pl, pm, yy, bb, ff, h⟩ := h
  obtain ⟨rfl, hT, hDw, hTw, hf, hr, hact, hz0, hz1⟩ := h
  obtain ⟨hO, hWW, hv, hli, hA12, hAs, hsk, hs0, hs1⟩ := hk
  have hW := hWW.1
  have hst2 : ∀ w, w < Ws.length → stF Ws w ≤ 2 := fun w q => (hWW.2 w q).2.2
  have hdp2 : ∀ w, w < Ws.length → 1 ≤ dpF Ws w ∧ dpF Ws w ≤ 9 := fun w q => ⟨(hWW.2 w q).1, (hWW.2 w q).2.1⟩
  have hp16 : 2 ^ Ws.length ≤ 16 := (Nat.pow_le_pow_right (by omega) hW : 2 ^ Ws.length ≤ 2 ^ 4)
  have hl16 : li < 16 := by omega
  have hl : li < 256 := by omega
  have h8 := hv.1
  refine CO.lift (p_mostPitch l D cI cZ cS x ax aw an aa a0 a1 sk ll ar aq al am sd nc L li ye br jnw Ws.length n z (hf) (hv)) [0, 6, 7] (by decide) rfl (fun _ => rfl) (fun u hu => ?_)
  exact ⟨rfl, ax, aw, an, aa, a0, a1, ar, aq, al, am, ta, wd, wt, nc, rw, c0, c1, rc, qc, jtx, jdp, jst, jnw, j0, j1, jtr, jla, jwf, jhf, rf, n0, l0, n1, l1, rn, rl, qn, ql, y0, b0, y1, b1, ry, rb, qy, qb, ra, ca, nn, pl, pm, yy, bb, ff, ⟨(by simp only [setL, List.cons_append, List.nil_append, List.set_cons_zero, List.set_cons_succ] <;> rfl), (hT), (hDw), (hTw), (hf), (hr), (hact), (hz0), (hz1)⟩⟩
set_option maxHeartbeats 4000000 in
set_option maxRecDepth 100000 in
theorem P_truest (l : Launch) (D : va_G) (cI cZ cS : ClassId) {x : Nat} {T : List Nat} {Ws : List (Nat × Nat)} {ll : Nat} {L : List Sg} {li : Nat} {ye : Int32} {br : Int32} {As : List SS} {sk : Nat} {s0 : SS} {s1 : SS} {sd : Int64} {n : Nat} {ws : va_W} {z : Int32} (h : CW cI cS x T Ws ll L li ye br As sk s0 s1 sd ws) (hk : OKS n T Ws L li As sk s0 s1) (hn : n ≤ 600)  : CO l D (TY cI cZ cS) yX4_truest cX4_truest 5 (some .int) 1 23 0 0 [.ref x, .int z] ws (σ := LW ws) (fun _ => some (.int (truestI L z))) (fun u => u.1) (fun u => CW cI cS x T Ws ll L li ye br As sk s0 s1 sd u.1) := by
  obtain ⟨ax, aw, an, aa, a0, a1, ar, aq, al, am, ta, wd, wt, nc, rw, c0, c1, rc, qc, jtx, jdp, jst, jnw, j0, j1, jtr, jla, jwf, jhf, rf, n0, l0, n1, l1, rn, rl, qn, ql, y0, b0, y1, b1, ry, rb, qy, qb, ra, ca, nn, pl, pm, yy, bb, ff, h⟩ := h
  obtain ⟨rfl, hT, hDw, hTw, hf, hr, hact, hz0, hz1⟩ := h
  obtain ⟨hO, hWW, hv, hli, hA12, hAs, hsk, hs0, hs1⟩ := hk
  have hW := hWW.1
  have hst2 : ∀ w, w < Ws.length → stF Ws w ≤ 2 := fun w q => (hWW.2 w q).2.2
  have hdp2 : ∀ w, w < Ws.length → 1 ≤ dpF Ws w ∧ dpF Ws w ≤ 9 := fun w q => ⟨(hWW.2 w q).1, (hWW.2 w q).2.1⟩
  have hp16 : 2 ^ Ws.length ≤ 16 := (Nat.pow_le_pow_right (by omega) hW : 2 ^ Ws.length ≤ 2 ^ 4)
  have hl16 : li < 16 := by omega
  have hl : li < 256 := by omega
  have h8 := hv.1
  refine CO.lift (p_truest l D cI cZ cS x ax aw an aa a0 a1 sk ll ar aq al am sd nc L li ye br jnw Ws.length n z (hf) (hv)) [0, 6, 7] (by decide) rfl (fun _ => rfl) (fun u hu => ?_)
  exact ⟨rfl, ax, aw, an, aa, a0, a1, ar, aq, al, am, ta, wd, wt, nc, rw, c0, c1, rc, qc, jtx, jdp, jst, jnw, j0, j1, jtr, jla, jwf, jhf, rf, n0, l0, n1, l1, rn, rl, qn, ql, y0, b0, y1, b1, ry, rb, qy, qb, ra, ca, nn, pl, pm, yy, bb, ff, ⟨(by simp only [setL, List.cons_append, List.nil_append, List.set_cons_zero, List.set_cons_succ] <;> rfl), (hT), (hDw), (hTw), (hf), (hr), (hact), (hz0), (hz1)⟩⟩
set_option maxHeartbeats 4000000 in
set_option maxRecDepth 100000 in
theorem P_plan (l : Launch) (D : va_G) (cI cZ cS : ClassId) {x : Nat} {T : List Nat} {Ws : List (Nat × Nat)} {ll : Nat} {L : List Sg} {li : Nat} {ye : Int32} {br : Int32} {As : List SS} {sk : Nat} {s0 : SS} {s1 : SS} {sd : Int64} {n : Nat} {ws : va_W} {z : Int32} {z2 : Int32} (h : CW cI cS x T Ws ll L li ye br As sk s0 s1 sd ws) (hk : OKS n T Ws L li As sk s0 s1) (hn : n ≤ 600)  : CO l D (TY cI cZ cS) yX4_plan cX4_plan 8 (some .int) 7 160 0 0 [.ref x, .int z, .int z2] ws (σ := LW ws) (fun _ => some (.int (planI ll (stF Ws) Ws.length li L z z2))) (fun u => u.1) (fun u => CW cI cS x T Ws ll L li ye br As sk s0 s1 sd u.1) := by
  obtain ⟨ax, aw, an, aa, a0, a1, ar, aq, al, am, ta, wd, wt, nc, rw, c0, c1, rc, qc, jtx, jdp, jst, jnw, j0, j1, jtr, jla, jwf, jhf, rf, n0, l0, n1, l1, rn, rl, qn, ql, y0, b0, y1, b1, ry, rb, qy, qb, ra, ca, nn, pl, pm, yy, bb, ff, h⟩ := h
  obtain ⟨rfl, hT, hDw, hTw, hf, hr, hact, hz0, hz1⟩ := h
  obtain ⟨hO, hWW, hv, hli, hA12, hAs, hsk, hs0, hs1⟩ := hk
  have hW := hWW.1
  have hst2 : ∀ w, w < Ws.length → stF Ws w ≤ 2 := fun w q => (hWW.2 w q).2.2
  have hdp2 : ∀ w, w < Ws.length → 1 ≤ dpF Ws w ∧ dpF Ws w ≤ 9 := fun w q => ⟨(hWW.2 w q).1, (hWW.2 w q).2.1⟩
  have hp16 : 2 ^ Ws.length ≤ 16 := (Nat.pow_le_pow_right (by omega) hW : 2 ^ Ws.length ≤ 2 ^ 4)
  have hl16 : li < 16 := by omega
  have hl : li < 256 := by omega
  have h8 := hv.1
  refine CO.lift (p_plan l D cI cZ cS x ax aw an aa a0 a1 sk ll ar aq al am sd wd wt Ws.length jdp jst (dpF Ws) (stF Ws) n nc L li ye br jnw rc rn rl ry rb jtr qc qn ql qy qb jla z z2 (hf) (hv) (hW) (hTw) (hst2) (hl)) [0, 3, 5, 6, 7, 14, 15, 16, 17] (by decide) rfl (fun _ => rfl) (fun u hu => ?_)
  obtain ⟨un, ul, uy, ub, uf, vn, vl, vy, vb, vf⟩ := u
  exact ⟨rfl, ax, aw, an, aa, a0, a1, ar, aq, al, am, ta, wd, wt, nc, rw, c0, c1, rc, qc, jtx, jdp, jst, jnw, j0, j1, uf, vf, jwf, jhf, rf, n0, l0, n1, l1, un, ul, vn, vl, y0, b0, y1, b1, uy, ub, vy, vb, ra, ca, nn, pl, pm, yy, bb, ff, ⟨(by simp only [setL, List.cons_append, List.nil_append, List.set_cons_zero, List.set_cons_succ] <;> rfl), (hT), (hDw), (hTw), (hf), (hr), (hact), (hz0), (hz1)⟩⟩
set_option maxHeartbeats 4000000 in
set_option maxRecDepth 100000 in
theorem P_lamps (l : Launch) (D : va_G) (cI cZ cS : ClassId) {x : Nat} {T : List Nat} {Ws : List (Nat × Nat)} {ll : Nat} {L : List Sg} {li : Nat} {ye : Int32} {br : Int32} {As : List SS} {sk : Nat} {s0 : SS} {s1 : SS} {sd : Int64} {n : Nat} {ws : va_W}  (h : CW cI cS x T Ws ll L li ye br As sk s0 s1 sd ws) (hk : OKS n T Ws L li As sk s0 s1) (hn : n ≤ 600)  : CO l D (TY cI cZ cS) yX4_lamps cX4_lamps 7 (some .int) 3 76 0 0 [.ref x] ws (σ := LW ws) (fun _ => some (.int (lampsI L li (dpF Ws) Ws.length))) (fun u => u.1) (fun u => CW cI cS x T Ws ll L li ye br As sk s0 s1 sd u.1) := by
  obtain ⟨ax, aw, an, aa, a0, a1, ar, aq, al, am, ta, wd, wt, nc, rw, c0, c1, rc, qc, jtx, jdp, jst, jnw, j0, j1, jtr, jla, jwf, jhf, rf, n0, l0, n1, l1, rn, rl, qn, ql, y0, b0, y1, b1, ry, rb, qy, qb, ra, ca, nn, pl, pm, yy, bb, ff, h⟩ := h
  obtain ⟨rfl, hT, hDw, hTw, hf, hr, hact, hz0, hz1⟩ := h
  obtain ⟨hO, hWW, hv, hli, hA12, hAs, hsk, hs0, hs1⟩ := hk
  have hW := hWW.1
  have hst2 : ∀ w, w < Ws.length → stF Ws w ≤ 2 := fun w q => (hWW.2 w q).2.2
  have hdp2 : ∀ w, w < Ws.length → 1 ≤ dpF Ws w ∧ dpF Ws w ≤ 9 := fun w q => ⟨(hWW.2 w q).1, (hWW.2 w q).2.1⟩
  have hp16 : 2 ^ Ws.length ≤ 16 := (Nat.pow_le_pow_right (by omega) hW : 2 ^ Ws.length ≤ 2 ^ 4)
  have hl16 : li < 16 := by omega
  have hl : li < 256 := by omega
  have h8 := hv.1
  refine CO.lift (p_lamps l D cI cZ cS x ax aw an aa a0 a1 sk ll ar aq al am sd wd wt Ws.length jdp jst (dpF Ws) (stF Ws) n nc L li ye br jnw (hf) (hv) (hW) (hDw) (hdp2) (hl) (by first | assumption | omega)) [0, 3, 4, 6, 7] (by decide) rfl (fun _ => rfl) (fun u hu => ?_)
  exact ⟨rfl, ax, aw, an, aa, a0, a1, ar, aq, al, am, ta, wd, wt, nc, rw, c0, c1, rc, qc, jtx, jdp, jst, jnw, j0, j1, jtr, jla, jwf, jhf, rf, n0, l0, n1, l1, rn, rl, qn, ql, y0, b0, y1, b1, ry, rb, qy, qb, ra, ca, nn, pl, pm, yy, bb, ff, ⟨(by simp only [setL, List.cons_append, List.nil_append, List.set_cons_zero, List.set_cons_succ] <;> rfl), (hT), (hDw), (hTw), (hf), (hr), (hact), (hz0), (hz1)⟩⟩
set_option maxHeartbeats 4000000 in
set_option maxRecDepth 100000 in
theorem P_back (l : Launch) (D : va_G) (cI cZ cS : ClassId) {x : Nat} {T : List Nat} {Ws : List (Nat × Nat)} {ll : Nat} {L : List Sg} {li : Nat} {ye : Int32} {br : Int32} {As : List SS} {sk : Nat} {s0 : SS} {s1 : SS} {sd : Int64} {n : Nat} {ws : va_W} {z : Int32} {z2 : Int32} {z3 : Int32} (h : CW cI cS x T Ws ll L li ye br As sk s0 s1 sd ws) (hk : OKS n T Ws L li As sk s0 s1) (hn : n ≤ 600)  : CO l D (TY cI cZ cS) yX4_back cX4_back 4 (some .int) 2 43 0 0 [.ref x, .int z, .int z2, .int z3] ws (σ := LW ws) (fun _ => some (.int (backI Ws.length (stF Ws) li z z2 z3))) (fun u => u.1) (fun u => CW cI cS x T Ws ll L li ye br As sk s0 s1 sd u.1) := by
  obtain ⟨ax, aw, an, aa, a0, a1, ar, aq, al, am, ta, wd, wt, nc, rw, c0, c1, rc, qc, jtx, jdp, jst, jnw, j0, j1, jtr, jla, jwf, jhf, rf, n0, l0, n1, l1, rn, rl, qn, ql, y0, b0, y1, b1, ry, rb, qy, qb, ra, ca, nn, pl, pm, yy, bb, ff, h⟩ := h
  obtain ⟨rfl, hT, hDw, hTw, hf, hr, hact, hz0, hz1⟩ := h
  obtain ⟨hO, hWW, hv, hli, hA12, hAs, hsk, hs0, hs1⟩ := hk
  have hW := hWW.1
  have hst2 : ∀ w, w < Ws.length → stF Ws w ≤ 2 := fun w q => (hWW.2 w q).2.2
  have hdp2 : ∀ w, w < Ws.length → 1 ≤ dpF Ws w ∧ dpF Ws w ≤ 9 := fun w q => ⟨(hWW.2 w q).1, (hWW.2 w q).2.1⟩
  have hp16 : 2 ^ Ws.length ≤ 16 := (Nat.pow_le_pow_right (by omega) hW : 2 ^ Ws.length ≤ 2 ^ 4)
  have hl16 : li < 16 := by omega
  have hl : li < 256 := by omega
  have h8 := hv.1
  refine CO.lift (p_back l D cI cZ cS x ax aw an aa a0 a1 sk ll ar aq al am sd wd wt Ws.length jdp jst (dpF Ws) (stF Ws) n nc L li ye br jnw z z2 z3 (hW) (hl) (hTw) (hst2)) [0, 3, 5, 6, 7] (by decide) rfl (fun _ => rfl) (fun u hu => ?_)
  exact ⟨rfl, ax, aw, an, aa, a0, a1, ar, aq, al, am, ta, wd, wt, nc, rw, c0, c1, rc, qc, jtx, jdp, jst, jnw, j0, j1, jtr, jla, jwf, jhf, rf, n0, l0, n1, l1, rn, rl, qn, ql, y0, b0, y1, b1, ry, rb, qy, qb, ra, ca, nn, pl, pm, yy, bb, ff, ⟨(by simp only [setL, List.cons_append, List.nil_append, List.set_cons_zero, List.set_cons_succ] <;> rfl), (hT), (hDw), (hTw), (hf), (hr), (hact), (hz0), (hz1)⟩⟩
set_option maxHeartbeats 4000000 in
set_option maxRecDepth 100000 in
theorem P_lords (l : Launch) (D : va_G) (cI cZ cS : ClassId) {x : Nat} {T : List Nat} {Ws : List (Nat × Nat)} {ll : Nat} {L : List Sg} {li : Nat} {ye : Int32} {br : Int32} {As : List SS} {sk : Nat} {s0 : SS} {s1 : SS} {sd : Int64} {n : Nat} {ws : va_W} {z : Int32} {z2 : Int32} (h : CW cI cS x T Ws ll L li ye br As sk s0 s1 sd ws) (hk : OKS n T Ws L li As sk s0 s1) (hn : n ≤ 600)  : CO l D (TY cI cZ cS) yX4_lords cX4_lords 7 (some .int) 7 159 0 0 [.ref x, .int z, .int z2] ws (σ := LW ws) (fun _ => some (.int (lordsI ll (stF Ws) Ws.length li L z z2))) (fun u => u.1) (fun u => CW cI cS x T Ws ll L li ye br As sk s0 s1 sd u.1) := by
  obtain ⟨ax, aw, an, aa, a0, a1, ar, aq, al, am, ta, wd, wt, nc, rw, c0, c1, rc, qc, jtx, jdp, jst, jnw, j0, j1, jtr, jla, jwf, jhf, rf, n0, l0, n1, l1, rn, rl, qn, ql, y0, b0, y1, b1, ry, rb, qy, qb, ra, ca, nn, pl, pm, yy, bb, ff, h⟩ := h
  obtain ⟨rfl, hT, hDw, hTw, hf, hr, hact, hz0, hz1⟩ := h
  obtain ⟨hO, hWW, hv, hli, hA12, hAs, hsk, hs0, hs1⟩ := hk
  have hW := hWW.1
  have hst2 : ∀ w, w < Ws.length → stF Ws w ≤ 2 := fun w q => (hWW.2 w q).2.2
  have hdp2 : ∀ w, w < Ws.length → 1 ≤ dpF Ws w ∧ dpF Ws w ≤ 9 := fun w q => ⟨(hWW.2 w q).1, (hWW.2 w q).2.1⟩
  have hp16 : 2 ^ Ws.length ≤ 16 := (Nat.pow_le_pow_right (by omega) hW : 2 ^ Ws.length ≤ 2 ^ 4)
  have hl16 : li < 16 := by omega
  have hl : li < 256 := by omega
  have h8 := hv.1
  refine CO.lift (p_lords l D cI cZ cS x ax aw an aa a0 a1 sk ll ar aq al am sd wd wt Ws.length jdp jst (dpF Ws) (stF Ws) n nc L li ye br jnw rc rn rl ry rb jtr jwf jhf z z2 (hf) (hv) (hW) (hTw) (hst2) (hl16)) [0, 3, 5, 6, 7, 14, 15, 18, 19] (by decide) rfl (fun _ => rfl) (fun u hu => ?_)
  obtain ⟨un, ul, uy, ub, uf, g, g2⟩ := u
  exact ⟨rfl, ax, aw, an, aa, a0, a1, ar, aq, al, am, ta, wd, wt, nc, rw, c0, c1, rc, qc, jtx, jdp, jst, jnw, j0, j1, uf, jla, g, g2, rf, n0, l0, n1, l1, un, ul, qn, ql, y0, b0, y1, b1, uy, ub, qy, qb, ra, ca, nn, pl, pm, yy, bb, ff, ⟨(by simp only [setL, List.cons_append, List.nil_append, List.set_cons_zero, List.set_cons_succ] <;> rfl), (hT), (hDw), (hTw), (hf), (hr), (hact), (hz0), (hz1)⟩⟩
set_option maxHeartbeats 4000000 in
set_option maxRecDepth 100000 in
theorem P_rain (l : Launch) (D : va_G) (cI cZ cS : ClassId) {x : Nat} {T : List Nat} {Ws : List (Nat × Nat)} {ll : Nat} {L : List Sg} {li : Nat} {ye : Int32} {br : Int32} {As : List SS} {sk : Nat} {s0 : SS} {s1 : SS} {sd : Int64} {n : Nat} {ws : va_W} {z : Int32} {z2 : Int32} {up : Bool} (h : CW cI cS x T Ws ll L li ye br As sk s0 s1 sd ws) (hk : OKS n T Ws L li As sk s0 s1) (hn : n ≤ 600)  : CO l D (TY cI cZ cS) yX4_rain cX4_rain 8 (some .int) 3 68 0 0 [.ref x, .int z, .int z2, .int (bz up)] ws (σ := LW ws) (fun _ => some (.int (rainI Ws.length li L z z2 up))) (fun u => u.1) (fun u => CW cI cS x T Ws ll L li ye br As sk s0 s1 sd u.1) := by
  obtain ⟨ax, aw, an, aa, a0, a1, ar, aq, al, am, ta, wd, wt, nc, rw, c0, c1, rc, qc, jtx, jdp, jst, jnw, j0, j1, jtr, jla, jwf, jhf, rf, n0, l0, n1, l1, rn, rl, qn, ql, y0, b0, y1, b1, ry, rb, qy, qb, ra, ca, nn, pl, pm, yy, bb, ff, h⟩ := h
  obtain ⟨rfl, hT, hDw, hTw, hf, hr, hact, hz0, hz1⟩ := h
  obtain ⟨hO, hWW, hv, hli, hA12, hAs, hsk, hs0, hs1⟩ := hk
  have hW := hWW.1
  have hst2 : ∀ w, w < Ws.length → stF Ws w ≤ 2 := fun w q => (hWW.2 w q).2.2
  have hdp2 : ∀ w, w < Ws.length → 1 ≤ dpF Ws w ∧ dpF Ws w ≤ 9 := fun w q => ⟨(hWW.2 w q).1, (hWW.2 w q).2.1⟩
  have hp16 : 2 ^ Ws.length ≤ 16 := (Nat.pow_le_pow_right (by omega) hW : 2 ^ Ws.length ≤ 2 ^ 4)
  have hl16 : li < 16 := by omega
  have hl : li < 256 := by omega
  have h8 := hv.1
  refine CO.lift (p_rain l D cI cZ cS x ax aw an aa a0 a1 sk ll ar aq al am sd nc L li ye br jnw wd wt Ws.length n z z2 up (hf) (hv) (hW) (hl)) [0, 3, 6, 7] (by decide) rfl (fun _ => rfl) (fun u hu => ?_)
  exact ⟨rfl, ax, aw, an, aa, a0, a1, ar, aq, al, am, ta, wd, wt, nc, rw, c0, c1, rc, qc, jtx, jdp, jst, jnw, j0, j1, jtr, jla, jwf, jhf, rf, n0, l0, n1, l1, rn, rl, qn, ql, y0, b0, y1, b1, ry, rb, qy, qb, ra, ca, nn, pl, pm, yy, bb, ff, ⟨(by simp only [setL, List.cons_append, List.nil_append, List.set_cons_zero, List.set_cons_succ] <;> rfl), (hT), (hDw), (hTw), (hf), (hr), (hact), (hz0), (hz1)⟩⟩
set_option maxHeartbeats 4000000 in
set_option maxRecDepth 100000 in
theorem P_seed (l : Launch) (D : va_G) (cI cZ cS : ClassId) {x : Nat} {T : List Nat} {Ws : List (Nat × Nat)} {ll : Nat} {L : List Sg} {li : Nat} {ye : Int32} {br : Int32} {As : List SS} {sk : Nat} {s0 : SS} {s1 : SS} {sd : Int64} {n : Nat} {ws : va_W} {v : Int64} (h : CW cI cS x T Ws ll L li ye br As sk s0 s1 sd ws) (hk : OKS n T Ws L li As sk s0 s1) (hn : n ≤ 600)  : CO l D (TY cI cZ cS) yX4_seed cX4_seed 5 (some .long) 0 0 0 0 [.ref x, .long v] ws (σ := LW ws) (fun _ => some (.long (sd))) (fun u => u.1) (fun u => CW cI cS x T Ws ll L li ye br As sk s0 s1 v u.1) := by
  obtain ⟨ax, aw, an, aa, a0, a1, ar, aq, al, am, ta, wd, wt, nc, rw, c0, c1, rc, qc, jtx, jdp, jst, jnw, j0, j1, jtr, jla, jwf, jhf, rf, n0, l0, n1, l1, rn, rl, qn, ql, y0, b0, y1, b1, ry, rb, qy, qb, ra, ca, nn, pl, pm, yy, bb, ff, h⟩ := h
  obtain ⟨rfl, hT, hDw, hTw, hf, hr, hact, hz0, hz1⟩ := h
  obtain ⟨hO, hWW, hv, hli, hA12, hAs, hsk, hs0, hs1⟩ := hk
  have hW := hWW.1
  have hst2 : ∀ w, w < Ws.length → stF Ws w ≤ 2 := fun w q => (hWW.2 w q).2.2
  have hdp2 : ∀ w, w < Ws.length → 1 ≤ dpF Ws w ∧ dpF Ws w ≤ 9 := fun w q => ⟨(hWW.2 w q).1, (hWW.2 w q).2.1⟩
  have hp16 : 2 ^ Ws.length ≤ 16 := (Nat.pow_le_pow_right (by omega) hW : 2 ^ Ws.length ≤ 2 ^ 4)
  have hl16 : li < 16 := by omega
  have hl : li < 256 := by omega
  have h8 := hv.1
  refine CO.lift (p_seed l D cI cZ cS x ax aw an aa a0 a1 sk ll ar aq al am sd v ) [0] (by decide) rfl (fun _ => rfl) (fun u hu => ?_)
  exact ⟨rfl, ax, aw, an, aa, a0, a1, ar, aq, al, am, ta, wd, wt, nc, rw, c0, c1, rc, qc, jtx, jdp, jst, jnw, j0, j1, jtr, jla, jwf, jhf, rf, n0, l0, n1, l1, rn, rl, qn, ql, y0, b0, y1, b1, ry, rb, qy, qb, ra, ca, nn, pl, pm, yy, bb, ff, ⟨(by simp only [setL, List.cons_append, List.nil_append, List.set_cons_zero, List.set_cons_succ] <;> rfl), (hT), (hDw), (hTw), (hf), (hr), (hact), (hz0), (hz1)⟩⟩
set_option maxHeartbeats 4000000 in
set_option maxRecDepth 100000 in
theorem P_rains (l : Launch) (D : va_G) (cI cZ cS : ClassId) {x : Nat} {T : List Nat} {Ws : List (Nat × Nat)} {ll : Nat} {L : List Sg} {li : Nat} {ye : Int32} {br : Int32} {As : List SS} {sk : Nat} {s0 : SS} {s1 : SS} {sd : Int64} {n : Nat} {ws : va_W} {z : Int32} {z2 : Int32} (h : CW cI cS x T Ws ll L li ye br As sk s0 s1 sd ws) (hk : OKS n T Ws L li As sk s0 s1) (hn : n ≤ 600)  : CO l D (TY cI cZ cS) yX4_rains cX4_rains 5 (some .int) 4 93 0 0 [.ref x, .int z, .int z2] ws (σ := LW ws) (fun _ => some (.int ((rainsI (stF Ws) Ws.length li L sd z z2).1))) (fun u => u.1) (fun u => CW cI cS x T Ws ll L li ye br As sk s0 s1 ((rainsI (stF Ws) Ws.length li L sd z z2).2) u.1) := by
  obtain ⟨ax, aw, an, aa, a0, a1, ar, aq, al, am, ta, wd, wt, nc, rw, c0, c1, rc, qc, jtx, jdp, jst, jnw, j0, j1, jtr, jla, jwf, jhf, rf, n0, l0, n1, l1, rn, rl, qn, ql, y0, b0, y1, b1, ry, rb, qy, qb, ra, ca, nn, pl, pm, yy, bb, ff, h⟩ := h
  obtain ⟨rfl, hT, hDw, hTw, hf, hr, hact, hz0, hz1⟩ := h
  obtain ⟨hO, hWW, hv, hli, hA12, hAs, hsk, hs0, hs1⟩ := hk
  have hW := hWW.1
  have hst2 : ∀ w, w < Ws.length → stF Ws w ≤ 2 := fun w q => (hWW.2 w q).2.2
  have hdp2 : ∀ w, w < Ws.length → 1 ≤ dpF Ws w ∧ dpF Ws w ≤ 9 := fun w q => ⟨(hWW.2 w q).1, (hWW.2 w q).2.1⟩
  have hp16 : 2 ^ Ws.length ≤ 16 := (Nat.pow_le_pow_right (by omega) hW : 2 ^ Ws.length ≤ 2 ^ 4)
  have hl16 : li < 16 := by omega
  have hl : li < 256 := by omega
  have h8 := hv.1
  refine CO.lift (p_rains l D cI cZ cS x ax aw an aa a0 a1 sk ll ar aq al am sd wd wt Ws.length jdp jst (dpF Ws) (stF Ws) n nc L li ye br jnw rc rn rl ry rb jtr z z2 (hf) (hv) (hW) (hTw) (hst2) (hl)) [0, 3, 5, 6, 7, 14, 15] (by decide) rfl (fun _ => rfl) (fun u hu => ?_)
  obtain ⟨un, ul, uy, ub, uf⟩ := u
  exact ⟨rfl, ax, aw, an, aa, a0, a1, ar, aq, al, am, ta, wd, wt, nc, rw, c0, c1, rc, qc, jtx, jdp, jst, jnw, j0, j1, uf, jla, jwf, jhf, rf, n0, l0, n1, l1, un, ul, qn, ql, y0, b0, y1, b1, uy, ub, qy, qb, ra, ca, nn, pl, pm, yy, bb, ff, ⟨(by simp only [setL, List.cons_append, List.nil_append, List.set_cons_zero, List.set_cons_succ] <;> rfl), (hT), (hDw), (hTw), (hf), (hr), (hact), (hz0), (hz1)⟩⟩
set_option maxHeartbeats 4000000 in
set_option maxRecDepth 100000 in
theorem P_keep0 (l : Launch) (D : va_G) (cI cZ cS : ClassId) {x : Nat} {T : List Nat} {Ws : List (Nat × Nat)} {ll : Nat} {L : List Sg} {li : Nat} {ye : Int32} {br : Int32} {As : List SS} {sk : Nat} {s0 : SS} {s1 : SS} {sd : Int64} {n : Nat} {ws : va_W} {z : Int32} (h : CW cI cS x T Ws ll L li ye br As sk s0 s1 sd ws) (hk : OKS n T Ws L li As sk s0 s1) (hn : n ≤ 600) (hz : ¬ inB z (nI 0) (nI 1) = true) : CO l D (TY cI cZ cS) yX4_keep cX4_keep 2 (some .int) 1 22 0 0 [.ref x, .int z] ws (σ := LW ws) (fun _ => some (.int ((-1)))) (fun u => u.1) (fun u => CW cI cS x T Ws ll L li ye br As sk s0 s1 sd u.1) := by
  obtain ⟨ax, aw, an, aa, a0, a1, ar, aq, al, am, ta, wd, wt, nc, rw, c0, c1, rc, qc, jtx, jdp, jst, jnw, j0, j1, jtr, jla, jwf, jhf, rf, n0, l0, n1, l1, rn, rl, qn, ql, y0, b0, y1, b1, ry, rb, qy, qb, ra, ca, nn, pl, pm, yy, bb, ff, h⟩ := h
  obtain ⟨rfl, hT, hDw, hTw, hf, hr, hact, hz0, hz1⟩ := h
  obtain ⟨hO, hWW, hv, hli, hA12, hAs, hsk, hs0, hs1⟩ := hk
  have hW := hWW.1
  have hst2 : ∀ w, w < Ws.length → stF Ws w ≤ 2 := fun w q => (hWW.2 w q).2.2
  have hdp2 : ∀ w, w < Ws.length → 1 ≤ dpF Ws w ∧ dpF Ws w ≤ 9 := fun w q => ⟨(hWW.2 w q).1, (hWW.2 w q).2.1⟩
  have hp16 : 2 ^ Ws.length ≤ 16 := (Nat.pow_le_pow_right (by omega) hW : 2 ^ Ws.length ≤ 2 ^ 4)
  have hl16 : li < 16 := by omega
  have hl : li < 256 := by omega
  have h8 := hv.1
  refine CO.lift (p_keep0 l D cI cZ cS x ax aw an aa a0 a1 sk ll ar aq al am sd z (hz)) [0] (by decide) rfl (fun _ => rfl) (fun u hu => ?_)
  exact ⟨rfl, ax, aw, an, aa, a0, a1, ar, aq, al, am, ta, wd, wt, nc, rw, c0, c1, rc, qc, jtx, jdp, jst, jnw, j0, j1, jtr, jla, jwf, jhf, rf, n0, l0, n1, l1, rn, rl, qn, ql, y0, b0, y1, b1, ry, rb, qy, qb, ra, ca, nn, pl, pm, yy, bb, ff, ⟨(by simp only [setL, List.cons_append, List.nil_append, List.set_cons_zero, List.set_cons_succ] <;> rfl), (hT), (hDw), (hTw), (hf), (hr), (hact), (hz0), (hz1)⟩⟩
set_option maxHeartbeats 4000000 in
set_option maxRecDepth 100000 in
theorem P_keepA (l : Launch) (D : va_G) (cI cZ cS : ClassId) {x : Nat} {T : List Nat} {Ws : List (Nat × Nat)} {ll : Nat} {L : List Sg} {li : Nat} {ye : Int32} {br : Int32} {As : List SS} {sk : Nat} {s0 : SS} {s1 : SS} {sd : Int64} {n : Nat} {ws : va_W}  (h : CW cI cS x T Ws ll L li ye br As sk s0 s1 sd ws) (hk : OKS n T Ws L li As sk s0 s1) (hn : n ≤ 600)  : CO l D (TY cI cZ cS) yX4_keep cX4_keep 2 (some .int) 2 37 0 0 [.ref x, .int (nI 0)] ws (σ := LW ws) (fun _ => some (.int (nI L.length))) (fun u => u.1) (fun u => CW cI cS x T Ws ll L li ye br As (sk ||| 1) (L, li, ye, br) s1 sd u.1) := by
  obtain ⟨ax, aw, an, aa, a0, a1, ar, aq, al, am, ta, wd, wt, nc, rw, c0, c1, rc, qc, jtx, jdp, jst, jnw, j0, j1, jtr, jla, jwf, jhf, rf, n0, l0, n1, l1, rn, rl, qn, ql, y0, b0, y1, b1, ry, rb, qy, qb, ra, ca, nn, pl, pm, yy, bb, ff, h⟩ := h
  obtain ⟨rfl, hT, hDw, hTw, hf, hr, hact, hz0, hz1⟩ := h
  obtain ⟨hO, hWW, hv, hli, hA12, hAs, hsk, hs0, hs1⟩ := hk
  have hW := hWW.1
  have hst2 : ∀ w, w < Ws.length → stF Ws w ≤ 2 := fun w q => (hWW.2 w q).2.2
  have hdp2 : ∀ w, w < Ws.length → 1 ≤ dpF Ws w ∧ dpF Ws w ≤ 9 := fun w q => ⟨(hWW.2 w q).1, (hWW.2 w q).2.1⟩
  have hp16 : 2 ^ Ws.length ≤ 16 := (Nat.pow_le_pow_right (by omega) hW : 2 ^ Ws.length ≤ 2 ^ 4)
  have hl16 : li < 16 := by omega
  have hl : li < 256 := by omega
  have h8 := hv.1
  refine CO.lift (p_keepA l D cI cZ cS x ax aw an aa a0 a1 sk ll ar aq al am sd nc L li ye br jnw c0 n0 l0 y0 b0 j0 (hf) (h8)) [0, 6, 7, 10, 11] (by decide) rfl (fun _ => rfl) (fun g hu => ?_)
  have hg := hu
  exact ⟨rfl, ax, aw, an, aa, a0, a1, ar, aq, al, am, ta, wd, wt, nc, rw, c0, c1, rc, qc, jtx, jdp, jst, jnw, g, j1, jtr, jla, jwf, jhf, rf, L.length, li, n1, l1, rn, rl, qn, ql, ye, br, y1, b1, ry, rb, qy, qb, ra, ca, nn, pl, pm, yy, bb, ff, ⟨(by simp only [setL, List.cons_append, List.nil_append, List.set_cons_zero, List.set_cons_succ] <;> rfl), (hT), (hDw), (hTw), (hf), (hr), (hact), (fun _ => ⟨rfl, rfl, rfl, rfl, hg⟩), (fun q => hz1 (by rw [Nat.testBit_or, show Nat.testBit 1 1 = false from by decide, Bool.or_false] at q; exact q))⟩⟩
set_option maxHeartbeats 4000000 in
set_option maxRecDepth 100000 in
theorem P_keepB (l : Launch) (D : va_G) (cI cZ cS : ClassId) {x : Nat} {T : List Nat} {Ws : List (Nat × Nat)} {ll : Nat} {L : List Sg} {li : Nat} {ye : Int32} {br : Int32} {As : List SS} {sk : Nat} {s0 : SS} {s1 : SS} {sd : Int64} {n : Nat} {ws : va_W}  (h : CW cI cS x T Ws ll L li ye br As sk s0 s1 sd ws) (hk : OKS n T Ws L li As sk s0 s1) (hn : n ≤ 600)  : CO l D (TY cI cZ cS) yX4_keep cX4_keep 2 (some .int) 2 37 0 0 [.ref x, .int (nI 1)] ws (σ := LW ws) (fun _ => some (.int (nI L.length))) (fun u => u.1) (fun u => CW cI cS x T Ws ll L li ye br As (sk ||| 2) s0 (L, li, ye, br) sd u.1) := by
  obtain ⟨ax, aw, an, aa, a0, a1, ar, aq, al, am, ta, wd, wt, nc, rw, c0, c1, rc, qc, jtx, jdp, jst, jnw, j0, j1, jtr, jla, jwf, jhf, rf, n0, l0, n1, l1, rn, rl, qn, ql, y0, b0, y1, b1, ry, rb, qy, qb, ra, ca, nn, pl, pm, yy, bb, ff, h⟩ := h
  obtain ⟨rfl, hT, hDw, hTw, hf, hr, hact, hz0, hz1⟩ := h
  obtain ⟨hO, hWW, hv, hli, hA12, hAs, hsk, hs0, hs1⟩ := hk
  have hW := hWW.1
  have hst2 : ∀ w, w < Ws.length → stF Ws w ≤ 2 := fun w q => (hWW.2 w q).2.2
  have hdp2 : ∀ w, w < Ws.length → 1 ≤ dpF Ws w ∧ dpF Ws w ≤ 9 := fun w q => ⟨(hWW.2 w q).1, (hWW.2 w q).2.1⟩
  have hp16 : 2 ^ Ws.length ≤ 16 := (Nat.pow_le_pow_right (by omega) hW : 2 ^ Ws.length ≤ 2 ^ 4)
  have hl16 : li < 16 := by omega
  have hl : li < 256 := by omega
  have h8 := hv.1
  refine CO.lift (p_keepB l D cI cZ cS x ax aw an aa a0 a1 sk ll ar aq al am sd nc L li ye br jnw c1 n1 l1 y1 b1 j1 (hf) (h8)) [0, 6, 7, 12, 13] (by decide) rfl (fun _ => rfl) (fun g hu => ?_)
  have hg := hu
  exact ⟨rfl, ax, aw, an, aa, a0, a1, ar, aq, al, am, ta, wd, wt, nc, rw, c0, c1, rc, qc, jtx, jdp, jst, jnw, j0, g, jtr, jla, jwf, jhf, rf, n0, l0, L.length, li, rn, rl, qn, ql, y0, b0, ye, br, ry, rb, qy, qb, ra, ca, nn, pl, pm, yy, bb, ff, ⟨(by simp only [setL, List.cons_append, List.nil_append, List.set_cons_zero, List.set_cons_succ] <;> rfl), (hT), (hDw), (hTw), (hf), (hr), (hact), (fun q => hz0 (by rw [Nat.testBit_or, show Nat.testBit 2 0 = false from by decide, Bool.or_false] at q; exact q)), (fun _ => ⟨rfl, rfl, rfl, rfl, hg⟩)⟩⟩
set_option maxHeartbeats 4000000 in
set_option maxRecDepth 100000 in
theorem P_again0 (l : Launch) (D : va_G) (cI cZ cS : ClassId) {x : Nat} {T : List Nat} {Ws : List (Nat × Nat)} {ll : Nat} {L : List Sg} {li : Nat} {ye : Int32} {br : Int32} {As : List SS} {sk : Nat} {s0 : SS} {s1 : SS} {sd : Int64} {n : Nat} {ws : va_W} {z : Int32} (h : CW cI cS x T Ws ll L li ye br As sk s0 s1 sd ws) (hk : OKS n T Ws L li As sk s0 s1) (hn : n ≤ 600) (hz : ¬ inB z (nI 0) (nI 1) = true) : CO l D (TY cI cZ cS) yX4_again cX4_again 2 (some .int) 1 22 0 0 [.ref x, .int z] ws (σ := LW ws) (fun _ => some (.int ((-1)))) (fun u => u.1) (fun u => CW cI cS x T Ws ll L li ye br As sk s0 s1 sd u.1) := by
  obtain ⟨ax, aw, an, aa, a0, a1, ar, aq, al, am, ta, wd, wt, nc, rw, c0, c1, rc, qc, jtx, jdp, jst, jnw, j0, j1, jtr, jla, jwf, jhf, rf, n0, l0, n1, l1, rn, rl, qn, ql, y0, b0, y1, b1, ry, rb, qy, qb, ra, ca, nn, pl, pm, yy, bb, ff, h⟩ := h
  obtain ⟨rfl, hT, hDw, hTw, hf, hr, hact, hz0, hz1⟩ := h
  obtain ⟨hO, hWW, hv, hli, hA12, hAs, hsk, hs0, hs1⟩ := hk
  have hW := hWW.1
  have hst2 : ∀ w, w < Ws.length → stF Ws w ≤ 2 := fun w q => (hWW.2 w q).2.2
  have hdp2 : ∀ w, w < Ws.length → 1 ≤ dpF Ws w ∧ dpF Ws w ≤ 9 := fun w q => ⟨(hWW.2 w q).1, (hWW.2 w q).2.1⟩
  have hp16 : 2 ^ Ws.length ≤ 16 := (Nat.pow_le_pow_right (by omega) hW : 2 ^ Ws.length ≤ 2 ^ 4)
  have hl16 : li < 16 := by omega
  have hl : li < 256 := by omega
  have h8 := hv.1
  refine CO.lift (p_again0 l D cI cZ cS x ax aw an aa a0 a1 sk ll ar aq al am sd z (hz)) [0] (by decide) rfl (fun _ => rfl) (fun u hu => ?_)
  exact ⟨rfl, ax, aw, an, aa, a0, a1, ar, aq, al, am, ta, wd, wt, nc, rw, c0, c1, rc, qc, jtx, jdp, jst, jnw, j0, j1, jtr, jla, jwf, jhf, rf, n0, l0, n1, l1, rn, rl, qn, ql, y0, b0, y1, b1, ry, rb, qy, qb, ra, ca, nn, pl, pm, yy, bb, ff, ⟨(by simp only [setL, List.cons_append, List.nil_append, List.set_cons_zero, List.set_cons_succ] <;> rfl), (hT), (hDw), (hTw), (hf), (hr), (hact), (hz0), (hz1)⟩⟩
set_option maxHeartbeats 4000000 in
set_option maxRecDepth 100000 in
theorem P_againNA (l : Launch) (D : va_G) (cI cZ cS : ClassId) {x : Nat} {T : List Nat} {Ws : List (Nat × Nat)} {ll : Nat} {L : List Sg} {li : Nat} {ye : Int32} {br : Int32} {As : List SS} {sk : Nat} {s0 : SS} {s1 : SS} {sd : Int64} {n : Nat} {ws : va_W}  (h : CW cI cS x T Ws ll L li ye br As sk s0 s1 sd ws) (hk : OKS n T Ws L li As sk s0 s1) (hn : n ≤ 600) (hb : sk.testBit 0 = false) : CO l D (TY cI cZ cS) yX4_again cX4_again 2 (some .int) 1 22 0 0 [.ref x, .int (nI 0)] ws (σ := LW ws) (fun _ => some (.int ((-3)))) (fun u => u.1) (fun u => CW cI cS x T Ws ll L li ye br As sk s0 s1 sd u.1) := by
  obtain ⟨ax, aw, an, aa, a0, a1, ar, aq, al, am, ta, wd, wt, nc, rw, c0, c1, rc, qc, jtx, jdp, jst, jnw, j0, j1, jtr, jla, jwf, jhf, rf, n0, l0, n1, l1, rn, rl, qn, ql, y0, b0, y1, b1, ry, rb, qy, qb, ra, ca, nn, pl, pm, yy, bb, ff, h⟩ := h
  obtain ⟨rfl, hT, hDw, hTw, hf, hr, hact, hz0, hz1⟩ := h
  obtain ⟨hO, hWW, hv, hli, hA12, hAs, hsk, hs0, hs1⟩ := hk
  have hW := hWW.1
  have hst2 : ∀ w, w < Ws.length → stF Ws w ≤ 2 := fun w q => (hWW.2 w q).2.2
  have hdp2 : ∀ w, w < Ws.length → 1 ≤ dpF Ws w ∧ dpF Ws w ≤ 9 := fun w q => ⟨(hWW.2 w q).1, (hWW.2 w q).2.1⟩
  have hp16 : 2 ^ Ws.length ≤ 16 := (Nat.pow_le_pow_right (by omega) hW : 2 ^ Ws.length ≤ 2 ^ 4)
  have hl16 : li < 16 := by omega
  have hl : li < 256 := by omega
  have h8 := hv.1
  refine CO.lift (p_againNA l D cI cZ cS x ax aw an aa a0 a1 sk ll ar aq al am sd (by omega) (hb)) [0] (by decide) rfl (fun _ => rfl) (fun u hu => ?_)
  exact ⟨rfl, ax, aw, an, aa, a0, a1, ar, aq, al, am, ta, wd, wt, nc, rw, c0, c1, rc, qc, jtx, jdp, jst, jnw, j0, j1, jtr, jla, jwf, jhf, rf, n0, l0, n1, l1, rn, rl, qn, ql, y0, b0, y1, b1, ry, rb, qy, qb, ra, ca, nn, pl, pm, yy, bb, ff, ⟨(by simp only [setL, List.cons_append, List.nil_append, List.set_cons_zero, List.set_cons_succ] <;> rfl), (hT), (hDw), (hTw), (hf), (hr), (hact), (hz0), (hz1)⟩⟩
set_option maxHeartbeats 4000000 in
set_option maxRecDepth 100000 in
theorem P_againA (l : Launch) (D : va_G) (cI cZ cS : ClassId) {x : Nat} {T : List Nat} {Ws : List (Nat × Nat)} {ll : Nat} {L : List Sg} {li : Nat} {ye : Int32} {br : Int32} {As : List SS} {sk : Nat} {s0 : SS} {s1 : SS} {sd : Int64} {n : Nat} {ws : va_W}  (h : CW cI cS x T Ws ll L li ye br As sk s0 s1 sd ws) (hk : OKS n T Ws L li As sk s0 s1) (hn : n ≤ 600) (hb : sk.testBit 0 = true) : CO l D (TY cI cZ cS) yX4_again cX4_again 2 (some .int) 2 37 0 0 [.ref x, .int (nI 0)] ws (σ := LW ws) (fun _ => some (.int (nI s0.1.length))) (fun u => u.1) (fun u => CW cI cS x T Ws ll s0.1 s0.2.1 s0.2.2.1 s0.2.2.2 ([]) sk s0 s1 sd u.1) := by
  obtain ⟨ax, aw, an, aa, a0, a1, ar, aq, al, am, ta, wd, wt, nc, rw, c0, c1, rc, qc, jtx, jdp, jst, jnw, j0, j1, jtr, jla, jwf, jhf, rf, n0, l0, n1, l1, rn, rl, qn, ql, y0, b0, y1, b1, ry, rb, qy, qb, ra, ca, nn, pl, pm, yy, bb, ff, h⟩ := h
  obtain ⟨rfl, hT, hDw, hTw, hf, hr, hact, hz0, hz1⟩ := h
  obtain ⟨hO, hWW, hv, hli, hA12, hAs, hsk, hs0, hs1⟩ := hk
  have hW := hWW.1
  have hst2 : ∀ w, w < Ws.length → stF Ws w ≤ 2 := fun w q => (hWW.2 w q).2.2
  have hdp2 : ∀ w, w < Ws.length → 1 ≤ dpF Ws w ∧ dpF Ws w ≤ 9 := fun w q => ⟨(hWW.2 w q).1, (hWW.2 w q).2.1⟩
  have hp16 : 2 ^ Ws.length ≤ 16 := (Nat.pow_le_pow_right (by omega) hW : 2 ^ Ws.length ≤ 2 ^ 4)
  have hl16 : li < 16 := by omega
  have hl : li < 256 := by omega
  have h8 := hv.1
  obtain ⟨rfl, rfl, rfl, rfl, hf0⟩ := hz0 hb
  refine CO.lift (p_againA l D cI cZ cS x ax aw an aa a0 a1 sk ll ar aq al am sd nc L.length li ye br jnw c0 s0.1 s0.2.1 s0.2.2.1 s0.2.2.2 j0 rw As.length (hf0) ((hs0 hb).1.1) (by omega) (hb)) [0, 6, 7, 10, 11, 8] (by decide) rfl (fun _ => rfl) (fun g hu => ?_)
  have hg := hu
  exact ⟨rfl, ax, aw, an, aa, a0, a1, ar, aq, al, am, ta, wd, wt, nc, rw, c0, c1, rc, qc, jtx, jdp, jst, g, j0, j1, jtr, jla, jwf, jhf, rf, s0.1.length, s0.2.1, n1, l1, rn, rl, qn, ql, s0.2.2.1, s0.2.2.2, y1, b1, ry, rb, qy, qb, ra, ca, nn, pl, pm, yy, bb, ff, ⟨(by simp only [setL, List.cons_append, List.nil_append, List.set_cons_zero, List.set_cons_succ] <;> rfl), (hT), (hDw), (hTw), (hg), (hr), (⟨Nat.zero_le _, hact.2.1, hact.2.2.1, fun k hk => absurd hk (Nat.not_lt_zero k)⟩), (fun _ => ⟨rfl, rfl, rfl, rfl, hf0⟩), (hz1)⟩⟩
set_option maxHeartbeats 4000000 in
set_option maxRecDepth 100000 in
theorem P_againNB (l : Launch) (D : va_G) (cI cZ cS : ClassId) {x : Nat} {T : List Nat} {Ws : List (Nat × Nat)} {ll : Nat} {L : List Sg} {li : Nat} {ye : Int32} {br : Int32} {As : List SS} {sk : Nat} {s0 : SS} {s1 : SS} {sd : Int64} {n : Nat} {ws : va_W}  (h : CW cI cS x T Ws ll L li ye br As sk s0 s1 sd ws) (hk : OKS n T Ws L li As sk s0 s1) (hn : n ≤ 600) (hb : sk.testBit 1 = false) : CO l D (TY cI cZ cS) yX4_again cX4_again 2 (some .int) 1 22 0 0 [.ref x, .int (nI 1)] ws (σ := LW ws) (fun _ => some (.int ((-3)))) (fun u => u.1) (fun u => CW cI cS x T Ws ll L li ye br As sk s0 s1 sd u.1) := by
  obtain ⟨ax, aw, an, aa, a0, a1, ar, aq, al, am, ta, wd, wt, nc, rw, c0, c1, rc, qc, jtx, jdp, jst, jnw, j0, j1, jtr, jla, jwf, jhf, rf, n0, l0, n1, l1, rn, rl, qn, ql, y0, b0, y1, b1, ry, rb, qy, qb, ra, ca, nn, pl, pm, yy, bb, ff, h⟩ := h
  obtain ⟨rfl, hT, hDw, hTw, hf, hr, hact, hz0, hz1⟩ := h
  obtain ⟨hO, hWW, hv, hli, hA12, hAs, hsk, hs0, hs1⟩ := hk
  have hW := hWW.1
  have hst2 : ∀ w, w < Ws.length → stF Ws w ≤ 2 := fun w q => (hWW.2 w q).2.2
  have hdp2 : ∀ w, w < Ws.length → 1 ≤ dpF Ws w ∧ dpF Ws w ≤ 9 := fun w q => ⟨(hWW.2 w q).1, (hWW.2 w q).2.1⟩
  have hp16 : 2 ^ Ws.length ≤ 16 := (Nat.pow_le_pow_right (by omega) hW : 2 ^ Ws.length ≤ 2 ^ 4)
  have hl16 : li < 16 := by omega
  have hl : li < 256 := by omega
  have h8 := hv.1
  refine CO.lift (p_againNB l D cI cZ cS x ax aw an aa a0 a1 sk ll ar aq al am sd (by omega) (hb)) [0] (by decide) rfl (fun _ => rfl) (fun u hu => ?_)
  exact ⟨rfl, ax, aw, an, aa, a0, a1, ar, aq, al, am, ta, wd, wt, nc, rw, c0, c1, rc, qc, jtx, jdp, jst, jnw, j0, j1, jtr, jla, jwf, jhf, rf, n0, l0, n1, l1, rn, rl, qn, ql, y0, b0, y1, b1, ry, rb, qy, qb, ra, ca, nn, pl, pm, yy, bb, ff, ⟨(by simp only [setL, List.cons_append, List.nil_append, List.set_cons_zero, List.set_cons_succ] <;> rfl), (hT), (hDw), (hTw), (hf), (hr), (hact), (hz0), (hz1)⟩⟩
set_option maxHeartbeats 4000000 in
set_option maxRecDepth 100000 in
theorem P_againB (l : Launch) (D : va_G) (cI cZ cS : ClassId) {x : Nat} {T : List Nat} {Ws : List (Nat × Nat)} {ll : Nat} {L : List Sg} {li : Nat} {ye : Int32} {br : Int32} {As : List SS} {sk : Nat} {s0 : SS} {s1 : SS} {sd : Int64} {n : Nat} {ws : va_W}  (h : CW cI cS x T Ws ll L li ye br As sk s0 s1 sd ws) (hk : OKS n T Ws L li As sk s0 s1) (hn : n ≤ 600) (hb : sk.testBit 1 = true) : CO l D (TY cI cZ cS) yX4_again cX4_again 2 (some .int) 2 37 0 0 [.ref x, .int (nI 1)] ws (σ := LW ws) (fun _ => some (.int (nI s1.1.length))) (fun u => u.1) (fun u => CW cI cS x T Ws ll s1.1 s1.2.1 s1.2.2.1 s1.2.2.2 ([]) sk s0 s1 sd u.1) := by
  obtain ⟨ax, aw, an, aa, a0, a1, ar, aq, al, am, ta, wd, wt, nc, rw, c0, c1, rc, qc, jtx, jdp, jst, jnw, j0, j1, jtr, jla, jwf, jhf, rf, n0, l0, n1, l1, rn, rl, qn, ql, y0, b0, y1, b1, ry, rb, qy, qb, ra, ca, nn, pl, pm, yy, bb, ff, h⟩ := h
  obtain ⟨rfl, hT, hDw, hTw, hf, hr, hact, hz0, hz1⟩ := h
  obtain ⟨hO, hWW, hv, hli, hA12, hAs, hsk, hs0, hs1⟩ := hk
  have hW := hWW.1
  have hst2 : ∀ w, w < Ws.length → stF Ws w ≤ 2 := fun w q => (hWW.2 w q).2.2
  have hdp2 : ∀ w, w < Ws.length → 1 ≤ dpF Ws w ∧ dpF Ws w ≤ 9 := fun w q => ⟨(hWW.2 w q).1, (hWW.2 w q).2.1⟩
  have hp16 : 2 ^ Ws.length ≤ 16 := (Nat.pow_le_pow_right (by omega) hW : 2 ^ Ws.length ≤ 2 ^ 4)
  have hl16 : li < 16 := by omega
  have hl : li < 256 := by omega
  have h8 := hv.1
  obtain ⟨rfl, rfl, rfl, rfl, hf0⟩ := hz1 hb
  refine CO.lift (p_againB l D cI cZ cS x ax aw an aa a0 a1 sk ll ar aq al am sd nc L.length li ye br jnw c1 s1.1 s1.2.1 s1.2.2.1 s1.2.2.2 j1 rw As.length (hf0) ((hs1 hb).1.1) (by omega) (hb)) [0, 6, 7, 12, 13, 8] (by decide) rfl (fun _ => rfl) (fun g hu => ?_)
  have hg := hu
  exact ⟨rfl, ax, aw, an, aa, a0, a1, ar, aq, al, am, ta, wd, wt, nc, rw, c0, c1, rc, qc, jtx, jdp, jst, g, j0, j1, jtr, jla, jwf, jhf, rf, n0, l0, s1.1.length, s1.2.1, rn, rl, qn, ql, y0, b0, s1.2.2.1, s1.2.2.2, ry, rb, qy, qb, ra, ca, nn, pl, pm, yy, bb, ff, ⟨(by simp only [setL, List.cons_append, List.nil_append, List.set_cons_zero, List.set_cons_succ] <;> rfl), (hT), (hDw), (hTw), (hg), (hr), (⟨Nat.zero_le _, hact.2.1, hact.2.2.1, fun k hk => absurd hk (Nat.not_lt_zero k)⟩), (hz0), (fun _ => ⟨rfl, rfl, rfl, rfl, hf0⟩)⟩⟩
