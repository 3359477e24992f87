set_option maxHeartbeats 4000000 in
set_option maxRecDepth 100000 in
theorem E_write0 (l : Launch) (D : va_G) (cI cZ cS : ClassId) {y : Nat} {T : List Nat} {Ws : List (Nat × Nat)} {ll : Nat} {L : List Sg} {li : Nat} {ye : Int32} {br : Int32} {As : List SS} {sk : Nat} {s0 : SS} {s1 : SS} {sd : Int64} {n : Nat} {ws : va_W} {z : Int32} (h : MW cI cZ y T Ws ll L li ye br As sk s0 s1 sd ws) (hk : OKS n T Ws L li As sk s0 s1) (hn : n ≤ 600) (hz : ¬ inB z (nI 0) (nI 255) = true) : CO l D (TY cI cZ cS) yX5_write cX5_write 2 (some .int) 1 25 0 0 [.ref y, .int z] ws (σ := LW ws) (fun _ => some (.int (wrC T z))) (fun u => u.1) (fun u => MW cI cZ y T Ws ll L li ye br As sk s0 s1 sd u.1) := by
  obtain ⟨zt, mt, md, ms, mrd, mrs, mrp, mp, mb, mk, mi, m1, m2, m3, ml, mf, mw, mn, pl, rW, ktx, kdp, kst, krd, krs, krp, kpg, kbk, kkp, kik, kon, ktw, kth, klo, kfa, kwo, knx, h⟩ := h
  obtain ⟨rfl, hT, hDw, hTw, hg, hb, hk0, hk1, hp0, hp1⟩ := h
  obtain ⟨hO, hWW, hv, hli, hA12, hAs, hsk, hs0, hs1⟩ := hk
  have hW := hWW.1
  have hst2 : ∀ w, w < Ws.length → stF Ws w ≤ 2 := fun w q => (hWW.2 w q).2.2
  have hdp2 : ∀ w, w < Ws.length → 1 ≤ dpF Ws w ∧ dpF Ws w ≤ 9 := fun w q => ⟨(hWW.2 w q).1, (hWW.2 w q).2.1⟩
  have hp16 : 2 ^ Ws.length ≤ 16 := (Nat.pow_le_pow_right (by omega) hW : 2 ^ Ws.length ≤ 2 ^ 4)
  have hl16 : li < 16 := by omega
  have hl : li < 256 := by omega
  have h8 := hv.1
  refine CO.lift (e_write0 l D cI cZ cS y zt mt T.length pl Ws.length ll md ms rW mrd mrs mrp mp mb As.length mk mi sd m1 m2 m3 ml mf mw mn T ktx z (hT) (hO) (hz)) [0, 1] (by decide) rfl (fun _ => rfl) (fun u hu => ?_)
  exact ⟨rfl, nI 0, mt, md, ms, mrd, mrs, mrp, mp, mb, mk, mi, m1, m2, m3, ml, mf, mw, mn, pl, rW, ktx, kdp, kst, krd, krs, krp, kpg, kbk, kkp, kik, kon, ktw, kth, klo, kfa, kwo, knx, ⟨(by simp only [setL, List.cons_append, List.nil_append, List.set_cons_zero, List.set_cons_succ] <;> rfl), (hT), (hDw), (hTw), (hg), (hb), (hk0), (hk1), (hp0), (hp1)⟩⟩
set_option maxHeartbeats 4000000 in
set_option maxRecDepth 100000 in
theorem E_write1 (l : Launch) (D : va_G) (cI cZ cS : ClassId) {y : Nat} {T : List Nat} {Ws : List (Nat × Nat)} {ll : Nat} {L : List Sg} {li : Nat} {ye : Int32} {br : Int32} {As : List SS} {sk : Nat} {s0 : SS} {s1 : SS} {sd : Int64} {n : Nat} {ws : va_W} {j : Nat} (h : MW cI cZ y T Ws ll L li ye br As sk s0 s1 sd ws) (hk : OKS n T Ws L li As sk s0 s1) (hn : n ≤ 600) (hj : j ≤ 255) : CO l D (TY cI cZ cS) yX5_write cX5_write 2 (some .int) 1 25 0 0 [.ref y, .int (nI j)] ws (σ := LW ws) (fun _ => some (.int (wrC T (nI j)))) (fun u => u.1) (fun u => MW cI cZ y (appT T j) Ws ll L li ye br As sk s0 s1 sd u.1) := by
  obtain ⟨zt, mt, md, ms, mrd, mrs, mrp, mp, mb, mk, mi, m1, m2, m3, ml, mf, mw, mn, pl, rW, ktx, kdp, kst, krd, krs, krp, kpg, kbk, kkp, kik, kon, ktw, kth, klo, kfa, kwo, knx, h⟩ := h
  obtain ⟨rfl, hT, hDw, hTw, hg, hb, hk0, hk1, hp0, hp1⟩ := h
  obtain ⟨hO, hWW, hv, hli, hA12, hAs, hsk, hs0, hs1⟩ := hk
  have hW := hWW.1
  have hst2 : ∀ w, w < Ws.length → stF Ws w ≤ 2 := fun w q => (hWW.2 w q).2.2
  have hdp2 : ∀ w, w < Ws.length → 1 ≤ dpF Ws w ∧ dpF Ws w ≤ 9 := fun w q => ⟨(hWW.2 w q).1, (hWW.2 w q).2.1⟩
  have hp16 : 2 ^ Ws.length ≤ 16 := (Nat.pow_le_pow_right (by omega) hW : 2 ^ Ws.length ≤ 2 ^ 4)
  have hl16 : li < 16 := by omega
  have hl : li < 256 := by omega
  have h8 := hv.1
  have hgo := hg
  refine CO.lift (e_write1 l D cI cZ cS y zt mt T.length pl Ws.length ll md ms rW mrd mrs mrp mp mb As.length mk mi sd m1 m2 m3 ml mf mw mn T ktx j (hT) (hO) (by first | assumption | omega)) [0, 1] (by decide) rfl (fun _ => rfl) (fun g hu => ?_)
  have hg := hu
  exact ⟨rfl, nI 0, mt, md, ms, mrd, mrs, mrp, mp, mb, mk, mi, m1, m2, m3, ml, mf, mw, mn, pl, rW, g, kdp, kst, krd, krs, krp, kpg, kbk, kkp, kik, kon, ktw, kth, klo, kfa, kwo, knx, ⟨(by simp only [setL, List.cons_append, List.nil_append, List.set_cons_zero, List.set_cons_succ] <;> rfl), (hg), (hDw), (hTw), (hgo), (hb), (hk0), (hk1), (hp0), (hp1)⟩⟩
set_option maxHeartbeats 4000000 in
set_option maxRecDepth 100000 in
theorem E_wipe (l : Launch) (D : va_G) (cI cZ cS : ClassId) {y : Nat} {T : List Nat} {Ws : List (Nat × Nat)} {ll : Nat} {L : List Sg} {li : Nat} {ye : Int32} {br : Int32} {As : List SS} {sk : Nat} {s0 : SS} {s1 : SS} {sd : Int64} {n : Nat} {ws : va_W}  (h : MW cI cZ y T Ws ll L li ye br As sk s0 s1 sd ws) (hk : OKS n T Ws L li As sk s0 s1) (hn : n ≤ 600)  : CO l D (TY cI cZ cS) yX5_wipe cX5_wipe 2 (some .int) 0 0 0 0 [.ref y] ws (σ := LW ws) (fun _ => some (.int (nI T.length))) (fun u => u.1) (fun u => MW cI cZ y ([]) Ws ll L li ye br As sk s0 s1 sd u.1) := by
  obtain ⟨zt, mt, md, ms, mrd, mrs, mrp, mp, mb, mk, mi, m1, m2, m3, ml, mf, mw, mn, pl, rW, ktx, kdp, kst, krd, krs, krp, kpg, kbk, kkp, kik, kon, ktw, kth, klo, kfa, kwo, knx, h⟩ := h
  obtain ⟨rfl, hT, hDw, hTw, hg, hb, hk0, hk1, hp0, hp1⟩ := h
  obtain ⟨hO, hWW, hv, hli, hA12, hAs, hsk, hs0, hs1⟩ := hk
  have hW := hWW.1
  have hst2 : ∀ w, w < Ws.length → stF Ws w ≤ 2 := fun w q => (hWW.2 w q).2.2
  have hdp2 : ∀ w, w < Ws.length → 1 ≤ dpF Ws w ∧ dpF Ws w ≤ 9 := fun w q => ⟨(hWW.2 w q).1, (hWW.2 w q).2.1⟩
  have hp16 : 2 ^ Ws.length ≤ 16 := (Nat.pow_le_pow_right (by omega) hW : 2 ^ Ws.length ≤ 2 ^ 4)
  have hl16 : li < 16 := by omega
  have hl : li < 256 := by omega
  have h8 := hv.1
  refine CO.lift (e_wipe l D cI cZ cS y zt mt T.length pl Ws.length ll md ms rW mrd mrs mrp mp mb As.length mk mi sd m1 m2 m3 ml mf mw mn ) [0] (by decide) rfl (fun _ => rfl) (fun u hu => ?_)
  exact ⟨rfl, nI 0, mt, md, ms, mrd, mrs, mrp, mp, mb, mk, mi, m1, m2, m3, ml, mf, mw, mn, pl, rW, ktx, kdp, kst, krd, krs, krp, kpg, kbk, kkp, kik, kon, ktw, kth, klo, kfa, kwo, knx, ⟨(by simp only [setL, List.cons_append, List.nil_append, List.set_cons_zero, List.set_cons_succ] <;> rfl), (fun j hj => absurd hj (Nat.not_lt_zero j)), (hDw), (hTw), (hg), (hb), (hk0), (hk1), (hp0), (hp1)⟩⟩
set_option maxHeartbeats 4000000 in
set_option maxRecDepth 100000 in
theorem E_fault (l : Launch) (D : va_G) (cI cZ cS : ClassId) {y : Nat} {T : List Nat} {Ws : List (Nat × Nat)} {ll : Nat} {L : List Sg} {li : Nat} {ye : Int32} {br : Int32} {As : List SS} {sk : Nat} {s0 : SS} {s1 : SS} {sd : Int64} {n : Nat} {ws : va_W}  (h : MW cI cZ y T Ws ll L li ye br As sk s0 s1 sd ws) (hk : OKS n T Ws L li As sk s0 s1) (hn : n ≤ 600)  : CO l D (TY cI cZ cS) yX5_fault cX5_fault 1 (some .int) 5 113 0 0 [.ref y] ws (σ := LW ws) (fun _ => some (.int ((landP T).1))) (fun u => u.1) (fun u => MW cI cZ y T Ws ll L li ye br As sk s0 s1 sd u.1) := by
  obtain ⟨zt, mt, md, ms, mrd, mrs, mrp, mp, mb, mk, mi, m1, m2, m3, ml, mf, mw, mn, pl, rW, ktx, kdp, kst, krd, krs, krp, kpg, kbk, kkp, kik, kon, ktw, kth, klo, kfa, kwo, knx, h⟩ := h
  obtain ⟨rfl, hT, hDw, hTw, hg, hb, hk0, hk1, hp0, hp1⟩ := h
  obtain ⟨hO, hWW, hv, hli, hA12, hAs, hsk, hs0, hs1⟩ := hk
  have hW := hWW.1
  have hst2 : ∀ w, w < Ws.length → stF Ws w ≤ 2 := fun w q => (hWW.2 w q).2.2
  have hdp2 : ∀ w, w < Ws.length → 1 ≤ dpF Ws w ∧ dpF Ws w ≤ 9 := fun w q => ⟨(hWW.2 w q).1, (hWW.2 w q).2.1⟩
  have hp16 : 2 ^ Ws.length ≤ 16 := (Nat.pow_le_pow_right (by omega) hW : 2 ^ Ws.length ≤ 2 ^ 4)
  have hl16 : li < 16 := by omega
  have hl : li < 256 := by omega
  have h8 := hv.1
  refine CO.lift (e_fault l D cI cZ cS y zt mt T.length pl Ws.length ll md ms rW mrd mrs mrp mp mb As.length mk mi sd m1 m2 m3 ml mf mw mn T ktx krd krs krp (hT) (hO)) [0, 1, 4, 5, 6] (by decide) rfl (fun _ => rfl) (fun u hu => ?_)
  obtain ⟨pn, dg, tq, g2⟩ := u
  exact ⟨rfl, nI 0, mt, md, ms, mrd, mrs, mrp, mp, mb, mk, mi, m1, m2, m3, ml, mf, mw, mn, pn, (landP T).2.1.length, ktx, kdp, kst, dg, tq, g2, kpg, kbk, kkp, kik, kon, ktw, kth, klo, kfa, kwo, knx, ⟨(by simp only [setL, List.cons_append, List.nil_append, List.set_cons_zero, List.set_cons_succ] <;> rfl), (hT), (hDw), (hTw), (hg), (hb), (hk0), (hk1), (hp0), (hp1)⟩⟩
set_option maxHeartbeats 4000000 in
set_option maxRecDepth 100000 in
theorem E_land0 (l : Launch) (D : va_G) (cI cZ cS : ClassId) {y : Nat} {T : List Nat} {Ws : List (Nat × Nat)} {ll : Nat} {L : List Sg} {li : Nat} {ye : Int32} {br : Int32} {As : List SS} {sk : Nat} {s0 : SS} {s1 : SS} {sd : Int64} {n : Nat} {ws : va_W}  (h : MW cI cZ y T Ws ll L li ye br As sk s0 s1 sd ws) (hk : OKS n T Ws L li As sk s0 s1) (hn : n ≤ 600) (h9 : ¬ (landP T).1 = -9) : CO l D (TY cI cZ cS) yX5_land cX5_land 2 (some .int) 5 113 0 0 [.ref y] ws (σ := LW ws) (fun _ => some (.int ((-3)))) (fun u => u.1) (fun u => MW cI cZ y T Ws ll L li ye br As sk s0 s1 sd u.1) := by
  obtain ⟨zt, mt, md, ms, mrd, mrs, mrp, mp, mb, mk, mi, m1, m2, m3, ml, mf, mw, mn, pl, rW, ktx, kdp, kst, krd, krs, krp, kpg, kbk, kkp, kik, kon, ktw, kth, klo, kfa, kwo, knx, h⟩ := h
  obtain ⟨rfl, hT, hDw, hTw, hg, hb, hk0, hk1, hp0, hp1⟩ := h
  obtain ⟨hO, hWW, hv, hli, hA12, hAs, hsk, hs0, hs1⟩ := hk
  have hW := hWW.1
  have hst2 : ∀ w, w < Ws.length → stF Ws w ≤ 2 := fun w q => (hWW.2 w q).2.2
  have hdp2 : ∀ w, w < Ws.length → 1 ≤ dpF Ws w ∧ dpF Ws w ≤ 9 := fun w q => ⟨(hWW.2 w q).1, (hWW.2 w q).2.1⟩
  have hp16 : 2 ^ Ws.length ≤ 16 := (Nat.pow_le_pow_right (by omega) hW : 2 ^ Ws.length ≤ 2 ^ 4)
  have hl16 : li < 16 := by omega
  have hl : li < 256 := by omega
  have h8 := hv.1
  refine CO.lift (e_land0 l D cI cZ cS y zt mt T.length pl Ws.length ll md ms rW mrd mrs mrp mp mb As.length mk mi sd m1 m2 m3 ml mf mw mn T ktx krd krs krp (hT) (hO) (h9)) [0, 1, 4, 5, 6] (by decide) rfl (fun _ => rfl) (fun u hu => ?_)
  obtain ⟨pn, dg, tq, g2⟩ := u
  exact ⟨rfl, nI 0, mt, md, ms, mrd, mrs, mrp, mp, mb, mk, mi, m1, m2, m3, ml, mf, mw, mn, pn, (landP T).2.1.length, ktx, kdp, kst, dg, tq, g2, kpg, kbk, kkp, kik, kon, ktw, kth, klo, kfa, kwo, knx, ⟨(by simp only [setL, List.cons_append, List.nil_append, List.set_cons_zero, List.set_cons_succ] <;> rfl), (hT), (hDw), (hTw), (hg), (hb), (hk0), (hk1), (hp0), (hp1)⟩⟩
set_option maxHeartbeats 4000000 in
set_option maxRecDepth 100000 in
theorem E_land1 (l : Launch) (D : va_G) (cI cZ cS : ClassId) {y : Nat} {T : List Nat} {Ws : List (Nat × Nat)} {ll : Nat} {L : List Sg} {li : Nat} {ye : Int32} {br : Int32} {As : List SS} {sk : Nat} {s0 : SS} {s1 : SS} {sd : Int64} {n : Nat} {ws : va_W}  (h : MW cI cZ y T Ws ll L li ye br As sk s0 s1 sd ws) (hk : OKS n T Ws L li As sk s0 s1) (hn : n ≤ 600) (h9 : (landP T).1 = -9) : CO l D (TY cI cZ cS) yX5_land cX5_land 2 (some .int) 5 113 0 0 [.ref y] ws (σ := LW ws) (fun _ => some (.int (nI (10 * (landP T).2.1.length + (landP T).2.2.length)))) (fun u => u.1) (fun u => MW cI cZ y T ((landP T).2.1) (lawsN (landP T).2.2) ((landP T).2.2) 0 (nI 0) (nI 0) ([]) 0 s0 s1 sd u.1) := by
  obtain ⟨zt, mt, md, ms, mrd, mrs, mrp, mp, mb, mk, mi, m1, m2, m3, ml, mf, mw, mn, pl, rW, ktx, kdp, kst, krd, krs, krp, kpg, kbk, kkp, kik, kon, ktw, kth, klo, kfa, kwo, knx, h⟩ := h
  obtain ⟨rfl, hT, hDw, hTw, hg, hb, hk0, hk1, hp0, hp1⟩ := h
  obtain ⟨hO, hWW, hv, hli, hA12, hAs, hsk, hs0, hs1⟩ := hk
  have hW := hWW.1
  have hst2 : ∀ w, w < Ws.length → stF Ws w ≤ 2 := fun w q => (hWW.2 w q).2.2
  have hdp2 : ∀ w, w < Ws.length → 1 ≤ dpF Ws w ∧ dpF Ws w ≤ 9 := fun w q => ⟨(hWW.2 w q).1, (hWW.2 w q).2.1⟩
  have hp16 : 2 ^ Ws.length ≤ 16 := (Nat.pow_le_pow_right (by omega) hW : 2 ^ Ws.length ≤ 2 ^ 4)
  have hl16 : li < 16 := by omega
  have hl : li < 256 := by omega
  have h8 := hv.1
  refine CO.lift (e_land1 l D cI cZ cS y zt mt T.length pl Ws.length ll md ms rW mrd mrs mrp mp mb As.length mk mi sd m1 m2 m3 ml mf mw mn T ktx krd krs krp kdp kst kpg kik (hT) (hO) (by first | assumption | omega)) [0, 1, 4, 5, 6, 2, 3, 7, 10] (by decide) rfl (fun _ => rfl) (fun u hu => ?_)
  obtain ⟨pn, dg, tq, g2, d2, t2, p2⟩ := u
  obtain ⟨hD3, hT3, hg3⟩ := hu
  exact ⟨rfl, nI 0, mt, md, ms, mrd, mrs, mrp, mp, mb, mk, mi, m1, m2, m3, ml, mf, mw, mn, pn, (landP T).2.1.length, ktx, d2, t2, dg, tq, g2, p2, kbk, kkp, (upd (upd kik 0 (nI 0)) 1 (nI 0)), kon, ktw, kth, klo, kfa, kwo, knx, ⟨(by simp only [setL, List.cons_append, List.nil_append, List.set_cons_zero, List.set_cons_succ] <;> rfl), (hT), (hD3), (hT3), (hg3), (fun k hk => absurd hk (Nat.not_lt_zero k)), (by rw [upd_n (by omega), upd_s]; rfl), (by rw [upd_s]; rfl), (fun q => absurd q (by decide)), (fun q => absurd q (by decide))⟩⟩
set_option maxHeartbeats 4000000 in
set_option maxRecDepth 100000 in
theorem E_about (l : Launch) (D : va_G) (cI cZ cS : ClassId) {y : Nat} {T : List Nat} {Ws : List (Nat × Nat)} {ll : Nat} {L : List Sg} {li : Nat} {ye : Int32} {br : Int32} {As : List SS} {sk : Nat} {s0 : SS} {s1 : SS} {sd : Int64} {n : Nat} {ws : va_W} {z : Int32} (h : MW cI cZ y T Ws ll L li ye br As sk s0 s1 sd ws) (hk : OKS n T Ws L li As sk s0 s1) (hn : n ≤ 600)  : CO l D (TY cI cZ cS) yX5_about cX5_about 2 (some .int) 1 22 0 0 [.ref y, .int z] ws (σ := LW ws) (fun _ => some (.int (aboutI Ws.length L.length ye br li ll (lawsN L) As.length T.length z))) (fun u => u.1) (fun u => MW cI cZ y T Ws ll L li ye br As sk s0 s1 sd u.1) := by
  obtain ⟨zt, mt, md, ms, mrd, mrs, mrp, mp, mb, mk, mi, m1, m2, m3, ml, mf, mw, mn, pl, rW, ktx, kdp, kst, krd, krs, krp, kpg, kbk, kkp, kik, kon, ktw, kth, klo, kfa, kwo, knx, h⟩ := h
  obtain ⟨rfl, hT, hDw, hTw, hg, hb, hk0, hk1, hp0, hp1⟩ := h
  obtain ⟨hO, hWW, hv, hli, hA12, hAs, hsk, hs0, hs1⟩ := hk
  have hW := hWW.1
  have hst2 : ∀ w, w < Ws.length → stF Ws w ≤ 2 := fun w q => (hWW.2 w q).2.2
  have hdp2 : ∀ w, w < Ws.length → 1 ≤ dpF Ws w ∧ dpF Ws w ≤ 9 := fun w q => ⟨(hWW.2 w q).1, (hWW.2 w q).2.1⟩
  have hp16 : 2 ^ Ws.length ≤ 16 := (Nat.pow_le_pow_right (by omega) hW : 2 ^ Ws.length ≤ 2 ^ 4)
  have hl16 : li < 16 := by omega
  have hl : li < 256 := by omega
  have h8 := hv.1
  refine CO.lift (e_about l D cI cZ cS y zt mt T.length pl Ws.length ll md ms rW mrd mrs mrp mp mb As.length mk mi sd m1 m2 m3 ml mf mw mn kpg L li ye br n z (hg) (hv)) [0, 7] (by decide) rfl (fun _ => rfl) (fun u hu => ?_)
  exact ⟨rfl, nI 0, mt, md, ms, mrd, mrs, mrp, mp, mb, mk, mi, m1, m2, m3, ml, mf, mw, mn, pl, rW, ktx, kdp, kst, krd, krs, krp, kpg, kbk, kkp, kik, kon, ktw, kth, klo, kfa, kwo, knx, ⟨(by simp only [setL, List.cons_append, List.nil_append, List.set_cons_zero, List.set_cons_succ] <;> rfl), (hT), (hDw), (hTw), (hg), (hb), (hk0), (hk1), (hp0), (hp1)⟩⟩
set_option maxHeartbeats 4000000 in
set_option maxRecDepth 100000 in
theorem E_well (l : Launch) (D : va_G) (cI cZ cS : ClassId) {y : Nat} {T : List Nat} {Ws : List (Nat × Nat)} {ll : Nat} {L : List Sg} {li : Nat} {ye : Int32} {br : Int32} {As : List SS} {sk : Nat} {s0 : SS} {s1 : SS} {sd : Int64} {n : Nat} {ws : va_W} {z : Int32} {z2 : Int32} (h : MW cI cZ y T Ws ll L li ye br As sk s0 s1 sd ws) (hk : OKS n T Ws L li As sk s0 s1) (hn : n ≤ 600)  : CO l D (TY cI cZ cS) yX5_well cX5_well 5 (some .int) 2 46 0 0 [.ref y, .int z, .int z2] ws (σ := LW ws) (fun _ => some (.int (wellI Ws.length (dpF Ws) (stF Ws) li L z z2))) (fun u => u.1) (fun u => MW cI cZ y T Ws ll L li ye br As sk s0 s1 sd u.1) := by
  obtain ⟨zt, mt, md, ms, mrd, mrs, mrp, mp, mb, mk, mi, m1, m2, m3, ml, mf, mw, mn, pl, rW, ktx, kdp, kst, krd, krs, krp, kpg, kbk, kkp, kik, kon, ktw, kth, klo, kfa, kwo, knx, h⟩ := h
  obtain ⟨rfl, hT, hDw, hTw, hg, hb, hk0, hk1, hp0, hp1⟩ := h
  obtain ⟨hO, hWW, hv, hli, hA12, hAs, hsk, hs0, hs1⟩ := hk
  have hW := hWW.1
  have hst2 : ∀ w, w < Ws.length → stF Ws w ≤ 2 := fun w q => (hWW.2 w q).2.2
  have hdp2 : ∀ w, w < Ws.length → 1 ≤ dpF Ws w ∧ dpF Ws w ≤ 9 := fun w q => ⟨(hWW.2 w q).1, (hWW.2 w q).2.1⟩
  have hp16 : 2 ^ Ws.length ≤ 16 := (Nat.pow_le_pow_right (by omega) hW : 2 ^ Ws.length ≤ 2 ^ 4)
  have hl16 : li < 16 := by omega
  have hl : li < 256 := by omega
  have h8 := hv.1
  refine CO.lift (e_well l D cI cZ cS y zt mt T.length pl Ws.length ll md ms rW mrd mrs mrp mp mb As.length mk mi sd m1 m2 m3 ml mf mw mn kst (stF Ws) kpg L li ye br n kdp (dpF Ws) z z2 (hTw) (hst2) (hg) (hv) (hDw) (hdp2) (hW) (hl)) [0, 2, 3, 7] (by decide) rfl (fun _ => rfl) (fun u hu => ?_)
  exact ⟨rfl, nI 0, mt, md, ms, mrd, mrs, mrp, mp, mb, mk, mi, m1, m2, m3, ml, mf, mw, mn, pl, rW, ktx, kdp, kst, krd, krs, krp, kpg, kbk, kkp, kik, kon, ktw, kth, klo, kfa, kwo, knx, ⟨(by simp only [setL, List.cons_append, List.nil_append, List.set_cons_zero, List.set_cons_succ] <;> rfl), (hT), (hDw), (hTw), (hg), (hb), (hk0), (hk1), (hp0), (hp1)⟩⟩
set_option maxHeartbeats 4000000 in
set_option maxRecDepth 100000 in
theorem E_song (l : Launch) (D : va_G) (cI cZ cS : ClassId) {y : Nat} {T : List Nat} {Ws : List (Nat × Nat)} {ll : Nat} {L : List Sg} {li : Nat} {ye : Int32} {br : Int32} {As : List SS} {sk : Nat} {s0 : SS} {s1 : SS} {sd : Int64} {n : Nat} {ws : va_W} {z : Int32} {z2 : Int32} (h : MW cI cZ y T Ws ll L li ye br As sk s0 s1 sd ws) (hk : OKS n T Ws L li As sk s0 s1) (hn : n ≤ 600)  : CO l D (TY cI cZ cS) yX5_song cX5_song 3 (some .int) 2 46 0 0 [.ref y, .int z, .int z2] ws (σ := LW ws) (fun _ => some (.int (songI L z z2))) (fun u => u.1) (fun u => MW cI cZ y T Ws ll L li ye br As sk s0 s1 sd u.1) := by
  obtain ⟨zt, mt, md, ms, mrd, mrs, mrp, mp, mb, mk, mi, m1, m2, m3, ml, mf, mw, mn, pl, rW, ktx, kdp, kst, krd, krs, krp, kpg, kbk, kkp, kik, kon, ktw, kth, klo, kfa, kwo, knx, h⟩ := h
  obtain ⟨rfl, hT, hDw, hTw, hg, hb, hk0, hk1, hp0, hp1⟩ := h
  obtain ⟨hO, hWW, hv, hli, hA12, hAs, hsk, hs0, hs1⟩ := hk
  have hW := hWW.1
  have hst2 : ∀ w, w < Ws.length → stF Ws w ≤ 2 := fun w q => (hWW.2 w q).2.2
  have hdp2 : ∀ w, w < Ws.length → 1 ≤ dpF Ws w ∧ dpF Ws w ≤ 9 := fun w q => ⟨(hWW.2 w q).1, (hWW.2 w q).2.1⟩
  have hp16 : 2 ^ Ws.length ≤ 16 := (Nat.pow_le_pow_right (by omega) hW : 2 ^ Ws.length ≤ 2 ^ 4)
  have hl16 : li < 16 := by omega
  have hl : li < 256 := by omega
  have h8 := hv.1
  refine CO.lift (e_song l D cI cZ cS y zt mt T.length pl Ws.length ll md ms rW mrd mrs mrp mp mb As.length mk mi sd m1 m2 m3 ml mf mw mn kpg L li ye br n z z2 (hg) (hv)) [0, 7] (by decide) rfl (fun _ => rfl) (fun u hu => ?_)
  exact ⟨rfl, nI 0, mt, md, ms, mrd, mrs, mrp, mp, mb, mk, mi, m1, m2, m3, ml, mf, mw, mn, pl, rW, ktx, kdp, kst, krd, krs, krp, kpg, kbk, kkp, kik, kon, ktw, kth, klo, kfa, kwo, knx, ⟨(by simp only [setL, List.cons_append, List.nil_append, List.set_cons_zero, List.set_cons_succ] <;> rfl), (hT), (hDw), (hTw), (hg), (hb), (hk0), (hk1), (hp0), (hp1)⟩⟩
set_option maxHeartbeats 4000000 in
set_option maxRecDepth 100000 in
theorem E_year (l : Launch) (D : va_G) (cI cZ cS : ClassId) {y : Nat} {T : List Nat} {Ws : List (Nat × Nat)} {ll : Nat} {L : List Sg} {li : Nat} {ye : Int32} {br : Int32} {As : List SS} {sk : Nat} {s0 : SS} {s1 : SS} {sd : Int64} {n : Nat} {ws : va_W}  (h : MW cI cZ y T Ws ll L li ye br As sk s0 s1 sd ws) (hk : OKS n T Ws L li As sk s0 s1) (hn : n ≤ 600)  : CO l D (TY cI cZ cS) yX5_year cX5_year 2 (some .int) 3 67 0 0 [.ref y] ws (σ := LW ws) (fun _ => some (.int (nI (L.length - (yearL (stF Ws) li L).length)))) (fun u => u.1) (fun u => MW cI cZ y T Ws ll (yearL (stF Ws) li L) li (ye + nI 1) br (remL As (L, li, ye, br)) sk s0 s1 sd u.1) := by
  obtain ⟨zt, mt, md, ms, mrd, mrs, mrp, mp, mb, mk, mi, m1, m2, m3, ml, mf, mw, mn, pl, rW, ktx, kdp, kst, krd, krs, krp, kpg, kbk, kkp, kik, kon, ktw, kth, klo, kfa, kwo, knx, h⟩ := h
  obtain ⟨rfl, hT, hDw, hTw, hg, hb, hk0, hk1, hp0, hp1⟩ := h
  obtain ⟨hO, hWW, hv, hli, hA12, hAs, hsk, hs0, hs1⟩ := hk
  have hW := hWW.1
  have hst2 : ∀ w, w < Ws.length → stF Ws w ≤ 2 := fun w q => (hWW.2 w q).2.2
  have hdp2 : ∀ w, w < Ws.length → 1 ≤ dpF Ws w ∧ dpF Ws w ≤ 9 := fun w q => ⟨(hWW.2 w q).1, (hWW.2 w q).2.1⟩
  have hp16 : 2 ^ Ws.length ≤ 16 := (Nat.pow_le_pow_right (by omega) hW : 2 ^ Ws.length ≤ 2 ^ 4)
  have hl16 : li < 16 := by omega
  have hl : li < 256 := by omega
  have h8 := hv.1
  refine CO.lift (e_year l D cI cZ cS y zt mt T.length pl Ws.length ll md ms rW mrd mrs mrp mp mb As.length mk mi sd m1 m2 m3 ml mf mw mn kst (stF Ws) kpg L li ye br As kbk klo n (hTw) (hst2) (hg) (hb) (hA12) (hv) (hW) (hl) (by omega)) [0, 3, 7, 8, 14] (by decide) rfl (fun _ => rfl) (fun u hu => ?_)
  obtain ⟨g2, b2, lf2⟩ := u
  obtain ⟨hg2, hb2⟩ := hu
  exact ⟨rfl, nI 0, mt, md, ms, mrd, mrs, mrp, mp, mb, mk, mi, m1, m2, m3, ml, mf, mw, mn, pl, rW, ktx, kdp, kst, krd, krs, krp, g2, b2, kkp, kik, kon, ktw, kth, lf2, kfa, kwo, knx, ⟨(by simp only [setL, List.cons_append, List.nil_append, List.set_cons_zero, List.set_cons_succ] <;> rfl), (hT), (hDw), (hTw), (hg2), (hb2), (hk0), (hk1), (hp0), (hp1)⟩⟩
set_option maxHeartbeats 4000000 in
set_option maxRecDepth 100000 in
theorem E_sing0 (l : Launch) (D : va_G) (cI cZ cS : ClassId) {y : Nat} {T : List Nat} {Ws : List (Nat × Nat)} {ll : Nat} {L : List Sg} {li : Nat} {ye : Int32} {br : Int32} {As : List SS} {sk : Nat} {s0 : SS} {s1 : SS} {sd : Int64} {n : Nat} {ws : va_W} {z : Int32} {z2 : Int32} {z3 : Int32} {z4 : Int32} (h : MW cI cZ y T Ws ll L li ye br As sk s0 s1 sd ws) (hk : OKS n T Ws L li As sk s0 s1) (hn : n ≤ 600) (hz : ¬ singC Ws.length li L z z2 z3 z4 = 0) : CO l D (TY cI cZ cS) yX5_sing cX5_sing 5 (some .int) 3 71 0 0 [.ref y, .int z, .int z2, .int z3, .int z4] ws (σ := LW ws) (fun _ => some (.int (singC Ws.length li L z z2 z3 z4))) (fun u => u.1) (fun u => MW cI cZ y T Ws ll L li ye br As sk s0 s1 sd u.1) := by
  obtain ⟨zt, mt, md, ms, mrd, mrs, mrp, mp, mb, mk, mi, m1, m2, m3, ml, mf, mw, mn, pl, rW, ktx, kdp, kst, krd, krs, krp, kpg, kbk, kkp, kik, kon, ktw, kth, klo, kfa, kwo, knx, h⟩ := h
  obtain ⟨rfl, hT, hDw, hTw, hg, hb, hk0, hk1, hp0, hp1⟩ := h
  obtain ⟨hO, hWW, hv, hli, hA12, hAs, hsk, hs0, hs1⟩ := hk
  have hW := hWW.1
  have hst2 : ∀ w, w < Ws.length → stF Ws w ≤ 2 := fun w q => (hWW.2 w q).2.2
  have hdp2 : ∀ w, w < Ws.length → 1 ≤ dpF Ws w ∧ dpF Ws w ≤ 9 := fun w q => ⟨(hWW.2 w q).1, (hWW.2 w q).2.1⟩
  have hp16 : 2 ^ Ws.length ≤ 16 := (Nat.pow_le_pow_right (by omega) hW : 2 ^ Ws.length ≤ 2 ^ 4)
  have hl16 : li < 16 := by omega
  have hl : li < 256 := by omega
  have h8 := hv.1
  refine CO.lift (e_sing0 l D cI cZ cS y zt mt T.length pl Ws.length ll md ms rW mrd mrs mrp mp mb As.length mk mi sd m1 m2 m3 ml mf mw mn kpg L li ye br n z z2 z3 z4 (hg) (hv) (hW) (hl) (hz)) [0, 7] (by decide) rfl (fun _ => rfl) (fun u hu => ?_)
  exact ⟨rfl, nI 0, mt, md, ms, mrd, mrs, mrp, mp, mb, mk, mi, m1, m2, m3, ml, mf, mw, mn, pl, rW, ktx, kdp, kst, krd, krs, krp, kpg, kbk, kkp, kik, kon, ktw, kth, klo, kfa, kwo, knx, ⟨(by simp only [setL, List.cons_append, List.nil_append, List.set_cons_zero, List.set_cons_succ] <;> rfl), (hT), (hDw), (hTw), (hg), (hb), (hk0), (hk1), (hp0), (hp1)⟩⟩
set_option maxHeartbeats 4000000 in
set_option maxRecDepth 100000 in
theorem E_sing1 (l : Launch) (D : va_G) (cI cZ cS : ClassId) {y : Nat} {T : List Nat} {Ws : List (Nat × Nat)} {ll : Nat} {L : List Sg} {li : Nat} {ye : Int32} {br : Int32} {As : List SS} {sk : Nat} {s0 : SS} {s1 : SS} {sd : Int64} {n : Nat} {ws : va_W} {s : Nat} {d : Nat} {v : Nat} {p : Nat} (h : MW cI cZ y T Ws ll L li ye br As sk s0 s1 sd ws) (hk : OKS n T Ws L li As sk s0 s1) (hn : n ≤ 600) (hs1 : s < L.length) (hd : d ≤ 1) (hv0 : 1 ≤ v) (hv9 : v ≤ 9) (hp3 : p ≤ 3) (hway : way Ws.length li (sg L s 1) d = true) (h7 : L.length < 8) : CO l D (TY cI cZ cS) yX5_sing cX5_sing 5 (some .int) 3 71 0 0 [.ref y, .int (nI s), .int (nI d), .int (nI v), .int (nI p)] ws (σ := LW ws) (fun _ => some (.int (nI L.length))) (fun u => u.1) (fun u => MW cI cZ y T Ws ll (sungL (stF Ws) L s (jN L s d) v p) li ye (br + nI v) (remL As (L, li, ye, br)) sk s0 s1 sd u.1) := by
  obtain ⟨zt, mt, md, ms, mrd, mrs, mrp, mp, mb, mk, mi, m1, m2, m3, ml, mf, mw, mn, pl, rW, ktx, kdp, kst, krd, krs, krp, kpg, kbk, kkp, kik, kon, ktw, kth, klo, kfa, kwo, knx, h⟩ := h
  obtain ⟨rfl, hT, hDw, hTw, hg, hb, hk0, hk1, hp0, hp1⟩ := h
  obtain ⟨hO, hWW, hv, hli, hA12, hAs, hsk, hs0, hs1⟩ := hk
  have hW := hWW.1
  have hst2 : ∀ w, w < Ws.length → stF Ws w ≤ 2 := fun w q => (hWW.2 w q).2.2
  have hdp2 : ∀ w, w < Ws.length → 1 ≤ dpF Ws w ∧ dpF Ws w ≤ 9 := fun w q => ⟨(hWW.2 w q).1, (hWW.2 w q).2.1⟩
  have hp16 : 2 ^ Ws.length ≤ 16 := (Nat.pow_le_pow_right (by omega) hW : 2 ^ Ws.length ≤ 2 ^ 4)
  have hl16 : li < 16 := by omega
  have hl : li < 256 := by omega
  have h8 := hv.1
  refine CO.lift (e_sing1 l D cI cZ cS y zt mt T.length pl Ws.length ll md ms rW mrd mrs mrp mp mb As.length mk mi sd m1 m2 m3 ml mf mw mn kst (stF Ws) kpg L li ye br As kbk n s d v p (hTw) (hst2) (hg) (hb) (hA12) (hv) (hW) (hl) (by first | assumption | omega) (by first | assumption | omega) (by first | assumption | omega) (by first | assumption | omega) (by first | assumption | omega) (by first | assumption | omega) (by first | assumption | omega)) [0, 3, 7, 8] (by decide) rfl (fun _ => rfl) (fun u hu => ?_)
  obtain ⟨g2, b2⟩ := u
  obtain ⟨hg2, hb2⟩ := hu
  exact ⟨rfl, nI 0, mt, md, ms, mrd, mrs, mrp, mp, mb, mk, mi, m1, m2, m3, ml, mf, mw, mn, pl, rW, ktx, kdp, kst, krd, krs, krp, g2, b2, kkp, kik, kon, ktw, kth, klo, kfa, kwo, knx, ⟨(by simp only [setL, List.cons_append, List.nil_append, List.set_cons_zero, List.set_cons_succ] <;> rfl), (hT), (hDw), (hTw), (hg2), (hb2), (hk0), (hk1), (hp0), (hp1)⟩⟩
set_option maxHeartbeats 4000000 in
set_option maxRecDepth 100000 in
theorem E_lid0 (l : Launch) (D : va_G) (cI cZ cS : ClassId) {y : Nat} {T : List Nat} {Ws : List (Nat × Nat)} {ll : Nat} {L : List Sg} {li : Nat} {ye : Int32} {br : Int32} {As : List SS} {sk : Nat} {s0 : SS} {s1 : SS} {sd : Int64} {n : Nat} {ws : va_W} {z : Int32} (h : MW cI cZ y T Ws ll L li ye br As sk s0 s1 sd ws) (hk : OKS n T Ws L li As sk s0 s1) (hn : n ≤ 600) (hz : ¬ hasB z Ws.length = true) : CO l D (TY cI cZ cS) yX5_lid cX5_lid 2 (some .int) 2 46 0 0 [.ref y, .int z] ws (σ := LW ws) (fun _ => some (.int ((-1)))) (fun u => u.1) (fun u => MW cI cZ y T Ws ll L li ye br As sk s0 s1 sd u.1) := by
  obtain ⟨zt, mt, md, ms, mrd, mrs, mrp, mp, mb, mk, mi, m1, m2, m3, ml, mf, mw, mn, pl, rW, ktx, kdp, kst, krd, krs, krp, kpg, kbk, kkp, kik, kon, ktw, kth, klo, kfa, kwo, knx, h⟩ := h
  obtain ⟨rfl, hT, hDw, hTw, hg, hb, hk0, hk1, hp0, hp1⟩ := h
  obtain ⟨hO, hWW, hv, hli, hA12, hAs, hsk, hs0, hs1⟩ := hk
  have hW := hWW.1
  have hst2 : ∀ w, w < Ws.length → stF Ws w ≤ 2 := fun w q => (hWW.2 w q).2.2
  have hdp2 : ∀ w, w < Ws.length → 1 ≤ dpF Ws w ∧ dpF Ws w ≤ 9 := fun w q => ⟨(hWW.2 w q).1, (hWW.2 w q).2.1⟩
  have hp16 : 2 ^ Ws.length ≤ 16 := (Nat.pow_le_pow_right (by omega) hW : 2 ^ Ws.length ≤ 2 ^ 4)
  have hl16 : li < 16 := by omega
  have hl : li < 256 := by omega
  have h8 := hv.1
  refine CO.lift (e_lid0 l D cI cZ cS y zt mt T.length pl Ws.length ll md ms rW mrd mrs mrp mp mb As.length mk mi sd m1 m2 m3 ml mf mw mn z (hW) (hz)) [0] (by decide) rfl (fun _ => rfl) (fun u hu => ?_)
  exact ⟨rfl, nI 0, mt, md, ms, mrd, mrs, mrp, mp, mb, mk, mi, m1, m2, m3, ml, mf, mw, mn, pl, rW, ktx, kdp, kst, krd, krs, krp, kpg, kbk, kkp, kik, kon, ktw, kth, klo, kfa, kwo, knx, ⟨(by simp only [setL, List.cons_append, List.nil_append, List.set_cons_zero, List.set_cons_succ] <;> rfl), (hT), (hDw), (hTw), (hg), (hb), (hk0), (hk1), (hp0), (hp1)⟩⟩
set_option maxHeartbeats 4000000 in
set_option maxRecDepth 100000 in
theorem E_lid1 (l : Launch) (D : va_G) (cI cZ cS : ClassId) {y : Nat} {T : List Nat} {Ws : List (Nat × Nat)} {ll : Nat} {L : List Sg} {li : Nat} {ye : Int32} {br : Int32} {As : List SS} {sk : Nat} {s0 : SS} {s1 : SS} {sd : Int64} {n : Nat} {ws : va_W} {j : Nat} (h : MW cI cZ y T Ws ll L li ye br As sk s0 s1 sd ws) (hk : OKS n T Ws L li As sk s0 s1) (hn : n ≤ 600) (hj : j < Ws.length) : CO l D (TY cI cZ cS) yX5_lid cX5_lid 2 (some .int) 2 46 0 0 [.ref y, .int (nI j)] ws (σ := LW ws) (fun _ => some (.int (nI (((li ^^^ 2 ^ j).testBit j).toNat)))) (fun u => u.1) (fun u => MW cI cZ y T Ws ll L (li ^^^ 2 ^ j) ye br (remL As (L, li, ye, br)) sk s0 s1 sd u.1) := by
  obtain ⟨zt, mt, md, ms, mrd, mrs, mrp, mp, mb, mk, mi, m1, m2, m3, ml, mf, mw, mn, pl, rW, ktx, kdp, kst, krd, krs, krp, kpg, kbk, kkp, kik, kon, ktw, kth, klo, kfa, kwo, knx, h⟩ := h
  obtain ⟨rfl, hT, hDw, hTw, hg, hb, hk0, hk1, hp0, hp1⟩ := h
  obtain ⟨hO, hWW, hv, hli, hA12, hAs, hsk, hs0, hs1⟩ := hk
  have hW := hWW.1
  have hst2 : ∀ w, w < Ws.length → stF Ws w ≤ 2 := fun w q => (hWW.2 w q).2.2
  have hdp2 : ∀ w, w < Ws.length → 1 ≤ dpF Ws w ∧ dpF Ws w ≤ 9 := fun w q => ⟨(hWW.2 w q).1, (hWW.2 w q).2.1⟩
  have hp16 : 2 ^ Ws.length ≤ 16 := (Nat.pow_le_pow_right (by omega) hW : 2 ^ Ws.length ≤ 2 ^ 4)
  have hl16 : li < 16 := by omega
  have hl : li < 256 := by omega
  have h8 := hv.1
  refine CO.lift (e_lid1 l D cI cZ cS y zt mt T.length pl Ws.length ll md ms rW mrd mrs mrp mp mb As.length mk mi sd m1 m2 m3 ml mf mw mn kpg L li ye br As kbk j (hg) (hb) (hA12) (h8) (hW) (hl16) (by first | assumption | omega)) [0, 7, 8] (by decide) rfl (fun _ => rfl) (fun u hu => ?_)
  obtain ⟨g2, b2⟩ := u
  obtain ⟨hg2, hb2⟩ := hu
  exact ⟨rfl, nI 0, mt, md, ms, mrd, mrs, mrp, mp, mb, mk, mi, m1, m2, m3, ml, mf, mw, mn, pl, rW, ktx, kdp, kst, krd, krs, krp, g2, b2, kkp, kik, kon, ktw, kth, klo, kfa, kwo, knx, ⟨(by simp only [setL, List.cons_append, List.nil_append, List.set_cons_zero, List.set_cons_succ] <;> rfl), (hT), (hDw), (hTw), (hg2), (hb2), (hk0), (hk1), (hp0), (hp1)⟩⟩
set_option maxHeartbeats 4000000 in
set_option maxRecDepth 100000 in
theorem E_undo0 (l : Launch) (D : va_G) (cI cZ cS : ClassId) {y : Nat} {T : List Nat} {Ws : List (Nat × Nat)} {ll : Nat} {L : List Sg} {li : Nat} {ye : Int32} {br : Int32} {sk : Nat} {s0 : SS} {s1 : SS} {sd : Int64} {n : Nat} {ws : va_W}  (h : MW cI cZ y T Ws ll L li ye br [] sk s0 s1 sd ws) (hk : OKS n T Ws L li [] sk s0 s1) (hn : n ≤ 600)  : CO l D (TY cI cZ cS) yX5_undo cX5_undo 2 (some .int) 0 0 0 0 [.ref y] ws (σ := LW ws) (fun _ => some (.int ((-3)))) (fun u => u.1) (fun u => MW cI cZ y T Ws ll L li ye br ([]) sk s0 s1 sd u.1) := by
  obtain ⟨zt, mt, md, ms, mrd, mrs, mrp, mp, mb, mk, mi, m1, m2, m3, ml, mf, mw, mn, pl, rW, ktx, kdp, kst, krd, krs, krp, kpg, kbk, kkp, kik, kon, ktw, kth, klo, kfa, kwo, knx, h⟩ := h
  obtain ⟨rfl, hT, hDw, hTw, hg, hb, hk0, hk1, hp0, hp1⟩ := h
  obtain ⟨hO, hWW, hv, hli, hA12, hAs, hsk, hs0, hs1⟩ := hk
  have hW := hWW.1
  have hst2 : ∀ w, w < Ws.length → stF Ws w ≤ 2 := fun w q => (hWW.2 w q).2.2
  have hdp2 : ∀ w, w < Ws.length → 1 ≤ dpF Ws w ∧ dpF Ws w ≤ 9 := fun w q => ⟨(hWW.2 w q).1, (hWW.2 w q).2.1⟩
  have hp16 : 2 ^ Ws.length ≤ 16 := (Nat.pow_le_pow_right (by omega) hW : 2 ^ Ws.length ≤ 2 ^ 4)
  have hl16 : li < 16 := by omega
  have hl : li < 256 := by omega
  have h8 := hv.1
  refine CO.lift (e_undo0 l D cI cZ cS y zt mt T.length pl Ws.length ll md ms rW mrd mrs mrp mp mb ([].length) mk mi sd m1 m2 m3 ml mf mw mn (rfl)) [0] (by decide) rfl (fun _ => rfl) (fun u hu => ?_)
  exact ⟨rfl, nI 0, mt, md, ms, mrd, mrs, mrp, mp, mb, mk, mi, m1, m2, m3, ml, mf, mw, mn, pl, rW, ktx, kdp, kst, krd, krs, krp, kpg, kbk, kkp, kik, kon, ktw, kth, klo, kfa, kwo, knx, ⟨(by simp only [setL, List.cons_append, List.nil_append, List.set_cons_zero, List.set_cons_succ] <;> rfl), (hT), (hDw), (hTw), (hg), (hb), (hk0), (hk1), (hp0), (hp1)⟩⟩
set_option maxHeartbeats 4000000 in
set_option maxRecDepth 100000 in
theorem E_undo1 (l : Launch) (D : va_G) (cI cZ cS : ClassId) {y : Nat} {T : List Nat} {Ws : List (Nat × Nat)} {ll : Nat} {L : List Sg} {li : Nat} {ye : Int32} {br : Int32} {As : List SS} {sk : Nat} {s0 : SS} {s1 : SS} {sd : Int64} {n : Nat} {ws : va_W}  (h : MW cI cZ y T Ws ll L li ye br As sk s0 s1 sd ws) (hk : OKS n T Ws L li As sk s0 s1) (hn : n ≤ 600) (h0 : 0 < As.length) : CO l D (TY cI cZ cS) yX5_undo cX5_undo 2 (some .int) 0 0 0 0 [.ref y] ws (σ := LW ws) (fun _ => some (.int (nI (As.length - 1)))) (fun u => u.1) (fun u => MW cI cZ y T Ws ll ((gSS As (As.length - 1)).1) ((gSS As (As.length - 1)).2.1) ((gSS As (As.length - 1)).2.2.1) ((gSS As (As.length - 1)).2.2.2) (As.take (As.length - 1)) sk s0 s1 sd u.1) := by
  obtain ⟨zt, mt, md, ms, mrd, mrs, mrp, mp, mb, mk, mi, m1, m2, m3, ml, mf, mw, mn, pl, rW, ktx, kdp, kst, krd, krs, krp, kpg, kbk, kkp, kik, kon, ktw, kth, klo, kfa, kwo, knx, h⟩ := h
  obtain ⟨rfl, hT, hDw, hTw, hg, hb, hk0, hk1, hp0, hp1⟩ := h
  obtain ⟨hO, hWW, hv, hli, hA12, hAs, hsk, hs0, hs1⟩ := hk
  have hW := hWW.1
  have hst2 : ∀ w, w < Ws.length → stF Ws w ≤ 2 := fun w q => (hWW.2 w q).2.2
  have hdp2 : ∀ w, w < Ws.length → 1 ≤ dpF Ws w ∧ dpF Ws w ≤ 9 := fun w q => ⟨(hWW.2 w q).1, (hWW.2 w q).2.1⟩
  have hp16 : 2 ^ Ws.length ≤ 16 := (Nat.pow_le_pow_right (by omega) hW : 2 ^ Ws.length ≤ 2 ^ 4)
  have hl16 : li < 16 := by omega
  have hl : li < 256 := by omega
  have h8 := hv.1
  have hlt : (As.take (As.length - 1)).length = As.length - 1 := by rw [List.length_take]; omega
  refine CO.lift (e_undo1 l D cI cZ cS y zt mt T.length pl Ws.length ll md ms rW mrd mrs mrp mp mb As.length mk mi sd m1 m2 m3 ml mf mw mn kpg L li ye br As kbk (hb) (hA12) (by first | assumption | omega)) [0, 7, 8] (by decide) rfl (fun _ => rfl) (fun g2 hu => ?_)
  have hg2 := hu
  exact ⟨rfl, nI 0, mt, md, ms, mrd, mrs, mrp, mp, mb, mk, mi, m1, m2, m3, ml, mf, mw, mn, pl, rW, ktx, kdp, kst, krd, krs, krp, g2, kbk, kkp, kik, kon, ktw, kth, klo, kfa, kwo, knx, ⟨(by rw [hlt]; exact (by simp only [setL, List.cons_append, List.nil_append, List.set_cons_zero, List.set_cons_succ] <;> rfl)), (hT), (hDw), (hTw), (hg2), (fun k hk => (by have hk2 : k < As.length - 1 := (by rw [← hlt]; exact hk); rw [gSS_take hk2]; exact hb k (by omega))), (hk0), (hk1), (hp0), (hp1)⟩⟩
set_option maxHeartbeats 4000000 in
set_option maxRecDepth 100000 in
theorem E_heard (l : Launch) (D : va_G) (cI cZ cS : ClassId) {y : Nat} {T : List Nat} {Ws : List (Nat × Nat)} {ll : Nat} {L : List Sg} {li : Nat} {ye : Int32} {br : Int32} {As : List SS} {sk : Nat} {s0 : SS} {s1 : SS} {sd : Int64} {n : Nat} {ws : va_W} {z : Int32} {z2 : Int32} {noon : Bool} (h : MW cI cZ y T Ws ll L li ye br As sk s0 s1 sd ws) (hk : OKS n T Ws L li As sk s0 s1) (hn : n ≤ 600)  : CO l D (TY cI cZ cS) yX5_heard cX5_heard 4 (some .int) 2 50 0 0 [.ref y, .int z, .int z2, .int (bz noon)] ws (σ := LW ws) (fun _ => some (.int (heardI Ws.length (dpF Ws) li L z z2 noon))) (fun u => u.1) (fun u => MW cI cZ y T Ws ll L li ye br As sk s0 s1 sd u.1) := by
  obtain ⟨zt, mt, md, ms, mrd, mrs, mrp, mp, mb, mk, mi, m1, m2, m3, ml, mf, mw, mn, pl, rW, ktx, kdp, kst, krd, krs, krp, kpg, kbk, kkp, kik, kon, ktw, kth, klo, kfa, kwo, knx, h⟩ := h
  obtain ⟨rfl, hT, hDw, hTw, hg, hb, hk0, hk1, hp0, hp1⟩ := h
  obtain ⟨hO, hWW, hv, hli, hA12, hAs, hsk, hs0, hs1⟩ := hk
  have hW := hWW.1
  have hst2 : ∀ w, w < Ws.length → stF Ws w ≤ 2 := fun w q => (hWW.2 w q).2.2
  have hdp2 : ∀ w, w < Ws.length → 1 ≤ dpF Ws w ∧ dpF Ws w ≤ 9 := fun w q => ⟨(hWW.2 w q).1, (hWW.2 w q).2.1⟩
  have hp16 : 2 ^ Ws.length ≤ 16 := (Nat.pow_le_pow_right (by omega) hW : 2 ^ Ws.length ≤ 2 ^ 4)
  have hl16 : li < 16 := by omega
  have hl : li < 256 := by omega
  have h8 := hv.1
  refine CO.lift (e_heard l D cI cZ cS y zt mt T.length pl Ws.length ll md ms rW mrd mrs mrp mp mb As.length mk mi sd m1 m2 m3 ml mf mw mn kpg L li ye br n kdp (dpF Ws) z z2 noon (hg) (hv) (hDw) (hdp2) (hW) (hl) (by omega)) [0, 2, 7] (by decide) rfl (fun _ => rfl) (fun u hu => ?_)
  exact ⟨rfl, nI 0, mt, md, ms, mrd, mrs, mrp, mp, mb, mk, mi, m1, m2, m3, ml, mf, mw, mn, pl, rW, ktx, kdp, kst, krd, krs, krp, kpg, kbk, kkp, kik, kon, ktw, kth, klo, kfa, kwo, knx, ⟨(by simp only [setL, List.cons_append, List.nil_append, List.set_cons_zero, List.set_cons_succ] <;> rfl), (hT), (hDw), (hTw), (hg), (hb), (hk0), (hk1), (hp0), (hp1)⟩⟩
set_option maxHeartbeats 4000000 in
set_option maxRecDepth 100000 in
theorem E_songLasts (l : Launch) (D : va_G) (cI cZ cS : ClassId) {y : Nat} {T : List Nat} {Ws : List (Nat × Nat)} {ll : Nat} {L : List Sg} {li : Nat} {ye : Int32} {br : Int32} {As : List SS} {sk : Nat} {s0 : SS} {s1 : SS} {sd : Int64} {n : Nat} {ws : va_W} {z : Int32} (h : MW cI cZ y T Ws ll L li ye br As sk s0 s1 sd ws) (hk : OKS n T Ws L li As sk s0 s1) (hn : n ≤ 600)  : CO l D (TY cI cZ cS) yX5_songLasts cX5_songLasts 4 (some .int) 3 67 0 0 [.ref y, .int z] ws (σ := LW ws) (fun _ => some (.int (songLastsI (stF Ws) li L z))) (fun u => u.1) (fun u => MW cI cZ y T Ws ll L li ye br As sk s0 s1 sd u.1) := by
  obtain ⟨zt, mt, md, ms, mrd, mrs, mrp, mp, mb, mk, mi, m1, m2, m3, ml, mf, mw, mn, pl, rW, ktx, kdp, kst, krd, krs, krp, kpg, kbk, kkp, kik, kon, ktw, kth, klo, kfa, kwo, knx, h⟩ := h
  obtain ⟨rfl, hT, hDw, hTw, hg, hb, hk0, hk1, hp0, hp1⟩ := h
  obtain ⟨hO, hWW, hv, hli, hA12, hAs, hsk, hs0, hs1⟩ := hk
  have hW := hWW.1
  have hst2 : ∀ w, w < Ws.length → stF Ws w ≤ 2 := fun w q => (hWW.2 w q).2.2
  have hdp2 : ∀ w, w < Ws.length → 1 ≤ dpF Ws w ∧ dpF Ws w ≤ 9 := fun w q => ⟨(hWW.2 w q).1, (hWW.2 w q).2.1⟩
  have hp16 : 2 ^ Ws.length ≤ 16 := (Nat.pow_le_pow_right (by omega) hW : 2 ^ Ws.length ≤ 2 ^ 4)
  have hl16 : li < 16 := by omega
  have hl : li < 256 := by omega
  have h8 := hv.1
  refine CO.lift (e_songLasts l D cI cZ cS y zt mt T.length pl Ws.length ll md ms rW mrd mrs mrp mp mb As.length mk mi sd m1 m2 m3 ml mf mw mn kst (stF Ws) kpg L li ye br n kon klo z (hTw) (hst2) (hg) (hv) (hW) (hl) (by omega)) [0, 3, 7, 11, 14] (by decide) rfl (fun _ => rfl) (fun u hu => ?_)
  obtain ⟨o2, lf2⟩ := u
  exact ⟨rfl, nI 0, mt, md, ms, mrd, mrs, mrp, mp, mb, mk, mi, m1, m2, m3, ml, mf, mw, mn, pl, rW, ktx, kdp, kst, krd, krs, krp, kpg, kbk, kkp, kik, o2, ktw, kth, lf2, kfa, kwo, knx, ⟨(by simp only [setL, List.cons_append, List.nil_append, List.set_cons_zero, List.set_cons_succ] <;> rfl), (hT), (hDw), (hTw), (hg), (hb), (hk0), (hk1), (hp0), (hp1)⟩⟩
set_option maxHeartbeats 4000000 in
set_option maxRecDepth 100000 in
theorem E_lawLasts (l : Launch) (D : va_G) (cI cZ cS : ClassId) {y : Nat} {T : List Nat} {Ws : List (Nat × Nat)} {ll : Nat} {L : List Sg} {li : Nat} {ye : Int32} {br : Int32} {As : List SS} {sk : Nat} {s0 : SS} {s1 : SS} {sd : Int64} {n : Nat} {ws : va_W} {z : Int32} (h : MW cI cZ y T Ws ll L li ye br As sk s0 s1 sd ws) (hk : OKS n T Ws L li As sk s0 s1) (hn : n ≤ 600)  : CO l D (TY cI cZ cS) yX5_lawLasts cX5_lawLasts 3 (some .int) 3 67 0 0 [.ref y, .int z] ws (σ := LW ws) (fun _ => some (.int (lawLastsI (stF Ws) li L z))) (fun u => u.1) (fun u => MW cI cZ y T Ws ll L li ye br As sk s0 s1 sd u.1) := by
  obtain ⟨zt, mt, md, ms, mrd, mrs, mrp, mp, mb, mk, mi, m1, m2, m3, ml, mf, mw, mn, pl, rW, ktx, kdp, kst, krd, krs, krp, kpg, kbk, kkp, kik, kon, ktw, kth, klo, kfa, kwo, knx, h⟩ := h
  obtain ⟨rfl, hT, hDw, hTw, hg, hb, hk0, hk1, hp0, hp1⟩ := h
  obtain ⟨hO, hWW, hv, hli, hA12, hAs, hsk, hs0, hs1⟩ := hk
  have hW := hWW.1
  have hst2 : ∀ w, w < Ws.length → stF Ws w ≤ 2 := fun w q => (hWW.2 w q).2.2
  have hdp2 : ∀ w, w < Ws.length → 1 ≤ dpF Ws w ∧ dpF Ws w ≤ 9 := fun w q => ⟨(hWW.2 w q).1, (hWW.2 w q).2.1⟩
  have hp16 : 2 ^ Ws.length ≤ 16 := (Nat.pow_le_pow_right (by omega) hW : 2 ^ Ws.length ≤ 2 ^ 4)
  have hl16 : li < 16 := by omega
  have hl : li < 256 := by omega
  have h8 := hv.1
  refine CO.lift (e_lawLasts l D cI cZ cS y zt mt T.length pl Ws.length ll md ms rW mrd mrs mrp mp mb As.length mk mi sd m1 m2 m3 ml mf mw mn kst (stF Ws) kpg L li ye br n kon klo z (hTw) (hst2) (hg) (hv) (hW) (hl) (by omega)) [0, 3, 7, 11, 14] (by decide) rfl (fun _ => rfl) (fun u hu => ?_)
  obtain ⟨o2, lf2⟩ := u
  exact ⟨rfl, nI 0, mt, md, ms, mrd, mrs, mrp, mp, mb, mk, mi, m1, m2, m3, ml, mf, mw, mn, pl, rW, ktx, kdp, kst, krd, krs, krp, kpg, kbk, kkp, kik, o2, ktw, kth, lf2, kfa, kwo, knx, ⟨(by simp only [setL, List.cons_append, List.nil_append, List.set_cons_zero, List.set_cons_succ] <;> rfl), (hT), (hDw), (hTw), (hg), (hb), (hk0), (hk1), (hp0), (hp1)⟩⟩
set_option maxHeartbeats 4000000 in
set_option maxRecDepth 100000 in
theorem E_lost (l : Launch) (D : va_G) (cI cZ cS : ClassId) {y : Nat} {T : List Nat} {Ws : List (Nat × Nat)} {ll : Nat} {L : List Sg} {li : Nat} {ye : Int32} {br : Int32} {As : List SS} {sk : Nat} {s0 : SS} {s1 : SS} {sd : Int64} {n : Nat} {ws : va_W} {z : Int32} (h : MW cI cZ y T Ws ll L li ye br As sk s0 s1 sd ws) (hk : OKS n T Ws L li As sk s0 s1) (hn : n ≤ 600)  : CO l D (TY cI cZ cS) yX5_lost cX5_lost 2 (some .int) 4 90 0 0 [.ref y, .int z] ws (σ := LW ws) (fun _ => some (.int (lostI (stF Ws) li ll L z))) (fun u => u.1) (fun u => MW cI cZ y T Ws ll L li ye br As sk s0 s1 sd u.1) := by
  obtain ⟨zt, mt, md, ms, mrd, mrs, mrp, mp, mb, mk, mi, m1, m2, m3, ml, mf, mw, mn, pl, rW, ktx, kdp, kst, krd, krs, krp, kpg, kbk, kkp, kik, kon, ktw, kth, klo, kfa, kwo, knx, h⟩ := h
  obtain ⟨rfl, hT, hDw, hTw, hg, hb, hk0, hk1, hp0, hp1⟩ := h
  obtain ⟨hO, hWW, hv, hli, hA12, hAs, hsk, hs0, hs1⟩ := hk
  have hW := hWW.1
  have hst2 : ∀ w, w < Ws.length → stF Ws w ≤ 2 := fun w q => (hWW.2 w q).2.2
  have hdp2 : ∀ w, w < Ws.length → 1 ≤ dpF Ws w ∧ dpF Ws w ≤ 9 := fun w q => ⟨(hWW.2 w q).1, (hWW.2 w q).2.1⟩
  have hp16 : 2 ^ Ws.length ≤ 16 := (Nat.pow_le_pow_right (by omega) hW : 2 ^ Ws.length ≤ 2 ^ 4)
  have hl16 : li < 16 := by omega
  have hl : li < 256 := by omega
  have h8 := hv.1
  refine CO.lift (e_lost l D cI cZ cS y zt mt T.length pl Ws.length ll md ms rW mrd mrs mrp mp mb As.length mk mi sd m1 m2 m3 ml mf mw mn kst (stF Ws) kpg L li ye br n kon klo z (hTw) (hst2) (hg) (hv) (hW) (hl) (by omega)) [0, 3, 7, 11, 14] (by decide) rfl (fun _ => rfl) (fun u hu => ?_)
  obtain ⟨o2, lf2⟩ := u
  exact ⟨rfl, nI 0, mt, md, ms, mrd, mrs, mrp, mp, mb, mk, mi, m1, m2, m3, ml, mf, mw, mn, pl, rW, ktx, kdp, kst, krd, krs, krp, kpg, kbk, kkp, kik, o2, ktw, kth, lf2, kfa, kwo, knx, ⟨(by simp only [setL, List.cons_append, List.nil_append, List.set_cons_zero, List.set_cons_succ] <;> rfl), (hT), (hDw), (hTw), (hg), (hb), (hk0), (hk1), (hp0), (hp1)⟩⟩
set_option maxHeartbeats 4000000 in
set_option maxRecDepth 100000 in
theorem E_bestLid (l : Launch) (D : va_G) (cI cZ cS : ClassId) {y : Nat} {T : List Nat} {Ws : List (Nat × Nat)} {ll : Nat} {L : List Sg} {li : Nat} {ye : Int32} {br : Int32} {As : List SS} {sk : Nat} {s0 : SS} {s1 : SS} {sd : Int64} {n : Nat} {ws : va_W} {z : Int32} (h : MW cI cZ y T Ws ll L li ye br As sk s0 s1 sd ws) (hk : OKS n T Ws L li As sk s0 s1) (hn : n ≤ 600)  : CO l D (TY cI cZ cS) yX5_bestLid cX5_bestLid 6 (some .int) 5 112 0 0 [.ref y, .int z] ws (σ := LW ws) (fun _ => some (.int (bestLidI (stF Ws) Ws.length li ll L z))) (fun u => u.1) (fun u => MW cI cZ y T Ws ll L li ye br As sk s0 s1 sd u.1) := by
  obtain ⟨zt, mt, md, ms, mrd, mrs, mrp, mp, mb, mk, mi, m1, m2, m3, ml, mf, mw, mn, pl, rW, ktx, kdp, kst, krd, krs, krp, kpg, kbk, kkp, kik, kon, ktw, kth, klo, kfa, kwo, knx, h⟩ := h
  obtain ⟨rfl, hT, hDw, hTw, hg, hb, hk0, hk1, hp0, hp1⟩ := h
  obtain ⟨hO, hWW, hv, hli, hA12, hAs, hsk, hs0, hs1⟩ := hk
  have hW := hWW.1
  have hst2 : ∀ w, w < Ws.length → stF Ws w ≤ 2 := fun w q => (hWW.2 w q).2.2
  have hdp2 : ∀ w, w < Ws.length → 1 ≤ dpF Ws w ∧ dpF Ws w ≤ 9 := fun w q => ⟨(hWW.2 w q).1, (hWW.2 w q).2.1⟩
  have hp16 : 2 ^ Ws.length ≤ 16 := (Nat.pow_le_pow_right (by omega) hW : 2 ^ Ws.length ≤ 2 ^ 4)
  have hl16 : li < 16 := by omega
  have hl : li < 256 := by omega
  have h8 := hv.1
  refine CO.lift (e_bestLid l D cI cZ cS y zt mt T.length pl Ws.length ll md ms rW mrd mrs mrp mp mb As.length mk mi sd m1 m2 m3 ml mf mw mn kst (stF Ws) kpg L li ye br n kth klo z (hTw) (hst2) (hg) (hv) (hW) (hl16) (by omega)) [0, 3, 7, 13, 14] (by decide) rfl (fun _ => rfl) (fun u hu => ?_)
  obtain ⟨o2, lf2⟩ := u
  exact ⟨rfl, nI 0, mt, md, ms, mrd, mrs, mrp, mp, mb, mk, mi, m1, m2, m3, ml, mf, mw, mn, pl, rW, ktx, kdp, kst, krd, krs, krp, kpg, kbk, kkp, kik, kon, ktw, o2, lf2, kfa, kwo, knx, ⟨(by simp only [setL, List.cons_append, List.nil_append, List.set_cons_zero, List.set_cons_succ] <;> rfl), (hT), (hDw), (hTw), (hg), (hb), (hk0), (hk1), (hp0), (hp1)⟩⟩
set_option maxHeartbeats 4000000 in
set_option maxRecDepth 100000 in
theorem E_mostPitch (l : Launch) (D : va_G) (cI cZ cS : ClassId) {y : Nat} {T : List Nat} {Ws : List (Nat × Nat)} {ll : Nat} {L : List Sg} {li : Nat} {ye : Int32} {br : Int32} {As : List SS} {sk : Nat} {s0 : SS} {s1 : SS} {sd : Int64} {n : Nat} {ws : va_W} {z : Int32} (h : MW cI cZ y T Ws ll L li ye br As sk s0 s1 sd ws) (hk : OKS n T Ws L li As sk s0 s1) (hn : n ≤ 600)  : CO l D (TY cI cZ cS) yX5_mostPitch cX5_mostPitch 7 (some .int) 2 45 0 0 [.ref y, .int z] ws (σ := LW ws) (fun _ => some (.int (mostPitchI L z))) (fun u => u.1) (fun u => MW cI cZ y T Ws ll L li ye br As sk s0 s1 sd u.1) := by
  obtain ⟨zt, mt, md, ms, mrd, mrs, mrp, mp, mb, mk, mi, m1, m2, m3, ml, mf, mw, mn, pl, rW, ktx, kdp, kst, krd, krs, krp, kpg, kbk, kkp, kik, kon, ktw, kth, klo, kfa, kwo, knx, h⟩ := h
  obtain ⟨rfl, hT, hDw, hTw, hg, hb, hk0, hk1, hp0, hp1⟩ := h
  obtain ⟨hO, hWW, hv, hli, hA12, hAs, hsk, hs0, hs1⟩ := hk
  have hW := hWW.1
  have hst2 : ∀ w, w < Ws.length → stF Ws w ≤ 2 := fun w q => (hWW.2 w q).2.2
  have hdp2 : ∀ w, w < Ws.length → 1 ≤ dpF Ws w ∧ dpF Ws w ≤ 9 := fun w q => ⟨(hWW.2 w q).1, (hWW.2 w q).2.1⟩
  have hp16 : 2 ^ Ws.length ≤ 16 := (Nat.pow_le_pow_right (by omega) hW : 2 ^ Ws.length ≤ 2 ^ 4)
  have hl16 : li < 16 := by omega
  have hl : li < 256 := by omega
  have h8 := hv.1
  refine CO.lift (e_mostPitch l D cI cZ cS y zt mt T.length pl Ws.length ll md ms rW mrd mrs mrp mp mb As.length mk mi sd m1 m2 m3 ml mf mw mn kpg L li ye br n z (hg) (hv)) [0, 7] (by decide) rfl (fun _ => rfl) (fun u hu => ?_)
  exact ⟨rfl, nI 0, mt, md, ms, mrd, mrs, mrp, mp, mb, mk, mi, m1, m2, m3, ml, mf, mw, mn, pl, rW, ktx, kdp, kst, krd, krs, krp, kpg, kbk, kkp, kik, kon, ktw, kth, klo, kfa, kwo, knx, ⟨(by simp only [setL, List.cons_append, List.nil_append, List.set_cons_zero, List.set_cons_succ] <;> rfl), (hT), (hDw), (hTw), (hg), (hb), (hk0), (hk1), (hp0), (hp1)⟩⟩
set_option maxHeartbeats 4000000 in
set_option maxRecDepth 100000 in
theorem E_truest (l : Launch) (D : va_G) (cI cZ cS : ClassId) {y : Nat} {T : List Nat} {Ws : List (Nat × Nat)} {ll : Nat} {L : List Sg} {li : Nat} {ye : Int32} {br : Int32} {As : List SS} {sk : Nat} {s0 : SS} {s1 : SS} {sd : Int64} {n : Nat} {ws : va_W} {z : Int32} (h : MW cI cZ y T Ws ll L li ye br As sk s0 s1 sd ws) (hk : OKS n T Ws L li As sk s0 s1) (hn : n ≤ 600)  : CO l D (TY cI cZ cS) yX5_truest cX5_truest 4 (some .int) 2 45 0 0 [.ref y, .int z] ws (σ := LW ws) (fun _ => some (.int (truestI L z))) (fun u => u.1) (fun u => MW cI cZ y T Ws ll L li ye br As sk s0 s1 sd u.1) := by
  obtain ⟨zt, mt, md, ms, mrd, mrs, mrp, mp, mb, mk, mi, m1, m2, m3, ml, mf, mw, mn, pl, rW, ktx, kdp, kst, krd, krs, krp, kpg, kbk, kkp, kik, kon, ktw, kth, klo, kfa, kwo, knx, h⟩ := h
  obtain ⟨rfl, hT, hDw, hTw, hg, hb, hk0, hk1, hp0, hp1⟩ := h
  obtain ⟨hO, hWW, hv, hli, hA12, hAs, hsk, hs0, hs1⟩ := hk
  have hW := hWW.1
  have hst2 : ∀ w, w < Ws.length → stF Ws w ≤ 2 := fun w q => (hWW.2 w q).2.2
  have hdp2 : ∀ w, w < Ws.length → 1 ≤ dpF Ws w ∧ dpF Ws w ≤ 9 := fun w q => ⟨(hWW.2 w q).1, (hWW.2 w q).2.1⟩
  have hp16 : 2 ^ Ws.length ≤ 16 := (Nat.pow_le_pow_right (by omega) hW : 2 ^ Ws.length ≤ 2 ^ 4)
  have hl16 : li < 16 := by omega
  have hl : li < 256 := by omega
  have h8 := hv.1
  refine CO.lift (e_truest l D cI cZ cS y zt mt T.length pl Ws.length ll md ms rW mrd mrs mrp mp mb As.length mk mi sd m1 m2 m3 ml mf mw mn kpg L li ye br n z (hg) (hv)) [0, 7] (by decide) rfl (fun _ => rfl) (fun u hu => ?_)
  exact ⟨rfl, nI 0, mt, md, ms, mrd, mrs, mrp, mp, mb, mk, mi, m1, m2, m3, ml, mf, mw, mn, pl, rW, ktx, kdp, kst, krd, krs, krp, kpg, kbk, kkp, kik, kon, ktw, kth, klo, kfa, kwo, knx, ⟨(by simp only [setL, List.cons_append, List.nil_append, List.set_cons_zero, List.set_cons_succ] <;> rfl), (hT), (hDw), (hTw), (hg), (hb), (hk0), (hk1), (hp0), (hp1)⟩⟩
set_option maxHeartbeats 4000000 in
set_option maxRecDepth 100000 in
theorem E_plan (l : Launch) (D : va_G) (cI cZ cS : ClassId) {y : Nat} {T : List Nat} {Ws : List (Nat × Nat)} {ll : Nat} {L : List Sg} {li : Nat} {ye : Int32} {br : Int32} {As : List SS} {sk : Nat} {s0 : SS} {s1 : SS} {sd : Int64} {n : Nat} {ws : va_W} {z : Int32} {z2 : Int32} (h : MW cI cZ y T Ws ll L li ye br As sk s0 s1 sd ws) (hk : OKS n T Ws L li As sk s0 s1) (hn : n ≤ 600)  : CO l D (TY cI cZ cS) yX5_plan cX5_plan 11 (some .int) 4 95 0 0 [.ref y, .int z, .int z2] ws (σ := LW ws) (fun _ => some (.int (planI ll (stF Ws) Ws.length li L z z2))) (fun u => u.1) (fun u => MW cI cZ y T Ws ll L li ye br As sk s0 s1 sd u.1) := by
  obtain ⟨zt, mt, md, ms, mrd, mrs, mrp, mp, mb, mk, mi, m1, m2, m3, ml, mf, mw, mn, pl, rW, ktx, kdp, kst, krd, krs, krp, kpg, kbk, kkp, kik, kon, ktw, kth, klo, kfa, kwo, knx, h⟩ := h
  obtain ⟨rfl, hT, hDw, hTw, hg, hb, hk0, hk1, hp0, hp1⟩ := h
  obtain ⟨hO, hWW, hv, hli, hA12, hAs, hsk, hs0, hs1⟩ := hk
  have hW := hWW.1
  have hst2 : ∀ w, w < Ws.length → stF Ws w ≤ 2 := fun w q => (hWW.2 w q).2.2
  have hdp2 : ∀ w, w < Ws.length → 1 ≤ dpF Ws w ∧ dpF Ws w ≤ 9 := fun w q => ⟨(hWW.2 w q).1, (hWW.2 w q).2.1⟩
  have hp16 : 2 ^ Ws.length ≤ 16 := (Nat.pow_le_pow_right (by omega) hW : 2 ^ Ws.length ≤ 2 ^ 4)
  have hl16 : li < 16 := by omega
  have hl : li < 256 := by omega
  have h8 := hv.1
  refine CO.lift (e_plan l D cI cZ cS y zt mt T.length pl Ws.length ll md ms rW mrd mrs mrp mp mb As.length mk mi sd m1 m2 m3 ml mf mw mn kst (stF Ws) kpg L li ye br n kon ktw klo z z2 (hTw) (hst2) (hg) (hv) (hW) (hl) (by omega)) [0, 3, 7, 11, 12, 14] (by decide) rfl (fun _ => rfl) (fun u hu => ?_)
  obtain ⟨o2, q2, lf2⟩ := u
  exact ⟨rfl, nI 0, mt, md, ms, mrd, mrs, mrp, mp, mb, mk, mi, m1, m2, m3, ml, mf, mw, mn, pl, rW, ktx, kdp, kst, krd, krs, krp, kpg, kbk, kkp, kik, o2, q2, kth, lf2, kfa, kwo, knx, ⟨(by simp only [setL, List.cons_append, List.nil_append, List.set_cons_zero, List.set_cons_succ] <;> rfl), (hT), (hDw), (hTw), (hg), (hb), (hk0), (hk1), (hp0), (hp1)⟩⟩
set_option maxHeartbeats 4000000 in
set_option maxRecDepth 100000 in
theorem E_lamps (l : Launch) (D : va_G) (cI cZ cS : ClassId) {y : Nat} {T : List Nat} {Ws : List (Nat × Nat)} {ll : Nat} {L : List Sg} {li : Nat} {ye : Int32} {br : Int32} {As : List SS} {sk : Nat} {s0 : SS} {s1 : SS} {sd : Int64} {n : Nat} {ws : va_W}  (h : MW cI cZ y T Ws ll L li ye br As sk s0 s1 sd ws) (hk : OKS n T Ws L li As sk s0 s1) (hn : n ≤ 600)  : CO l D (TY cI cZ cS) yX5_lamps cX5_lamps 7 (some .int) 2 50 0 0 [.ref y] ws (σ := LW ws) (fun _ => some (.int (lampsI L li (dpF Ws) Ws.length))) (fun u => u.1) (fun u => MW cI cZ y T Ws ll L li ye br As sk s0 s1 sd u.1) := by
  obtain ⟨zt, mt, md, ms, mrd, mrs, mrp, mp, mb, mk, mi, m1, m2, m3, ml, mf, mw, mn, pl, rW, ktx, kdp, kst, krd, krs, krp, kpg, kbk, kkp, kik, kon, ktw, kth, klo, kfa, kwo, knx, h⟩ := h
  obtain ⟨rfl, hT, hDw, hTw, hg, hb, hk0, hk1, hp0, hp1⟩ := h
  obtain ⟨hO, hWW, hv, hli, hA12, hAs, hsk, hs0, hs1⟩ := hk
  have hW := hWW.1
  have hst2 : ∀ w, w < Ws.length → stF Ws w ≤ 2 := fun w q => (hWW.2 w q).2.2
  have hdp2 : ∀ w, w < Ws.length → 1 ≤ dpF Ws w ∧ dpF Ws w ≤ 9 := fun w q => ⟨(hWW.2 w q).1, (hWW.2 w q).2.1⟩
  have hp16 : 2 ^ Ws.length ≤ 16 := (Nat.pow_le_pow_right (by omega) hW : 2 ^ Ws.length ≤ 2 ^ 4)
  have hl16 : li < 16 := by omega
  have hl : li < 256 := by omega
  have h8 := hv.1
  refine CO.lift (e_lamps l D cI cZ cS y zt mt T.length pl Ws.length ll md ms rW mrd mrs mrp mp mb As.length mk mi sd m1 m2 m3 ml mf mw mn kpg L li ye br n kdp (dpF Ws) kfa (hg) (hv) (hDw) (hdp2) (hW) (hl) (by omega)) [0, 2, 7, 15] (by decide) rfl (fun _ => rfl) (fun f2 hu => ?_)
  exact ⟨rfl, nI 0, mt, md, ms, mrd, mrs, mrp, mp, mb, mk, mi, m1, m2, m3, ml, mf, mw, mn, pl, rW, ktx, kdp, kst, krd, krs, krp, kpg, kbk, kkp, kik, kon, ktw, kth, klo, f2, kwo, knx, ⟨(by simp only [setL, List.cons_append, List.nil_append, List.set_cons_zero, List.set_cons_succ] <;> rfl), (hT), (hDw), (hTw), (hg), (hb), (hk0), (hk1), (hp0), (hp1)⟩⟩
set_option maxHeartbeats 4000000 in
set_option maxRecDepth 100000 in
theorem E_back (l : Launch) (D : va_G) (cI cZ cS : ClassId) {y : Nat} {T : List Nat} {Ws : List (Nat × Nat)} {ll : Nat} {L : List Sg} {li : Nat} {ye : Int32} {br : Int32} {As : List SS} {sk : Nat} {s0 : SS} {s1 : SS} {sd : Int64} {n : Nat} {ws : va_W} {z : Int32} {z2 : Int32} {z3 : Int32} (h : MW cI cZ y T Ws ll L li ye br As sk s0 s1 sd ws) (hk : OKS n T Ws L li As sk s0 s1) (hn : n ≤ 600)  : CO l D (TY cI cZ cS) yX5_back cX5_back 4 (some .int) 2 46 0 0 [.ref y, .int z, .int z2, .int z3] ws (σ := LW ws) (fun _ => some (.int (backI Ws.length (stF Ws) li z z2 z3))) (fun u => u.1) (fun u => MW cI cZ y T Ws ll L li ye br As sk s0 s1 sd u.1) := by
  obtain ⟨zt, mt, md, ms, mrd, mrs, mrp, mp, mb, mk, mi, m1, m2, m3, ml, mf, mw, mn, pl, rW, ktx, kdp, kst, krd, krs, krp, kpg, kbk, kkp, kik, kon, ktw, kth, klo, kfa, kwo, knx, h⟩ := h
  obtain ⟨rfl, hT, hDw, hTw, hg, hb, hk0, hk1, hp0, hp1⟩ := h
  obtain ⟨hO, hWW, hv, hli, hA12, hAs, hsk, hs0, hs1⟩ := hk
  have hW := hWW.1
  have hst2 : ∀ w, w < Ws.length → stF Ws w ≤ 2 := fun w q => (hWW.2 w q).2.2
  have hdp2 : ∀ w, w < Ws.length → 1 ≤ dpF Ws w ∧ dpF Ws w ≤ 9 := fun w q => ⟨(hWW.2 w q).1, (hWW.2 w q).2.1⟩
  have hp16 : 2 ^ Ws.length ≤ 16 := (Nat.pow_le_pow_right (by omega) hW : 2 ^ Ws.length ≤ 2 ^ 4)
  have hl16 : li < 16 := by omega
  have hl : li < 256 := by omega
  have h8 := hv.1
  refine CO.lift (e_back l D cI cZ cS y zt mt T.length pl Ws.length ll md ms rW mrd mrs mrp mp mb As.length mk mi sd m1 m2 m3 ml mf mw mn kst (stF Ws) kpg L li ye br z z2 z3 (hTw) (hst2) (hg) (h8) (hW) (hl)) [0, 3, 7] (by decide) rfl (fun _ => rfl) (fun u hu => ?_)
  exact ⟨rfl, nI 0, mt, md, ms, mrd, mrs, mrp, mp, mb, mk, mi, m1, m2, m3, ml, mf, mw, mn, pl, rW, ktx, kdp, kst, krd, krs, krp, kpg, kbk, kkp, kik, kon, ktw, kth, klo, kfa, kwo, knx, ⟨(by simp only [setL, List.cons_append, List.nil_append, List.set_cons_zero, List.set_cons_succ] <;> rfl), (hT), (hDw), (hTw), (hg), (hb), (hk0), (hk1), (hp0), (hp1)⟩⟩
set_option maxHeartbeats 4000000 in
set_option maxRecDepth 100000 in
theorem E_lords (l : Launch) (D : va_G) (cI cZ cS : ClassId) {y : Nat} {T : List Nat} {Ws : List (Nat × Nat)} {ll : Nat} {L : List Sg} {li : Nat} {ye : Int32} {br : Int32} {As : List SS} {sk : Nat} {s0 : SS} {s1 : SS} {sd : Int64} {n : Nat} {ws : va_W} {z : Int32} {z2 : Int32} (h : MW cI cZ y T Ws ll L li ye br As sk s0 s1 sd ws) (hk : OKS n T Ws L li As sk s0 s1) (hn : n ≤ 600)  : CO l D (TY cI cZ cS) yX5_lords cX5_lords 11 (some .int) 5 112 0 0 [.ref y, .int z, .int z2] ws (σ := LW ws) (fun _ => some (.int (lordsI ll (stF Ws) Ws.length li L z z2))) (fun u => u.1) (fun u => MW cI cZ y T Ws ll L li ye br As sk s0 s1 sd u.1) := by
  obtain ⟨zt, mt, md, ms, mrd, mrs, mrp, mp, mb, mk, mi, m1, m2, m3, ml, mf, mw, mn, pl, rW, ktx, kdp, kst, krd, krs, krp, kpg, kbk, kkp, kik, kon, ktw, kth, klo, kfa, kwo, knx, h⟩ := h
  obtain ⟨rfl, hT, hDw, hTw, hg, hb, hk0, hk1, hp0, hp1⟩ := h
  obtain ⟨hO, hWW, hv, hli, hA12, hAs, hsk, hs0, hs1⟩ := hk
  have hW := hWW.1
  have hst2 : ∀ w, w < Ws.length → stF Ws w ≤ 2 := fun w q => (hWW.2 w q).2.2
  have hdp2 : ∀ w, w < Ws.length → 1 ≤ dpF Ws w ∧ dpF Ws w ≤ 9 := fun w q => ⟨(hWW.2 w q).1, (hWW.2 w q).2.1⟩
  have hp16 : 2 ^ Ws.length ≤ 16 := (Nat.pow_le_pow_right (by omega) hW : 2 ^ Ws.length ≤ 2 ^ 4)
  have hl16 : li < 16 := by omega
  have hl : li < 256 := by omega
  have h8 := hv.1
  refine CO.lift (e_lords l D cI cZ cS y zt mt T.length pl Ws.length ll md ms rW mrd mrs mrp mp mb As.length mk mi sd m1 m2 m3 ml mf mw mn kst (stF Ws) kpg L li ye br n kth klo kwo knx z z2 (hTw) (hst2) (hg) (hv) (hW) (hli) (by omega)) [0, 3, 7, 13, 14, 16, 17] (by decide) rfl (fun _ => rfl) (fun u hu => ?_)
  obtain ⟨o2, lf2, w2, n2⟩ := u
  exact ⟨rfl, nI 0, mt, md, ms, mrd, mrs, mrp, mp, mb, mk, mi, m1, m2, m3, ml, mf, mw, mn, pl, rW, ktx, kdp, kst, krd, krs, krp, kpg, kbk, kkp, kik, kon, ktw, o2, lf2, kfa, w2, n2, ⟨(by simp only [setL, List.cons_append, List.nil_append, List.set_cons_zero, List.set_cons_succ] <;> rfl), (hT), (hDw), (hTw), (hg), (hb), (hk0), (hk1), (hp0), (hp1)⟩⟩
set_option maxHeartbeats 4000000 in
set_option maxRecDepth 100000 in
theorem E_rain (l : Launch) (D : va_G) (cI cZ cS : ClassId) {y : Nat} {T : List Nat} {Ws : List (Nat × Nat)} {ll : Nat} {L : List Sg} {li : Nat} {ye : Int32} {br : Int32} {As : List SS} {sk : Nat} {s0 : SS} {s1 : SS} {sd : Int64} {n : Nat} {ws : va_W} {z : Int32} {z2 : Int32} {up : Bool} (h : MW cI cZ y T Ws ll L li ye br As sk s0 s1 sd ws) (hk : OKS n T Ws L li As sk s0 s1) (hn : n ≤ 600)  : CO l D (TY cI cZ cS) yX5_rain cX5_rain 9 (some .int) 2 51 0 0 [.ref y, .int z, .int z2, .int (bz up)] ws (σ := LW ws) (fun _ => some (.int (rainI Ws.length li L z z2 up))) (fun u => u.1) (fun u => MW cI cZ y T Ws ll L li ye br As sk s0 s1 sd u.1) := by
  obtain ⟨zt, mt, md, ms, mrd, mrs, mrp, mp, mb, mk, mi, m1, m2, m3, ml, mf, mw, mn, pl, rW, ktx, kdp, kst, krd, krs, krp, kpg, kbk, kkp, kik, kon, ktw, kth, klo, kfa, kwo, knx, h⟩ := h
  obtain ⟨rfl, hT, hDw, hTw, hg, hb, hk0, hk1, hp0, hp1⟩ := h
  obtain ⟨hO, hWW, hv, hli, hA12, hAs, hsk, hs0, hs1⟩ := hk
  have hW := hWW.1
  have hst2 : ∀ w, w < Ws.length → stF Ws w ≤ 2 := fun w q => (hWW.2 w q).2.2
  have hdp2 : ∀ w, w < Ws.length → 1 ≤ dpF Ws w ∧ dpF Ws w ≤ 9 := fun w q => ⟨(hWW.2 w q).1, (hWW.2 w q).2.1⟩
  have hp16 : 2 ^ Ws.length ≤ 16 := (Nat.pow_le_pow_right (by omega) hW : 2 ^ Ws.length ≤ 2 ^ 4)
  have hl16 : li < 16 := by omega
  have hl : li < 256 := by omega
  have h8 := hv.1
  refine CO.lift (e_rain l D cI cZ cS y zt mt T.length pl Ws.length ll md ms rW mrd mrs mrp mp mb As.length mk mi sd m1 m2 m3 ml mf mw mn kpg L li ye br n kon klo z z2 up (hg) (hv) (hW) (hli) (by omega)) [0, 7, 11, 14] (by decide) rfl (fun _ => rfl) (fun u hu => ?_)
  obtain ⟨o2, lf2⟩ := u
  exact ⟨rfl, nI 0, mt, md, ms, mrd, mrs, mrp, mp, mb, mk, mi, m1, m2, m3, ml, mf, mw, mn, pl, rW, ktx, kdp, kst, krd, krs, krp, kpg, kbk, kkp, kik, o2, ktw, kth, lf2, kfa, kwo, knx, ⟨(by simp only [setL, List.cons_append, List.nil_append, List.set_cons_zero, List.set_cons_succ] <;> rfl), (hT), (hDw), (hTw), (hg), (hb), (hk0), (hk1), (hp0), (hp1)⟩⟩
set_option maxHeartbeats 4000000 in
set_option maxRecDepth 100000 in
theorem E_seed (l : Launch) (D : va_G) (cI cZ cS : ClassId) {y : Nat} {T : List Nat} {Ws : List (Nat × Nat)} {ll : Nat} {L : List Sg} {li : Nat} {ye : Int32} {br : Int32} {As : List SS} {sk : Nat} {s0 : SS} {s1 : SS} {sd : Int64} {n : Nat} {ws : va_W} {v : Int64} (h : MW cI cZ y T Ws ll L li ye br As sk s0 s1 sd ws) (hk : OKS n T Ws L li As sk s0 s1) (hn : n ≤ 600)  : CO l D (TY cI cZ cS) yX5_seed cX5_seed 5 (some .long) 0 0 0 0 [.ref y, .long v] ws (σ := LW ws) (fun _ => some (.long (sd))) (fun u => u.1) (fun u => MW cI cZ y T Ws ll L li ye br As sk s0 s1 v u.1) := by
  obtain ⟨zt, mt, md, ms, mrd, mrs, mrp, mp, mb, mk, mi, m1, m2, m3, ml, mf, mw, mn, pl, rW, ktx, kdp, kst, krd, krs, krp, kpg, kbk, kkp, kik, kon, ktw, kth, klo, kfa, kwo, knx, h⟩ := h
  obtain ⟨rfl, hT, hDw, hTw, hg, hb, hk0, hk1, hp0, hp1⟩ := h
  obtain ⟨hO, hWW, hv, hli, hA12, hAs, hsk, hs0, hs1⟩ := hk
  have hW := hWW.1
  have hst2 : ∀ w, w < Ws.length → stF Ws w ≤ 2 := fun w q => (hWW.2 w q).2.2
  have hdp2 : ∀ w, w < Ws.length → 1 ≤ dpF Ws w ∧ dpF Ws w ≤ 9 := fun w q => ⟨(hWW.2 w q).1, (hWW.2 w q).2.1⟩
  have hp16 : 2 ^ Ws.length ≤ 16 := (Nat.pow_le_pow_right (by omega) hW : 2 ^ Ws.length ≤ 2 ^ 4)
  have hl16 : li < 16 := by omega
  have hl : li < 256 := by omega
  have h8 := hv.1
  refine CO.lift (e_seed l D cI cZ cS y zt mt T.length pl Ws.length ll md ms rW mrd mrs mrp mp mb As.length mk mi sd m1 m2 m3 ml mf mw mn v ) [0] (by decide) rfl (fun _ => rfl) (fun u hu => ?_)
  exact ⟨rfl, nI 0, mt, md, ms, mrd, mrs, mrp, mp, mb, mk, mi, m1, m2, m3, ml, mf, mw, mn, pl, rW, ktx, kdp, kst, krd, krs, krp, kpg, kbk, kkp, kik, kon, ktw, kth, klo, kfa, kwo, knx, ⟨(by simp only [setL, List.cons_append, List.nil_append, List.set_cons_zero, List.set_cons_succ] <;> rfl), (hT), (hDw), (hTw), (hg), (hb), (hk0), (hk1), (hp0), (hp1)⟩⟩
set_option maxHeartbeats 4000000 in
set_option maxRecDepth 100000 in
theorem E_rains (l : Launch) (D : va_G) (cI cZ cS : ClassId) {y : Nat} {T : List Nat} {Ws : List (Nat × Nat)} {ll : Nat} {L : List Sg} {li : Nat} {ye : Int32} {br : Int32} {As : List SS} {sk : Nat} {s0 : SS} {s1 : SS} {sd : Int64} {n : Nat} {ws : va_W} {z : Int32} {z2 : Int32} (h : MW cI cZ y T Ws ll L li ye br As sk s0 s1 sd ws) (hk : OKS n T Ws L li As sk s0 s1) (hn : n ≤ 600)  : CO l D (TY cI cZ cS) yX5_rains cX5_rains 6 (some .int) 3 67 0 0 [.ref y, .int z, .int z2] ws (σ := LW ws) (fun _ => some (.int ((rainsI (stF Ws) Ws.length li L sd z z2).1))) (fun u => u.1) (fun u => MW cI cZ y T Ws ll L li ye br As sk s0 s1 ((rainsI (stF Ws) Ws.length li L sd z z2).2) u.1) := by
  obtain ⟨zt, mt, md, ms, mrd, mrs, mrp, mp, mb, mk, mi, m1, m2, m3, ml, mf, mw, mn, pl, rW, ktx, kdp, kst, krd, krs, krp, kpg, kbk, kkp, kik, kon, ktw, kth, klo, kfa, kwo, knx, h⟩ := h
  obtain ⟨rfl, hT, hDw, hTw, hg, hb, hk0, hk1, hp0, hp1⟩ := h
  obtain ⟨hO, hWW, hv, hli, hA12, hAs, hsk, hs0, hs1⟩ := hk
  have hW := hWW.1
  have hst2 : ∀ w, w < Ws.length → stF Ws w ≤ 2 := fun w q => (hWW.2 w q).2.2
  have hdp2 : ∀ w, w < Ws.length → 1 ≤ dpF Ws w ∧ dpF Ws w ≤ 9 := fun w q => ⟨(hWW.2 w q).1, (hWW.2 w q).2.1⟩
  have hp16 : 2 ^ Ws.length ≤ 16 := (Nat.pow_le_pow_right (by omega) hW : 2 ^ Ws.length ≤ 2 ^ 4)
  have hl16 : li < 16 := by omega
  have hl : li < 256 := by omega
  have h8 := hv.1
  refine CO.lift (e_rains l D cI cZ cS y zt mt T.length pl Ws.length ll md ms rW mrd mrs mrp mp mb As.length mk mi sd m1 m2 m3 ml mf mw mn kst (stF Ws) kpg L li ye br n kon klo z z2 (hTw) (hst2) (hg) (hv) (hW) (hl) (by omega)) [0, 3, 7, 11, 14] (by decide) rfl (fun _ => rfl) (fun u hu => ?_)
  obtain ⟨o2, lf2⟩ := u
  exact ⟨rfl, nI 0, mt, md, ms, mrd, mrs, mrp, mp, mb, mk, mi, m1, m2, m3, ml, mf, mw, mn, pl, rW, ktx, kdp, kst, krd, krs, krp, kpg, kbk, kkp, kik, o2, ktw, kth, lf2, kfa, kwo, knx, ⟨(by simp only [setL, List.cons_append, List.nil_append, List.set_cons_zero, List.set_cons_succ] <;> rfl), (hT), (hDw), (hTw), (hg), (hb), (hk0), (hk1), (hp0), (hp1)⟩⟩
set_option maxHeartbeats 4000000 in
set_option maxRecDepth 100000 in
theorem E_keep0 (l : Launch) (D : va_G) (cI cZ cS : ClassId) {y : Nat} {T : List Nat} {Ws : List (Nat × Nat)} {ll : Nat} {L : List Sg} {li : Nat} {ye : Int32} {br : Int32} {As : List SS} {sk : Nat} {s0 : SS} {s1 : SS} {sd : Int64} {n : Nat} {ws : va_W} {z : Int32} (h : MW cI cZ y T Ws ll L li ye br As sk s0 s1 sd ws) (hk : OKS n T Ws L li As sk s0 s1) (hn : n ≤ 600) (hz : ¬ inB z (nI 0) (nI 1) = true) : CO l D (TY cI cZ cS) yX5_keep cX5_keep 3 (some .int) 1 25 0 0 [.ref y, .int z] ws (σ := LW ws) (fun _ => some (.int ((-1)))) (fun u => u.1) (fun u => MW cI cZ y T Ws ll L li ye br As sk s0 s1 sd u.1) := by
  obtain ⟨zt, mt, md, ms, mrd, mrs, mrp, mp, mb, mk, mi, m1, m2, m3, ml, mf, mw, mn, pl, rW, ktx, kdp, kst, krd, krs, krp, kpg, kbk, kkp, kik, kon, ktw, kth, klo, kfa, kwo, knx, h⟩ := h
  obtain ⟨rfl, hT, hDw, hTw, hg, hb, hk0, hk1, hp0, hp1⟩ := h
  obtain ⟨hO, hWW, hv, hli, hA12, hAs, hsk, hs0, hs1⟩ := hk
  have hW := hWW.1
  have hst2 : ∀ w, w < Ws.length → stF Ws w ≤ 2 := fun w q => (hWW.2 w q).2.2
  have hdp2 : ∀ w, w < Ws.length → 1 ≤ dpF Ws w ∧ dpF Ws w ≤ 9 := fun w q => ⟨(hWW.2 w q).1, (hWW.2 w q).2.1⟩
  have hp16 : 2 ^ Ws.length ≤ 16 := (Nat.pow_le_pow_right (by omega) hW : 2 ^ Ws.length ≤ 2 ^ 4)
  have hl16 : li < 16 := by omega
  have hl : li < 256 := by omega
  have h8 := hv.1
  refine CO.lift (e_keep0 l D cI cZ cS y zt mt T.length pl Ws.length ll md ms rW mrd mrs mrp mp mb As.length mk mi sd m1 m2 m3 ml mf mw mn z (hz)) [0] (by decide) rfl (fun _ => rfl) (fun u hu => ?_)
  exact ⟨rfl, nI 0, mt, md, ms, mrd, mrs, mrp, mp, mb, mk, mi, m1, m2, m3, ml, mf, mw, mn, pl, rW, ktx, kdp, kst, krd, krs, krp, kpg, kbk, kkp, kik, kon, ktw, kth, klo, kfa, kwo, knx, ⟨(by simp only [setL, List.cons_append, List.nil_append, List.set_cons_zero, List.set_cons_succ] <;> rfl), (hT), (hDw), (hTw), (hg), (hb), (hk0), (hk1), (hp0), (hp1)⟩⟩
set_option maxHeartbeats 4000000 in
set_option maxRecDepth 100000 in
theorem E_keepA (l : Launch) (D : va_G) (cI cZ cS : ClassId) {y : Nat} {T : List Nat} {Ws : List (Nat × Nat)} {ll : Nat} {L : List Sg} {li : Nat} {ye : Int32} {br : Int32} {As : List SS} {sk : Nat} {s0 : SS} {s1 : SS} {sd : Int64} {n : Nat} {ws : va_W}  (h : MW cI cZ y T Ws ll L li ye br As sk s0 s1 sd ws) (hk : OKS n T Ws L li As sk s0 s1) (hn : n ≤ 600)  : CO l D (TY cI cZ cS) yX5_keep cX5_keep 3 (some .int) 1 25 0 0 [.ref y, .int (nI 0)] ws (σ := LW ws) (fun _ => some (.int (nI L.length))) (fun u => u.1) (fun u => MW cI cZ y T Ws ll L li ye br As (sk ||| 1) (L, li, ye, br) s1 sd u.1) := by
  obtain ⟨zt, mt, md, ms, mrd, mrs, mrp, mp, mb, mk, mi, m1, m2, m3, ml, mf, mw, mn, pl, rW, ktx, kdp, kst, krd, krs, krp, kpg, kbk, kkp, kik, kon, ktw, kth, klo, kfa, kwo, knx, h⟩ := h
  obtain ⟨rfl, hT, hDw, hTw, hg, hb, hk0, hk1, hp0, hp1⟩ := h
  obtain ⟨hO, hWW, hv, hli, hA12, hAs, hsk, hs0, hs1⟩ := hk
  have hW := hWW.1
  have hst2 : ∀ w, w < Ws.length → stF Ws w ≤ 2 := fun w q => (hWW.2 w q).2.2
  have hdp2 : ∀ w, w < Ws.length → 1 ≤ dpF Ws w ∧ dpF Ws w ≤ 9 := fun w q => ⟨(hWW.2 w q).1, (hWW.2 w q).2.1⟩
  have hp16 : 2 ^ Ws.length ≤ 16 := (Nat.pow_le_pow_right (by omega) hW : 2 ^ Ws.length ≤ 2 ^ 4)
  have hl16 : li < 16 := by omega
  have hl : li < 256 := by omega
  have h8 := hv.1
  refine CO.lift (e_keep l D cI cZ cS y zt mt T.length pl Ws.length ll md ms rW mrd mrs mrp mp mb As.length mk mi sd m1 m2 m3 ml mf mw mn kpg L li ye br kkp kik 0 (hg) (h8) (by first | assumption | omega)) [0, 7, 9, 10] (by decide) rfl (fun _ => rfl) (fun k2 hu => ?_)
  obtain ⟨hk2, hk3⟩ := hu
  exact ⟨rfl, nI 0, mt, md, ms, mrd, mrs, mrp, mp, mb, mk, mi, m1, m2, m3, ml, mf, mw, mn, pl, rW, ktx, kdp, kst, krd, krs, krp, kpg, kbk, k2, (upd kik 0 (nI 1)), kon, ktw, kth, klo, kfa, kwo, knx, ⟨(by simp only [setL, List.cons_append, List.nil_append, List.set_cons_zero, List.set_cons_succ] <;> rfl), (hT), (hDw), (hTw), (hg), (hb), (by rw [Nat.testBit_or, show Nat.testBit 1 0 = true from by decide, Bool.or_true]; exact upd_s), (by rw [Nat.testBit_or, show Nat.testBit 1 1 = false from by decide, Bool.or_false]; exact (upd_n (by omega)).trans hk1), (fun _ => hk2), (fun q => pgr_same (hp1 (by rw [Nat.testBit_or, show Nat.testBit 1 1 = false from by decide, Bool.or_false] at q; exact q)) (hs1 (by rw [Nat.testBit_or, show Nat.testBit 1 1 = false from by decide, Bool.or_false] at q; exact q)).1.1 (fun t ht => hk3 t ht))⟩⟩
set_option maxHeartbeats 4000000 in
set_option maxRecDepth 100000 in
theorem E_keepB (l : Launch) (D : va_G) (cI cZ cS : ClassId) {y : Nat} {T : List Nat} {Ws : List (Nat × Nat)} {ll : Nat} {L : List Sg} {li : Nat} {ye : Int32} {br : Int32} {As : List SS} {sk : Nat} {s0 : SS} {s1 : SS} {sd : Int64} {n : Nat} {ws : va_W}  (h : MW cI cZ y T Ws ll L li ye br As sk s0 s1 sd ws) (hk : OKS n T Ws L li As sk s0 s1) (hn : n ≤ 600)  : CO l D (TY cI cZ cS) yX5_keep cX5_keep 3 (some .int) 1 25 0 0 [.ref y, .int (nI 1)] ws (σ := LW ws) (fun _ => some (.int (nI L.length))) (fun u => u.1) (fun u => MW cI cZ y T Ws ll L li ye br As (sk ||| 2) s0 (L, li, ye, br) sd u.1) := by
  obtain ⟨zt, mt, md, ms, mrd, mrs, mrp, mp, mb, mk, mi, m1, m2, m3, ml, mf, mw, mn, pl, rW, ktx, kdp, kst, krd, krs, krp, kpg, kbk, kkp, kik, kon, ktw, kth, klo, kfa, kwo, knx, h⟩ := h
  obtain ⟨rfl, hT, hDw, hTw, hg, hb, hk0, hk1, hp0, hp1⟩ := h
  obtain ⟨hO, hWW, hv, hli, hA12, hAs, hsk, hs0, hs1⟩ := hk
  have hW := hWW.1
  have hst2 : ∀ w, w < Ws.length → stF Ws w ≤ 2 := fun w q => (hWW.2 w q).2.2
  have hdp2 : ∀ w, w < Ws.length → 1 ≤ dpF Ws w ∧ dpF Ws w ≤ 9 := fun w q => ⟨(hWW.2 w q).1, (hWW.2 w q).2.1⟩
  have hp16 : 2 ^ Ws.length ≤ 16 := (Nat.pow_le_pow_right (by omega) hW : 2 ^ Ws.length ≤ 2 ^ 4)
  have hl16 : li < 16 := by omega
  have hl : li < 256 := by omega
  have h8 := hv.1
  refine CO.lift (e_keep l D cI cZ cS y zt mt T.length pl Ws.length ll md ms rW mrd mrs mrp mp mb As.length mk mi sd m1 m2 m3 ml mf mw mn kpg L li ye br kkp kik 1 (hg) (h8) (by first | assumption | omega)) [0, 7, 9, 10] (by decide) rfl (fun _ => rfl) (fun k2 hu => ?_)
  obtain ⟨hk2, hk3⟩ := hu
  exact ⟨rfl, nI 0, mt, md, ms, mrd, mrs, mrp, mp, mb, mk, mi, m1, m2, m3, ml, mf, mw, mn, pl, rW, ktx, kdp, kst, krd, krs, krp, kpg, kbk, k2, (upd kik 1 (nI 1)), kon, ktw, kth, klo, kfa, kwo, knx, ⟨(by simp only [setL, List.cons_append, List.nil_append, List.set_cons_zero, List.set_cons_succ] <;> rfl), (hT), (hDw), (hTw), (hg), (hb), (by rw [Nat.testBit_or, show Nat.testBit 2 0 = false from by decide, Bool.or_false]; exact (upd_n (by omega)).trans hk0), (by rw [Nat.testBit_or, show Nat.testBit 2 1 = true from by decide, Bool.or_true]; exact upd_s), (fun q => pgr_same (hp0 (by rw [Nat.testBit_or, show Nat.testBit 2 0 = false from by decide, Bool.or_false] at q; exact q)) (hs0 (by rw [Nat.testBit_or, show Nat.testBit 2 0 = false from by decide, Bool.or_false] at q; exact q)).1.1 (fun t ht => hk3 t ht)), (fun _ => hk2)⟩⟩
set_option maxHeartbeats 4000000 in
set_option maxRecDepth 100000 in
theorem E_again0 (l : Launch) (D : va_G) (cI cZ cS : ClassId) {y : Nat} {T : List Nat} {Ws : List (Nat × Nat)} {ll : Nat} {L : List Sg} {li : Nat} {ye : Int32} {br : Int32} {As : List SS} {sk : Nat} {s0 : SS} {s1 : SS} {sd : Int64} {n : Nat} {ws : va_W} {z : Int32} (h : MW cI cZ y T Ws ll L li ye br As sk s0 s1 sd ws) (hk : OKS n T Ws L li As sk s0 s1) (hn : n ≤ 600) (hz : ¬ inB z (nI 0) (nI 1) = true) : CO l D (TY cI cZ cS) yX5_again cX5_again 3 (some .int) 1 25 0 0 [.ref y, .int z] ws (σ := LW ws) (fun _ => some (.int ((-1)))) (fun u => u.1) (fun u => MW cI cZ y T Ws ll L li ye br As sk s0 s1 sd u.1) := by
  obtain ⟨zt, mt, md, ms, mrd, mrs, mrp, mp, mb, mk, mi, m1, m2, m3, ml, mf, mw, mn, pl, rW, ktx, kdp, kst, krd, krs, krp, kpg, kbk, kkp, kik, kon, ktw, kth, klo, kfa, kwo, knx, h⟩ := h
  obtain ⟨rfl, hT, hDw, hTw, hg, hb, hk0, hk1, hp0, hp1⟩ := h
  obtain ⟨hO, hWW, hv, hli, hA12, hAs, hsk, hs0, hs1⟩ := hk
  have hW := hWW.1
  have hst2 : ∀ w, w < Ws.length → stF Ws w ≤ 2 := fun w q => (hWW.2 w q).2.2
  have hdp2 : ∀ w, w < Ws.length → 1 ≤ dpF Ws w ∧ dpF Ws w ≤ 9 := fun w q => ⟨(hWW.2 w q).1, (hWW.2 w q).2.1⟩
  have hp16 : 2 ^ Ws.length ≤ 16 := (Nat.pow_le_pow_right (by omega) hW : 2 ^ Ws.length ≤ 2 ^ 4)
  have hl16 : li < 16 := by omega
  have hl : li < 256 := by omega
  have h8 := hv.1
  refine CO.lift (e_again0 l D cI cZ cS y zt mt T.length pl Ws.length ll md ms rW mrd mrs mrp mp mb As.length mk mi sd m1 m2 m3 ml mf mw mn z (hz)) [0] (by decide) rfl (fun _ => rfl) (fun u hu => ?_)
  exact ⟨rfl, nI 0, mt, md, ms, mrd, mrs, mrp, mp, mb, mk, mi, m1, m2, m3, ml, mf, mw, mn, pl, rW, ktx, kdp, kst, krd, krs, krp, kpg, kbk, kkp, kik, kon, ktw, kth, klo, kfa, kwo, knx, ⟨(by simp only [setL, List.cons_append, List.nil_append, List.set_cons_zero, List.set_cons_succ] <;> rfl), (hT), (hDw), (hTw), (hg), (hb), (hk0), (hk1), (hp0), (hp1)⟩⟩
set_option maxHeartbeats 4000000 in
set_option maxRecDepth 100000 in
theorem E_againNA (l : Launch) (D : va_G) (cI cZ cS : ClassId) {y : Nat} {T : List Nat} {Ws : List (Nat × Nat)} {ll : Nat} {L : List Sg} {li : Nat} {ye : Int32} {br : Int32} {As : List SS} {sk : Nat} {s0 : SS} {s1 : SS} {sd : Int64} {n : Nat} {ws : va_W}  (h : MW cI cZ y T Ws ll L li ye br As sk s0 s1 sd ws) (hk : OKS n T Ws L li As sk s0 s1) (hn : n ≤ 600) (hb2 : sk.testBit 0 = false) : CO l D (TY cI cZ cS) yX5_again cX5_again 3 (some .int) 1 25 0 0 [.ref y, .int (nI 0)] ws (σ := LW ws) (fun _ => some (.int ((-3)))) (fun u => u.1) (fun u => MW cI cZ y T Ws ll L li ye br As sk s0 s1 sd u.1) := by
  obtain ⟨zt, mt, md, ms, mrd, mrs, mrp, mp, mb, mk, mi, m1, m2, m3, ml, mf, mw, mn, pl, rW, ktx, kdp, kst, krd, krs, krp, kpg, kbk, kkp, kik, kon, ktw, kth, klo, kfa, kwo, knx, h⟩ := h
  obtain ⟨rfl, hT, hDw, hTw, hg, hb, hk0, hk1, hp0, hp1⟩ := h
  obtain ⟨hO, hWW, hv, hli, hA12, hAs, hsk, hs0, hs1⟩ := hk
  have hW := hWW.1
  have hst2 : ∀ w, w < Ws.length → stF Ws w ≤ 2 := fun w q => (hWW.2 w q).2.2
  have hdp2 : ∀ w, w < Ws.length → 1 ≤ dpF Ws w ∧ dpF Ws w ≤ 9 := fun w q => ⟨(hWW.2 w q).1, (hWW.2 w q).2.1⟩
  have hp16 : 2 ^ Ws.length ≤ 16 := (Nat.pow_le_pow_right (by omega) hW : 2 ^ Ws.length ≤ 2 ^ 4)
  have hl16 : li < 16 := by omega
  have hl : li < 256 := by omega
  have h8 := hv.1
  refine CO.lift (e_againN l D cI cZ cS y zt mt T.length pl Ws.length ll md ms rW mrd mrs mrp mp mb As.length mk mi sd m1 m2 m3 ml mf mw mn kik 0 (by omega) (by rw [hk0, hb2]; rfl)) [0, 10] (by decide) rfl (fun _ => rfl) (fun u hu => ?_)
  exact ⟨rfl, nI 0, mt, md, ms, mrd, mrs, mrp, mp, mb, mk, mi, m1, m2, m3, ml, mf, mw, mn, pl, rW, ktx, kdp, kst, krd, krs, krp, kpg, kbk, kkp, kik, kon, ktw, kth, klo, kfa, kwo, knx, ⟨(by simp only [setL, List.cons_append, List.nil_append, List.set_cons_zero, List.set_cons_succ] <;> rfl), (hT), (hDw), (hTw), (hg), (hb), (hk0), (hk1), (hp0), (hp1)⟩⟩
set_option maxHeartbeats 4000000 in
set_option maxRecDepth 100000 in
theorem E_againA (l : Launch) (D : va_G) (cI cZ cS : ClassId) {y : Nat} {T : List Nat} {Ws : List (Nat × Nat)} {ll : Nat} {L : List Sg} {li : Nat} {ye : Int32} {br : Int32} {As : List SS} {sk : Nat} {s0 : SS} {s1 : SS} {sd : Int64} {n : Nat} {ws : va_W}  (h : MW cI cZ y T Ws ll L li ye br As sk s0 s1 sd ws) (hk : OKS n T Ws L li As sk s0 s1) (hn : n ≤ 600) (hb2 : sk.testBit 0 = true) : CO l D (TY cI cZ cS) yX5_again cX5_again 3 (some .int) 1 25 0 0 [.ref y, .int (nI 0)] ws (σ := LW ws) (fun _ => some (.int (nI s0.1.length))) (fun u => u.1) (fun u => MW cI cZ y T Ws ll s0.1 s0.2.1 s0.2.2.1 s0.2.2.2 ([]) sk s0 s1 sd u.1) := by
  obtain ⟨zt, mt, md, ms, mrd, mrs, mrp, mp, mb, mk, mi, m1, m2, m3, ml, mf, mw, mn, pl, rW, ktx, kdp, kst, krd, krs, krp, kpg, kbk, kkp, kik, kon, ktw, kth, klo, kfa, kwo, knx, h⟩ := h
  obtain ⟨rfl, hT, hDw, hTw, hg, hb, hk0, hk1, hp0, hp1⟩ := h
  obtain ⟨hO, hWW, hv, hli, hA12, hAs, hsk, hs0, hs1⟩ := hk
  have hW := hWW.1
  have hst2 : ∀ w, w < Ws.length → stF Ws w ≤ 2 := fun w q => (hWW.2 w q).2.2
  have hdp2 : ∀ w, w < Ws.length → 1 ≤ dpF Ws w ∧ dpF Ws w ≤ 9 := fun w q => ⟨(hWW.2 w q).1, (hWW.2 w q).2.1⟩
  have hp16 : 2 ^ Ws.length ≤ 16 := (Nat.pow_le_pow_right (by omega) hW : 2 ^ Ws.length ≤ 2 ^ 4)
  have hl16 : li < 16 := by omega
  have hl : li < 256 := by omega
  have h8 := hv.1
  refine CO.lift (e_again1 l D cI cZ cS y zt mt T.length pl Ws.length ll md ms rW mrd mrs mrp mp mb As.length mk mi sd m1 m2 m3 ml mf mw mn kpg s0.1 s0.2.1 s0.2.2.1 s0.2.2.2 kkp kik kpg 0 (hp0 hb2) ((hs0 hb2).1.1) (by omega) (by rw [hk0, hb2]; rfl)) [0, 7, 9, 10] (by decide) rfl (fun _ => rfl) (fun g2 hu => ?_)
  have hg2 := hu
  exact ⟨rfl, nI 0, mt, md, ms, mrd, mrs, mrp, mp, mb, mk, mi, m1, m2, m3, ml, mf, mw, mn, pl, rW, ktx, kdp, kst, krd, krs, krp, g2, kbk, kkp, kik, kon, ktw, kth, klo, kfa, kwo, knx, ⟨(by simp only [setL, List.cons_append, List.nil_append, List.set_cons_zero, List.set_cons_succ] <;> rfl), (hT), (hDw), (hTw), (hg2), (fun k hk => absurd hk (Nat.not_lt_zero k)), (hk0), (hk1), (hp0), (hp1)⟩⟩
set_option maxHeartbeats 4000000 in
set_option maxRecDepth 100000 in
theorem E_againNB (l : Launch) (D : va_G) (cI cZ cS : ClassId) {y : Nat} {T : List Nat} {Ws : List (Nat × Nat)} {ll : Nat} {L : List Sg} {li : Nat} {ye : Int32} {br : Int32} {As : List SS} {sk : Nat} {s0 : SS} {s1 : SS} {sd : Int64} {n : Nat} {ws : va_W}  (h : MW cI cZ y T Ws ll L li ye br As sk s0 s1 sd ws) (hk : OKS n T Ws L li As sk s0 s1) (hn : n ≤ 600) (hb2 : sk.testBit 1 = false) : CO l D (TY cI cZ cS) yX5_again cX5_again 3 (some .int) 1 25 0 0 [.ref y, .int (nI 1)] ws (σ := LW ws) (fun _ => some (.int ((-3)))) (fun u => u.1) (fun u => MW cI cZ y T Ws ll L li ye br As sk s0 s1 sd u.1) := by
  obtain ⟨zt, mt, md, ms, mrd, mrs, mrp, mp, mb, mk, mi, m1, m2, m3, ml, mf, mw, mn, pl, rW, ktx, kdp, kst, krd, krs, krp, kpg, kbk, kkp, kik, kon, ktw, kth, klo, kfa, kwo, knx, h⟩ := h
  obtain ⟨rfl, hT, hDw, hTw, hg, hb, hk0, hk1, hp0, hp1⟩ := h
  obtain ⟨hO, hWW, hv, hli, hA12, hAs, hsk, hs0, hs1⟩ := hk
  have hW := hWW.1
  have hst2 : ∀ w, w < Ws.length → stF Ws w ≤ 2 := fun w q => (hWW.2 w q).2.2
  have hdp2 : ∀ w, w < Ws.length → 1 ≤ dpF Ws w ∧ dpF Ws w ≤ 9 := fun w q => ⟨(hWW.2 w q).1, (hWW.2 w q).2.1⟩
  have hp16 : 2 ^ Ws.length ≤ 16 := (Nat.pow_le_pow_right (by omega) hW : 2 ^ Ws.length ≤ 2 ^ 4)
  have hl16 : li < 16 := by omega
  have hl : li < 256 := by omega
  have h8 := hv.1
  refine CO.lift (e_againN l D cI cZ cS y zt mt T.length pl Ws.length ll md ms rW mrd mrs mrp mp mb As.length mk mi sd m1 m2 m3 ml mf mw mn kik 1 (by omega) (by rw [hk1, hb2]; rfl)) [0, 10] (by decide) rfl (fun _ => rfl) (fun u hu => ?_)
  exact ⟨rfl, nI 0, mt, md, ms, mrd, mrs, mrp, mp, mb, mk, mi, m1, m2, m3, ml, mf, mw, mn, pl, rW, ktx, kdp, kst, krd, krs, krp, kpg, kbk, kkp, kik, kon, ktw, kth, klo, kfa, kwo, knx, ⟨(by simp only [setL, List.cons_append, List.nil_append, List.set_cons_zero, List.set_cons_succ] <;> rfl), (hT), (hDw), (hTw), (hg), (hb), (hk0), (hk1), (hp0), (hp1)⟩⟩
set_option maxHeartbeats 4000000 in
set_option maxRecDepth 100000 in
theorem E_againB (l : Launch) (D : va_G) (cI cZ cS : ClassId) {y : Nat} {T : List Nat} {Ws : List (Nat × Nat)} {ll : Nat} {L : List Sg} {li : Nat} {ye : Int32} {br : Int32} {As : List SS} {sk : Nat} {s0 : SS} {s1 : SS} {sd : Int64} {n : Nat} {ws : va_W}  (h : MW cI cZ y T Ws ll L li ye br As sk s0 s1 sd ws) (hk : OKS n T Ws L li As sk s0 s1) (hn : n ≤ 600) (hb2 : sk.testBit 1 = true) : CO l D (TY cI cZ cS) yX5_again cX5_again 3 (some .int) 1 25 0 0 [.ref y, .int (nI 1)] ws (σ := LW ws) (fun _ => some (.int (nI s1.1.length))) (fun u => u.1) (fun u => MW cI cZ y T Ws ll s1.1 s1.2.1 s1.2.2.1 s1.2.2.2 ([]) sk s0 s1 sd u.1) := by
  obtain ⟨zt, mt, md, ms, mrd, mrs, mrp, mp, mb, mk, mi, m1, m2, m3, ml, mf, mw, mn, pl, rW, ktx, kdp, kst, krd, krs, krp, kpg, kbk, kkp, kik, kon, ktw, kth, klo, kfa, kwo, knx, h⟩ := h
  obtain ⟨rfl, hT, hDw, hTw, hg, hb, hk0, hk1, hp0, hp1⟩ := h
  obtain ⟨hO, hWW, hv, hli, hA12, hAs, hsk, hs0, hs1⟩ := hk
  have hW := hWW.1
  have hst2 : ∀ w, w < Ws.length → stF Ws w ≤ 2 := fun w q => (hWW.2 w q).2.2
  have hdp2 : ∀ w, w < Ws.length → 1 ≤ dpF Ws w ∧ dpF Ws w ≤ 9 := fun w q => ⟨(hWW.2 w q).1, (hWW.2 w q).2.1⟩
  have hp16 : 2 ^ Ws.length ≤ 16 := (Nat.pow_le_pow_right (by omega) hW : 2 ^ Ws.length ≤ 2 ^ 4)
  have hl16 : li < 16 := by omega
  have hl : li < 256 := by omega
  have h8 := hv.1
  refine CO.lift (e_again1 l D cI cZ cS y zt mt T.length pl Ws.length ll md ms rW mrd mrs mrp mp mb As.length mk mi sd m1 m2 m3 ml mf mw mn kpg s1.1 s1.2.1 s1.2.2.1 s1.2.2.2 kkp kik kpg 1 (hp1 hb2) ((hs1 hb2).1.1) (by omega) (by rw [hk1, hb2]; rfl)) [0, 7, 9, 10] (by decide) rfl (fun _ => rfl) (fun g2 hu => ?_)
  have hg2 := hu
  exact ⟨rfl, nI 0, mt, md, ms, mrd, mrs, mrp, mp, mb, mk, mi, m1, m2, m3, ml, mf, mw, mn, pl, rW, ktx, kdp, kst, krd, krs, krp, g2, kbk, kkp, kik, kon, ktw, kth, klo, kfa, kwo, knx, ⟨(by simp only [setL, List.cons_append, List.nil_append, List.set_cons_zero, List.set_cons_succ] <;> rfl), (hT), (hDw), (hTw), (hg2), (fun k hk => absurd hk (Nat.not_lt_zero k)), (hk0), (hk1), (hp0), (hp1)⟩⟩
