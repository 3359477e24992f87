set_option maxRecDepth 100000 in
theorem pl_5_6_3_4_n7_hC {cI : ClassId} {ra ca nn pl : Nat → Nat} {yy bb : Nat → Int32} {ff : Nat → Nat → Int32} {x0 x1 x2 x3 x4 x5 x6 : Nat × va_E} : [5, 6, 3, 4, 7, 8, 9, 10, 11, 12, 13, 14, 15, 16, 17, 18, 19, 20, 21, 22, 23, 24, 25, 26, 27, 28, 29, 30].map (fun i => ([x0, x1, x2, x3, x4, x5, x6] ++ poolW cI ra ca nn pl yy bb ff)[i]?) = ([x5, x6, x3, x4] ++ poolW cI ra ca nn pl yy bb ff).map some := by
  simp only [poolW, List.map_cons, List.map_nil, List.cons_append, List.nil_append]
  rfl
theorem pl_5_6_3_4_n7_ha {cI : ClassId} {ra ca nn pl : Nat → Nat} {yy bb : Nat → Int32} {ff : Nat → Nat → Int32} {n2 p2 : Nat → Nat} {y2 b2 : Nat → Int32} {f2 : Nat → Nat → Int32} {x3 x4 x5 x6 e0 e1 e2 e3 : Nat × va_E} (h : [e0, e1, e2, e3].map (·.1) = [x5, x6, x3, x4].map (·.1)) : ([e0, e1, e2, e3] ++ poolW cI ra ca n2 p2 y2 b2 f2).map (·.1) = ([x5, x6, x3, x4] ++ poolW cI ra ca nn pl yy bb ff).map (·.1) := by
  rw [List.map_append, List.map_append, h]
  rfl
set_option maxRecDepth 100000 in
theorem pl_5_6_3_4_n7_hw {cI : ClassId} {ra ca nn pl : Nat → Nat} {yy bb : Nat → Int32} {ff : Nat → Nat → Int32} {n2 p2 : Nat → Nat} {y2 b2 : Nat → Int32} {f2 : Nat → Nat → Int32} {x0 x1 x2 x3 x4 x5 x6 e0 e1 e2 e3 : Nat × va_E} : setL ([x0, x1, x2, x3, x4, x5, x6] ++ poolW cI ra ca nn pl yy bb ff) [5, 6, 3, 4, 7, 8, 9, 10, 11, 12, 13, 14, 15, 16, 17, 18, 19, 20, 21, 22, 23, 24, 25, 26, 27, 28, 29, 30] ([e0, e1, e2, e3] ++ poolW cI ra ca n2 p2 y2 b2 f2) = [x0, x1, x2, e2, e3, e0, e1] ++ poolW cI ra ca n2 p2 y2 b2 f2 := by
  simp only [poolW, List.cons_append, List.nil_append, setL, List.set_cons_zero, List.set_cons_succ]
set_option maxRecDepth 100000 in
theorem pl_4_5_2_3_n6_hC {cI : ClassId} {ra ca nn pl : Nat → Nat} {yy bb : Nat → Int32} {ff : Nat → Nat → Int32} {x0 x1 x2 x3 x4 x5 : Nat × va_E} : [4, 5, 2, 3, 6, 7, 8, 9, 10, 11, 12, 13, 14, 15, 16, 17, 18, 19, 20, 21, 22, 23, 24, 25, 26, 27, 28, 29].map (fun i => ([x0, x1, x2, x3, x4, x5] ++ poolW cI ra ca nn pl yy bb ff)[i]?) = ([x4, x5, x2, x3] ++ poolW cI ra ca nn pl yy bb ff).map some := by
  simp only [poolW, List.map_cons, List.map_nil, List.cons_append, List.nil_append]
  rfl
theorem pl_4_5_2_3_n6_ha {cI : ClassId} {ra ca nn pl : Nat → Nat} {yy bb : Nat → Int32} {ff : Nat → Nat → Int32} {n2 p2 : Nat → Nat} {y2 b2 : Nat → Int32} {f2 : Nat → Nat → Int32} {x2 x3 x4 x5 e0 e1 e2 e3 : Nat × va_E} (h : [e0, e1, e2, e3].map (·.1) = [x4, x5, x2, x3].map (·.1)) : ([e0, e1, e2, e3] ++ poolW cI ra ca n2 p2 y2 b2 f2).map (·.1) = ([x4, x5, x2, x3] ++ poolW cI ra ca nn pl yy bb ff).map (·.1) := by
  rw [List.map_append, List.map_append, h]
  rfl
set_option maxRecDepth 100000 in
theorem pl_4_5_2_3_n6_hw {cI : ClassId} {ra ca nn pl : Nat → Nat} {yy bb : Nat → Int32} {ff : Nat → Nat → Int32} {n2 p2 : Nat → Nat} {y2 b2 : Nat → Int32} {f2 : Nat → Nat → Int32} {x0 x1 x2 x3 x4 x5 e0 e1 e2 e3 : Nat × va_E} : setL ([x0, x1, x2, x3, x4, x5] ++ poolW cI ra ca nn pl yy bb ff) [4, 5, 2, 3, 6, 7, 8, 9, 10, 11, 12, 13, 14, 15, 16, 17, 18, 19, 20, 21, 22, 23, 24, 25, 26, 27, 28, 29] ([e0, e1, e2, e3] ++ poolW cI ra ca n2 p2 y2 b2 f2) = [x0, x1, e2, e3, e0, e1] ++ poolW cI ra ca n2 p2 y2 b2 f2 := by
  simp only [poolW, List.cons_append, List.nil_append, setL, List.set_cons_zero, List.set_cons_succ]
set_option maxRecDepth 100000 in
theorem pl_3_4_1_2_n5_hC {cI : ClassId} {ra ca nn pl : Nat → Nat} {yy bb : Nat → Int32} {ff : Nat → Nat → Int32} {x0 x1 x2 x3 x4 : Nat × va_E} : [3, 4, 1, 2, 5, 6, 7, 8, 9, 10, 11, 12, 13, 14, 15, 16, 17, 18, 19, 20, 21, 22, 23, 24, 25, 26, 27, 28].map (fun i => ([x0, x1, x2, x3, x4] ++ poolW cI ra ca nn pl yy bb ff)[i]?) = ([x3, x4, x1, x2] ++ poolW cI ra ca nn pl yy bb ff).map some := by
  simp only [poolW, List.map_cons, List.map_nil, List.cons_append, List.nil_append]
  rfl
theorem pl_3_4_1_2_n5_ha {cI : ClassId} {ra ca nn pl : Nat → Nat} {yy bb : Nat → Int32} {ff : Nat → Nat → Int32} {n2 p2 : Nat → Nat} {y2 b2 : Nat → Int32} {f2 : Nat → Nat → Int32} {x1 x2 x3 x4 e0 e1 e2 e3 : Nat × va_E} (h : [e0, e1, e2, e3].map (·.1) = [x3, x4, x1, x2].map (·.1)) : ([e0, e1, e2, e3] ++ poolW cI ra ca n2 p2 y2 b2 f2).map (·.1) = ([x3, x4, x1, x2] ++ poolW cI ra ca nn pl yy bb ff).map (·.1) := by
  rw [List.map_append, List.map_append, h]
  rfl
set_option maxRecDepth 100000 in
theorem pl_3_4_1_2_n5_hw {cI : ClassId} {ra ca nn pl : Nat → Nat} {yy bb : Nat → Int32} {ff : Nat → Nat → Int32} {n2 p2 : Nat → Nat} {y2 b2 : Nat → Int32} {f2 : Nat → Nat → Int32} {x0 x1 x2 x3 x4 e0 e1 e2 e3 : Nat × va_E} : setL ([x0, x1, x2, x3, x4] ++ poolW cI ra ca nn pl yy bb ff) [3, 4, 1, 2, 5, 6, 7, 8, 9, 10, 11, 12, 13, 14, 15, 16, 17, 18, 19, 20, 21, 22, 23, 24, 25, 26, 27, 28] ([e0, e1, e2, e3] ++ poolW cI ra ca n2 p2 y2 b2 f2) = [x0, e2, e3, e0, e1] ++ poolW cI ra ca n2 p2 y2 b2 f2 := by
  simp only [poolW, List.cons_append, List.nil_append, setL, List.set_cons_zero, List.set_cons_succ]
set_option maxHeartbeats 4000000 in
set_option maxRecDepth 100000 in
theorem p_year (l : Launch) (D : va_G) (cI cZ cS : ClassId) (x : Nat) (ax : Nat) (aw : Nat) (an : Nat) (aa : Nat) (a0 : Nat) (a1 : Nat) (sk : Nat) (ll : Nat) (ar : Nat) (aq : Nat) (al : Nat) (am : Nat) (sd : Int64) (wd : Nat) (wt : Nat) (W : Nat) (df : Nat → Int32) (tf : Nat → Int32) (dp : Nat → Nat) (st : Nat → Nat) (A : Nat) (nc : Nat) (L : List Sg) (li : Nat) (ye : Int32) (br : Int32) (f : Nat → Int32) (rw : Nat) (ra : Nat → Nat) (ca : Nat → Nat) (nn : Nat → Nat) (pl : Nat → Nat) (yy : Nat → Int32) (bb : Nat → Int32) (ff : Nat → Nat → Int32) (pm : Nat → Nat) (rf : Nat → Option Nat) (As : List SS) (hf : hs f L) (hv : okL W A L) (hW : W ≤ 4) (hst : ∀ w, w < W → tf w = nI (st w)) (hst2 : ∀ w, w < W → st w ≤ 2) (hl : li < 256) (hr : rowR rf ra pm) (hact : actR As pm nn pl yy bb ff) : CO l D (TY cI cZ cS) yX4_year cX4_year 1 (some .int) 4 93 0 0 [.ref x] ([(x, .inr (4, [.ref ax, .ref aw, .ref an, .ref aa, .ref a0, .ref a1, .int (nI sk), .int (nI ll), .long sd, .ref ar, .ref aq, .ref al, .ref am])), (aw, .inr (3, [.ref wd, .ref wt, .int (nI W)])), (wt, .inl (cI, 4, .inl tf)), (an, .inr (1, [.ref nc, .int (nI L.length), .int (nI li), .int ye, .int br])), (nc, .inl (cI, 48, .inl f)), (aa, .inr (0, [.ref rw, .int (nI As.length)])), (rw, .inl (cS, 12, .inr (.inr (.inr (.inr rf)))))] ++ poolW cI ra ca nn pl yy bb ff) (σ := (Nat → Int32) × (Nat → Option Nat) × (Nat → Nat) × (Nat → Nat) × (Nat → Nat) × (Nat → Int32) × (Nat → Int32) × (Nat → Nat → Int32)) (fun u => some (.int (nI (L.length - (yearL st li L).length)))) (fun u => ([(x, .inr (4, [.ref ax, .ref aw, .ref an, .ref aa, .ref a0, .ref a1, .int (nI sk), .int (nI ll), .long sd, .ref ar, .ref aq, .ref al, .ref am])), (aw, .inr (3, [.ref wd, .ref wt, .int (nI W)])), (wt, .inl (cI, 4, .inl tf)), (an, .inr (1, [.ref nc, .int (nI ((yearL st li L).length)), .int (nI li), .int (ye + nI 1), .int br])), (nc, .inl (cI, 48, .inl u.1)), (aa, .inr (0, [.ref rw, .int (nI ((remL As (L, li, ye, br)).length))])), (rw, .inl (cS, 12, .inr (.inr (.inr (.inr u.2.1)))))] ++ poolW cI ra ca u.2.2.2.1 u.2.2.2.2.1 u.2.2.2.2.2.1 u.2.2.2.2.2.2.1 u.2.2.2.2.2.2.2)) (fun u => (hs u.1 (yearL st li L)) ∧ (rowR u.2.1 ra u.2.2.1) ∧ (actR (remL As (L, li, ye, br)) u.2.2.1 u.2.2.2.1 u.2.2.2.2.1 u.2.2.2.2.2.1 u.2.2.2.2.2.2.1 u.2.2.2.2.2.2.2)) := by
  refine CO_mki (by decide +kernel) (Nat.le_of_ble_eq_true rfl) (fun K ok ret => ?_)
  show XX K ([(x, .inr (4, [.ref ax, .ref aw, .ref an, .ref aa, .ref a0, .ref a1, .int (nI sk), .int (nI ll), .long sd, .ref ar, .ref aq, .ref al, .ref am])), (aw, .inr (3, [.ref wd, .ref wt, .int (nI W)])), (wt, .inl (cI, 4, .inl tf)), (an, .inr (1, [.ref nc, .int (nI L.length), .int (nI li), .int ye, .int br])), (nc, .inl (cI, 48, .inl f)), (aa, .inr (0, [.ref rw, .int (nI As.length)])), (rw, .inl (cS, 12, .inr (.inr (.inr (.inr rf)))))] ++ poolW cI ra ca nn pl yy bb ff) [(0, .ref x)] 0 []
  have h8 := hv.1
  refine x_aload_n ok 0 dX4_year_0 rfl rfl ?_
  refine gX4_33 ok dX4_year_1 0 rfl rfl ?_
  refine x_aload_n ok 0 dX4_year_4 rfl rfl ?_
  refine gX4_26 ok dX4_year_5 0 rfl rfl ?_
  refine qX4_136 ok (As := [.ref an]) (st := []) 5 rfl (c0_remember l D cI cZ cS aa rw ra ca nn pl yy bb ff pm rf an nc L li ye br f As (by first | assumption | omega) (by first | assumption | omega) (by first | assumption | omega) (by first | assumption | omega)) rfl (Nat.le_of_ble_eq_true rfl) (Nat.le_of_ble_eq_true rfl) (Nat.le_of_ble_eq_true rfl) dX4_year_8 [5, 6, 3, 4, 7, 8, 9, 10, 11, 12, 13, 14, 15, 16, 17, 18, 19, 20, 21, 22, 23, 24, 25, 26, 27, 28, 29, 30] (by decide) pl_5_6_3_4_n7_hC (ws' := fun u => ([(x, .inr (4, [.ref ax, .ref aw, .ref an, .ref aa, .ref a0, .ref a1, .int (nI sk), .int (nI ll), .long sd, .ref ar, .ref aq, .ref al, .ref am])), (aw, .inr (3, [.ref wd, .ref wt, .int (nI W)])), (wt, .inl (cI, 4, .inl tf)), (an, .inr (1, [.ref nc, .int (nI L.length), .int (nI li), .int ye, .int br])), (nc, .inl (cI, 48, .inl f)), (aa, .inr (0, [.ref rw, .int (nI ((remL As (L, li, ye, br)).length))])), (rw, .inl (cS, 12, .inr (.inr (.inr (.inr u.1)))))] ++ poolW cI ra ca u.2.2.1 u.2.2.2.1 u.2.2.2.2.1 u.2.2.2.2.2.1 u.2.2.2.2.2.2)) (st' := fun u => []) (fun _ => pl_5_6_3_4_n7_ha (by rfl)) (fun _ => pl_5_6_3_4_n7_hw) (fun _ => rfl) (fun u8 hu8 => ?_)
  obtain ⟨g8, qm8, n28, p28, y28, b28, f28⟩ := u8
  obtain ⟨hr28, hact28⟩ := hu8
  have hr28 : rowR g8 ra qm8 := hr28
  have hact28 : actR (remL As (L, li, ye, br)) qm8 n28 p28 y28 b28 f28 := hact28
  show XX K ([(x, .inr (4, [.ref ax, .ref aw, .ref an, .ref aa, .ref a0, .ref a1, .int (nI sk), .int (nI ll), .long sd, .ref ar, .ref aq, .ref al, .ref am])), (aw, .inr (3, [.ref wd, .ref wt, .int (nI W)])), (wt, .inl (cI, 4, .inl tf)), (an, .inr (1, [.ref nc, .int (nI L.length), .int (nI li), .int ye, .int br])), (nc, .inl (cI, 48, .inl f)), (aa, .inr (0, [.ref rw, .int (nI ((remL As (L, li, ye, br)).length))])), (rw, .inl (cS, 12, .inr (.inr (.inr (.inr g8)))))] ++ poolW cI ra ca n28 p28 y28 b28 f28) [(0, .ref x)] 11 []
  refine x_aload_n ok 0 dX4_year_11 rfl rfl ?_
  refine gX4_26 ok dX4_year_12 0 rfl rfl ?_
  refine x_aload_n ok 0 dX4_year_15 rfl rfl ?_
  refine gX4_19 ok dX4_year_16 0 rfl rfl ?_
  refine qX4_140 ok (As := [.ref aw]) (st := []) 3 rfl (c1_goYear l D cI cZ cS an nc L li ye br f aw wd wt W tf st A (by first | assumption | omega) (by first | assumption | omega) (by first | assumption | omega) (by first | assumption | omega) (by first | assumption | omega) (by first | assumption | omega)) rfl (Nat.le_of_ble_eq_true rfl) (Nat.le_of_ble_eq_true rfl) (Nat.le_of_ble_eq_true rfl) dX4_year_19 [3, 4, 1, 2] (by decide) rfl (ws' := fun u => ([(x, .inr (4, [.ref ax, .ref aw, .ref an, .ref aa, .ref a0, .ref a1, .int (nI sk), .int (nI ll), .long sd, .ref ar, .ref aq, .ref al, .ref am])), (aw, .inr (3, [.ref wd, .ref wt, .int (nI W)])), (wt, .inl (cI, 4, .inl tf)), (an, .inr (1, [.ref nc, .int (nI ((yearL st li L).length)), .int (nI li), .int (ye + nI 1), .int br])), (nc, .inl (cI, 48, .inl u)), (aa, .inr (0, [.ref rw, .int (nI ((remL As (L, li, ye, br)).length))])), (rw, .inl (cS, 12, .inr (.inr (.inr (.inr g8)))))] ++ poolW cI ra ca n28 p28 y28 b28 f28)) (st' := fun u => [.int (nI (L.length - (yearL st li L).length))]) (fun _ => rfl) (fun _ => by simp only [setL, List.cons_append, List.nil_append, List.set_cons_zero, List.set_cons_succ]) (fun _ => rfl) (fun u19 hu19 => ?_)
  obtain ⟨g19, rfl⟩ : ∃ z, z = u19 := ⟨_, rfl⟩
  have hg19 := hu19
  have hg19 : hs g19 (yearL st li L) := hg19
  show XX K ([(x, .inr (4, [.ref ax, .ref aw, .ref an, .ref aa, .ref a0, .ref a1, .int (nI sk), .int (nI ll), .long sd, .ref ar, .ref aq, .ref al, .ref am])), (aw, .inr (3, [.ref wd, .ref wt, .int (nI W)])), (wt, .inl (cI, 4, .inl tf)), (an, .inr (1, [.ref nc, .int (nI ((yearL st li L).length)), .int (nI li), .int (ye + nI 1), .int br])), (nc, .inl (cI, 48, .inl g19)), (aa, .inr (0, [.ref rw, .int (nI ((remL As (L, li, ye, br)).length))])), (rw, .inl (cS, 12, .inr (.inr (.inr (.inr g8)))))] ++ poolW cI ra ca n28 p28 y28 b28 f28) [(0, .ref x)] 22 [.int (nI (L.length - (yearL st li L).length))]
  exact ret (g19, g8, qm8, n28, p28, y28, b28, f28) _ _ _ (nI (L.length - (yearL st li L).length)) dX4_year_22 (rfl) (rfl) (⟨hg19, hr28, hact28⟩)

set_option maxHeartbeats 4000000 in
set_option maxRecDepth 100000 in
theorem p_lid0 (l : Launch) (D : va_G) (cI cZ cS : ClassId) (x : Nat) (ax : Nat) (aw : Nat) (an : Nat) (aa : Nat) (a0 : Nat) (a1 : Nat) (sk : Nat) (ll : Nat) (ar : Nat) (aq : Nat) (al : Nat) (am : Nat) (sd : Int64) (wd : Nat) (wt : Nat) (W : Nat) (z : Int32) (hz : ¬ hasB z W = true) : CO l D (TY cI cZ cS) yX4_lid cX4_lid 2 (some .int) 1 21 0 0 [.ref x, .int z] [(x, .inr (4, [.ref ax, .ref aw, .ref an, .ref aa, .ref a0, .ref a1, .int (nI sk), .int (nI ll), .long sd, .ref ar, .ref aq, .ref al, .ref am])), (aw, .inr (3, [.ref wd, .ref wt, .int (nI W)]))] (σ := Unit) (fun u => some (.int ((-1)))) (fun u => [(x, .inr (4, [.ref ax, .ref aw, .ref an, .ref aa, .ref a0, .ref a1, .int (nI sk), .int (nI ll), .long sd, .ref ar, .ref aq, .ref al, .ref am])), (aw, .inr (3, [.ref wd, .ref wt, .int (nI W)]))]) (fun u => True) := by
  refine CO_mki (by decide +kernel) (Nat.le_of_ble_eq_true rfl) (fun K ok ret => ?_)
  show XX K [(x, .inr (4, [.ref ax, .ref aw, .ref an, .ref aa, .ref a0, .ref a1, .int (nI sk), .int (nI ll), .long sd, .ref ar, .ref aq, .ref al, .ref am])), (aw, .inr (3, [.ref wd, .ref wt, .int (nI W)]))] [(0, .ref x), (1, .int z)] 0 []
  refine x_aload_n ok 0 dX4_lid_0 rfl rfl ?_
  refine gX4_19 ok dX4_lid_1 0 rfl rfl ?_
  refine x_iload_n ok 1 dX4_lid_4 rfl rfl ?_
  refine qX4_112 ok (As := [.int z]) (st := []) 1 rfl (c3_has l D cI cZ cS aw wd wt W z ) rfl (Nat.le_of_ble_eq_true rfl) (Nat.le_of_ble_eq_true rfl) (Nat.le_of_ble_eq_true rfl) dX4_lid_5 [1] (by decide) rfl (ws' := fun u => [(x, .inr (4, [.ref ax, .ref aw, .ref an, .ref aa, .ref a0, .ref a1, .int (nI sk), .int (nI ll), .long sd, .ref ar, .ref aq, .ref al, .ref am])), (aw, .inr (3, [.ref wd, .ref wt, .int (nI W)]))]) (st' := fun u => [.int (bz (hasB z W))]) (fun _ => rfl) (fun _ => rfl) (fun _ => rfl) (fun _ _ => ?_)
  refine x_if_neB ok 13 dX4_lid_8 (by decide) (fun c_8 => ?_) (fun c_8 => ?_)
  · skip
    exact (hz c_8 : False).elim
  · skip
    refine x_iconst ok ((-1)) dX4_lid_11 (by decide) ?_
    exact ret () _ _ _ ((-1)) dX4_lid_12 (rfl) (by first | rfl | (simp [c_8]; done)) (trivial)

set_option maxHeartbeats 4000000 in
set_option maxRecDepth 100000 in
theorem p_lid1 (l : Launch) (D : va_G) (cI cZ cS : ClassId) (x : Nat) (ax : Nat) (aw : Nat) (an : Nat) (aa : Nat) (a0 : Nat) (a1 : Nat) (sk : Nat) (ll : Nat) (ar : Nat) (aq : Nat) (al : Nat) (am : Nat) (sd : Int64) (wd : Nat) (wt : Nat) (W : Nat) (A : Nat) (nc : Nat) (L : List Sg) (li : Nat) (ye : Int32) (br : Int32) (f : Nat → Int32) (rw : Nat) (ra : Nat → Nat) (ca : Nat → Nat) (nn : Nat → Nat) (pl : Nat → Nat) (yy : Nat → Int32) (bb : Nat → Int32) (ff : Nat → Nat → Int32) (pm : Nat → Nat) (rf : Nat → Option Nat) (As : List SS) (j : Nat) (hf : hs f L) (hv : okL W A L) (hW : W ≤ 4) (hl16 : li < 16) (hr : rowR rf ra pm) (hact : actR As pm nn pl yy bb ff) (hj : j < W) : CO l D (TY cI cZ cS) yX4_lid cX4_lid 2 (some .int) 3 59 0 0 [.ref x, .int (nI j)] ([(x, .inr (4, [.ref ax, .ref aw, .ref an, .ref aa, .ref a0, .ref a1, .int (nI sk), .int (nI ll), .long sd, .ref ar, .ref aq, .ref al, .ref am])), (aw, .inr (3, [.ref wd, .ref wt, .int (nI W)])), (an, .inr (1, [.ref nc, .int (nI L.length), .int (nI li), .int ye, .int br])), (nc, .inl (cI, 48, .inl f)), (aa, .inr (0, [.ref rw, .int (nI As.length)])), (rw, .inl (cS, 12, .inr (.inr (.inr (.inr rf)))))] ++ poolW cI ra ca nn pl yy bb ff) (σ := (Nat → Option Nat) × (Nat → Nat) × (Nat → Nat) × (Nat → Nat) × (Nat → Int32) × (Nat → Int32) × (Nat → Nat → Int32)) (fun u => some (.int (nI (((li ^^^ 2 ^ j).testBit j).toNat)))) (fun u => ([(x, .inr (4, [.ref ax, .ref aw, .ref an, .ref aa, .ref a0, .ref a1, .int (nI sk), .int (nI ll), .long sd, .ref ar, .ref aq, .ref al, .ref am])), (aw, .inr (3, [.ref wd, .ref wt, .int (nI W)])), (an, .inr (1, [.ref nc, .int (nI L.length), .int (nI (li ^^^ 2 ^ j)), .int ye, .int br])), (nc, .inl (cI, 48, .inl f)), (aa, .inr (0, [.ref rw, .int (nI ((remL As (L, li, ye, br)).length))])), (rw, .inl (cS, 12, .inr (.inr (.inr (.inr u.1)))))] ++ poolW cI ra ca u.2.2.1 u.2.2.2.1 u.2.2.2.2.1 u.2.2.2.2.2.1 u.2.2.2.2.2.2)) (fun u => (rowR u.1 ra u.2.1) ∧ (actR (remL As (L, li, ye, br)) u.2.1 u.2.2.1 u.2.2.2.1 u.2.2.2.2.1 u.2.2.2.2.2.1 u.2.2.2.2.2.2)) := by
  refine CO_mki (by decide +kernel) (Nat.le_of_ble_eq_true rfl) (fun K ok ret => ?_)
  show XX K ([(x, .inr (4, [.ref ax, .ref aw, .ref an, .ref aa, .ref a0, .ref a1, .int (nI sk), .int (nI ll), .long sd, .ref ar, .ref aq, .ref al, .ref am])), (aw, .inr (3, [.ref wd, .ref wt, .int (nI W)])), (an, .inr (1, [.ref nc, .int (nI L.length), .int (nI li), .int ye, .int br])), (nc, .inl (cI, 48, .inl f)), (aa, .inr (0, [.ref rw, .int (nI As.length)])), (rw, .inl (cS, 12, .inr (.inr (.inr (.inr rf)))))] ++ poolW cI ra ca nn pl yy bb ff) [(0, .ref x), (1, .int (nI j))] 0 []
  have h8 := hv.1
  have hx16 : li ^^^ 2 ^ j < 16 := Nat.xor_lt_two_pow (n := 4) hl16 (Nat.lt_of_lt_of_le (Nat.pow_lt_pow_right (by omega) (show j < 4 by omega)) (by omega))
  refine x_aload_n ok 0 dX4_lid_0 rfl rfl ?_
  refine gX4_19 ok dX4_lid_1 0 rfl rfl ?_
  refine x_iload_n ok 1 dX4_lid_4 rfl rfl ?_
  refine qX4_112 ok (As := [.int (nI j)]) (st := []) 1 rfl (c3_has l D cI cZ cS aw wd wt W (nI j) ) rfl (Nat.le_of_ble_eq_true rfl) (Nat.le_of_ble_eq_true rfl) (Nat.le_of_ble_eq_true rfl) dX4_lid_5 [1] (by decide) rfl (ws' := fun u => ([(x, .inr (4, [.ref ax, .ref aw, .ref an, .ref aa, .ref a0, .ref a1, .int (nI sk), .int (nI ll), .long sd, .ref ar, .ref aq, .ref al, .ref am])), (aw, .inr (3, [.ref wd, .ref wt, .int (nI W)])), (an, .inr (1, [.ref nc, .int (nI L.length), .int (nI li), .int ye, .int br])), (nc, .inl (cI, 48, .inl f)), (aa, .inr (0, [.ref rw, .int (nI As.length)])), (rw, .inl (cS, 12, .inr (.inr (.inr (.inr rf)))))] ++ poolW cI ra ca nn pl yy bb ff)) (st' := fun u => [.int (bz (hasB (nI j) W))]) (fun _ => rfl) (fun _ => by simp only [setL, List.cons_append, List.nil_append, List.set_cons_zero, List.set_cons_succ]) (fun _ => rfl) (fun _ _ => ?_)
  refine x_if_neB ok 13 dX4_lid_8 (by decide) (fun c_8 => ?_) (fun c_8 => absurd c_8 (fun z => z (hasB_n hj (by omega))))
  refine x_aload_n ok 0 dX4_lid_13 rfl rfl ?_
  refine gX4_33 ok dX4_lid_14 0 rfl rfl ?_
  refine x_aload_n ok 0 dX4_lid_17 rfl rfl ?_
  refine gX4_26 ok dX4_lid_18 0 rfl rfl ?_
  refine qX4_136 ok (As := [.ref an]) (st := []) 4 rfl (c0_remember l D cI cZ cS aa rw ra ca nn pl yy bb ff pm rf an nc L li ye br f As (by first | assumption | omega) (by first | assumption | omega) (by first | assumption | omega) (by first | assumption | omega)) rfl (Nat.le_of_ble_eq_true rfl) (Nat.le_of_ble_eq_true rfl) (Nat.le_of_ble_eq_true rfl) dX4_lid_21 [4, 5, 2, 3, 6, 7, 8, 9, 10, 11, 12, 13, 14, 15, 16, 17, 18, 19, 20, 21, 22, 23, 24, 25, 26, 27, 28, 29] (by decide) pl_4_5_2_3_n6_hC (ws' := fun u => ([(x, .inr (4, [.ref ax, .ref aw, .ref an, .ref aa, .ref a0, .ref a1, .int (nI sk), .int (nI ll), .long sd, .ref ar, .ref aq, .ref al, .ref am])), (aw, .inr (3, [.ref wd, .ref wt, .int (nI W)])), (an, .inr (1, [.ref nc, .int (nI L.length), .int (nI li), .int ye, .int br])), (nc, .inl (cI, 48, .inl f)), (aa, .inr (0, [.ref rw, .int (nI ((remL As (L, li, ye, br)).length))])), (rw, .inl (cS, 12, .inr (.inr (.inr (.inr u.1)))))] ++ poolW cI ra ca u.2.2.1 u.2.2.2.1 u.2.2.2.2.1 u.2.2.2.2.2.1 u.2.2.2.2.2.2)) (st' := fun u => []) (fun _ => pl_4_5_2_3_n6_ha (by rfl)) (fun _ => pl_4_5_2_3_n6_hw) (fun _ => rfl) (fun u21 hu21 => ?_)
  obtain ⟨g21, qm21, n221, p221, y221, b221, f221⟩ := u21
  obtain ⟨hr221, hact221⟩ := hu21
  have hr221 : rowR g21 ra qm21 := hr221
  have hact221 : actR (remL As (L, li, ye, br)) qm21 n221 p221 y221 b221 f221 := hact221
  show XX K ([(x, .inr (4, [.ref ax, .ref aw, .ref an, .ref aa, .ref a0, .ref a1, .int (nI sk), .int (nI ll), .long sd, .ref ar, .ref aq, .ref al, .ref am])), (aw, .inr (3, [.ref wd, .ref wt, .int (nI W)])), (an, .inr (1, [.ref nc, .int (nI L.length), .int (nI li), .int ye, .int br])), (nc, .inl (cI, 48, .inl f)), (aa, .inr (0, [.ref rw, .int (nI ((remL As (L, li, ye, br)).length))])), (rw, .inl (cS, 12, .inr (.inr (.inr (.inr g21)))))] ++ poolW cI ra ca n221 p221 y221 b221 f221) [(0, .ref x), (1, .int (nI j))] 24 []
  refine x_aload_n ok 0 dX4_lid_24 rfl rfl ?_
  refine gX4_26 ok dX4_lid_25 0 rfl rfl ?_
  refine x_dup ok dX4_lid_28 rfl ?_
  refine gX4_109 ok dX4_lid_29 2 rfl rfl ?_
  refine x_iconst ok (nI 1) dX4_lid_32 (by decide) ?_
  refine x_iload_n ok 1 dX4_lid_33 rfl rfl ?_
  refine x_ishl ok (nI (2 ^ j)) dX4_lid_34 (shl1 j (by omega)) ?_
  refine x_ixor ok (nI (li ^^^ 2 ^ j)) dX4_lid_35 (fa_xor _ _) ?_
  refine pX4_109 ok dX4_lid_36 2 rfl rfl rfl (Nat.le_of_ble_eq_true rfl) (ws' := ([(x, .inr (4, [.ref ax, .ref aw, .ref an, .ref aa, .ref a0, .ref a1, .int (nI sk), .int (nI ll), .long sd, .ref ar, .ref aq, .ref al, .ref am])), (aw, .inr (3, [.ref wd, .ref wt, .int (nI W)])), (an, .inr (1, [.ref nc, .int (nI L.length), .int (nI (li ^^^ 2 ^ j)), .int ye, .int br])), (nc, .inl (cI, 48, .inl f)), (aa, .inr (0, [.ref rw, .int (nI ((remL As (L, li, ye, br)).length))])), (rw, .inl (cS, 12, .inr (.inr (.inr (.inr g21)))))] ++ poolW cI ra ca n221 p221 y221 b221 f221)) rfl ?_
  refine x_aload_n ok 0 dX4_lid_39 rfl rfl ?_
  refine gX4_26 ok dX4_lid_40 0 rfl rfl ?_
  refine x_iload_n ok 1 dX4_lid_43 rfl rfl ?_
  refine qX4_121 ok (As := [.int (nI j)]) (st := []) 2 rfl (c1_hasLid l D cI cZ cS an nc L.length (li ^^^ 2 ^ j) ye br j (by first | assumption | omega) (by first | assumption | omega)) rfl (Nat.le_of_ble_eq_true rfl) (Nat.le_of_ble_eq_true rfl) (Nat.le_of_ble_eq_true rfl) dX4_lid_44 [2] (by decide) rfl (ws' := fun u => ([(x, .inr (4, [.ref ax, .ref aw, .ref an, .ref aa, .ref a0, .ref a1, .int (nI sk), .int (nI ll), .long sd, .ref ar, .ref aq, .ref al, .ref am])), (aw, .inr (3, [.ref wd, .ref wt, .int (nI W)])), (an, .inr (1, [.ref nc, .int (nI L.length), .int (nI (li ^^^ 2 ^ j)), .int ye, .int br])), (nc, .inl (cI, 48, .inl f)), (aa, .inr (0, [.ref rw, .int (nI ((remL As (L, li, ye, br)).length))])), (rw, .inl (cS, 12, .inr (.inr (.inr (.inr g21)))))] ++ poolW cI ra ca n221 p221 y221 b221 f221)) (st' := fun u => [.int (bz ((li ^^^ 2 ^ j).testBit j))]) (fun _ => rfl) (fun _ => by simp only [setL, List.cons_append, List.nil_append, List.set_cons_zero, List.set_cons_succ]) (fun _ => rfl) (fun _ _ => ?_)
  refine x_if_eqB ok 54 dX4_lid_47 (by decide) (fun c_47 => ?_) (fun c_47 => ?_)
  · skip
    refine x_iconst ok (nI 0) dX4_lid_54 (by decide) ?_
    exact ret (g21, qm21, n221, p221, y221, b221, f221) _ _ _ (nI 0) dX4_lid_55 (rfl) (by simp [c_47]) (⟨hr221, hact221⟩)
  · skip
    refine x_iconst ok (nI 1) dX4_lid_50 (by decide) ?_
    refine x_goto ok 55 dX4_lid_51 (by decide) ?_
    exact ret (g21, qm21, n221, p221, y221, b221, f221) _ _ _ (nI 1) dX4_lid_55 (rfl) (by simp [c_47]) (⟨hr221, hact221⟩)

set_option maxHeartbeats 4000000 in
set_option maxRecDepth 100000 in
theorem p_undo0 (l : Launch) (D : va_G) (cI cZ cS : ClassId) (x : Nat) (ax : Nat) (aw : Nat) (an : Nat) (aa : Nat) (a0 : Nat) (a1 : Nat) (sk : Nat) (ll : Nat) (ar : Nat) (aq : Nat) (al : Nat) (am : Nat) (sd : Int64) (rw : Nat) (nc : Nat) (n0 : Nat) (li : Nat) (ye : Int32) (br : Int32)  : CO l D (TY cI cZ cS) yX4_undo cX4_undo 1 (some .int) 1 23 0 0 [.ref x] [(x, .inr (4, [.ref ax, .ref aw, .ref an, .ref aa, .ref a0, .ref a1, .int (nI sk), .int (nI ll), .long sd, .ref ar, .ref aq, .ref al, .ref am])), (an, .inr (1, [.ref nc, .int (nI n0), .int (nI li), .int ye, .int br])), (aa, .inr (0, [.ref rw, .int (nI 0)]))] (σ := Unit) (fun u => some (.int ((-3)))) (fun u => [(x, .inr (4, [.ref ax, .ref aw, .ref an, .ref aa, .ref a0, .ref a1, .int (nI sk), .int (nI ll), .long sd, .ref ar, .ref aq, .ref al, .ref am])), (an, .inr (1, [.ref nc, .int (nI n0), .int (nI li), .int ye, .int br])), (aa, .inr (0, [.ref rw, .int (nI 0)]))]) (fun u => True) := by
  refine CO_mki (by decide +kernel) (Nat.le_of_ble_eq_true rfl) (fun K ok ret => ?_)
  show XX K [(x, .inr (4, [.ref ax, .ref aw, .ref an, .ref aa, .ref a0, .ref a1, .int (nI sk), .int (nI ll), .long sd, .ref ar, .ref aq, .ref al, .ref am])), (an, .inr (1, [.ref nc, .int (nI n0), .int (nI li), .int ye, .int br])), (aa, .inr (0, [.ref rw, .int (nI 0)]))] [(0, .ref x)] 0 []
  refine x_aload_n ok 0 dX4_undo_0 rfl rfl ?_
  refine gX4_33 ok dX4_undo_1 0 rfl rfl ?_
  refine x_aload_n ok 0 dX4_undo_4 rfl rfl ?_
  refine gX4_26 ok dX4_undo_5 0 rfl rfl ?_
  refine qX4_152 ok (As := [.ref an]) (st := []) 2 rfl (c0_takeBack0 l D cI cZ cS aa rw an ) rfl (Nat.le_of_ble_eq_true rfl) (Nat.le_of_ble_eq_true rfl) (Nat.le_of_ble_eq_true rfl) dX4_undo_8 [2] (by decide) rfl (ws' := fun u => [(x, .inr (4, [.ref ax, .ref aw, .ref an, .ref aa, .ref a0, .ref a1, .int (nI sk), .int (nI ll), .long sd, .ref ar, .ref aq, .ref al, .ref am])), (an, .inr (1, [.ref nc, .int (nI n0), .int (nI li), .int ye, .int br])), (aa, .inr (0, [.ref rw, .int (nI 0)]))]) (st' := fun u => [.int (bz false)]) (fun _ => rfl) (fun _ => rfl) (fun _ => rfl) (fun _ _ => ?_)
  refine x_if_eqB ok 24 dX4_undo_11 (by decide) (fun c_11 => ?_) (fun c_11 => absurd c_11 (by simp))
  refine x_bipush ok ((-3)) dX4_undo_24 (by decide) ?_
  exact ret () _ _ _ ((-3)) dX4_undo_26 (rfl) (rfl) (trivial)

set_option maxHeartbeats 4000000 in
set_option maxRecDepth 100000 in
theorem p_undo1 (l : Launch) (D : va_G) (cI cZ cS : ClassId) (x : Nat) (ax : Nat) (aw : Nat) (an : Nat) (aa : Nat) (a0 : Nat) (a1 : Nat) (sk : Nat) (ll : Nat) (ar : Nat) (aq : Nat) (al : Nat) (am : Nat) (sd : Int64) (nc : Nat) (L : List Sg) (li : Nat) (ye : Int32) (br : Int32) (f : Nat → Int32) (rw : Nat) (ra : Nat → Nat) (ca : Nat → Nat) (nn : Nat → Nat) (pl : Nat → Nat) (yy : Nat → Int32) (bb : Nat → Int32) (ff : Nat → Nat → Int32) (pm : Nat → Nat) (rf : Nat → Option Nat) (As : List SS) (hr : rowR rf ra pm) (hact : actR As pm nn pl yy bb ff) (h0 : 0 < As.length) (hlen : ∀ k, k < As.length → (gSS As k).1.length ≤ 8) : CO l D (TY cI cZ cS) yX4_undo cX4_undo 1 (some .int) 3 60 0 0 [.ref x] ([(x, .inr (4, [.ref ax, .ref aw, .ref an, .ref aa, .ref a0, .ref a1, .int (nI sk), .int (nI ll), .long sd, .ref ar, .ref aq, .ref al, .ref am])), (an, .inr (1, [.ref nc, .int (nI L.length), .int (nI li), .int ye, .int br])), (nc, .inl (cI, 48, .inl f)), (aa, .inr (0, [.ref rw, .int (nI As.length)])), (rw, .inl (cS, 12, .inr (.inr (.inr (.inr rf)))))] ++ poolW cI ra ca nn pl yy bb ff) (σ := (Nat → Int32)) (fun u => some (.int (nI (As.length - 1)))) (fun u => ([(x, .inr (4, [.ref ax, .ref aw, .ref an, .ref aa, .ref a0, .ref a1, .int (nI sk), .int (nI ll), .long sd, .ref ar, .ref aq, .ref al, .ref am])), (an, .inr (1, [.ref nc, .int (nI ((gSS As (As.length - 1)).1.length)), .int (nI ((gSS As (As.length - 1)).2.1)), .int ((gSS As (As.length - 1)).2.2.1), .int ((gSS As (As.length - 1)).2.2.2)])), (nc, .inl (cI, 48, .inl u)), (aa, .inr (0, [.ref rw, .int (nI (As.length - 1))])), (rw, .inl (cS, 12, .inr (.inr (.inr (.inr rf)))))] ++ poolW cI ra ca nn pl yy bb ff)) (fun u => (hs u (gSS As (As.length - 1)).1)) := by
  refine CO_mki (by decide +kernel) (Nat.le_of_ble_eq_true rfl) (fun K ok ret => ?_)
  show XX K ([(x, .inr (4, [.ref ax, .ref aw, .ref an, .ref aa, .ref a0, .ref a1, .int (nI sk), .int (nI ll), .long sd, .ref ar, .ref aq, .ref al, .ref am])), (an, .inr (1, [.ref nc, .int (nI L.length), .int (nI li), .int ye, .int br])), (nc, .inl (cI, 48, .inl f)), (aa, .inr (0, [.ref rw, .int (nI As.length)])), (rw, .inl (cS, 12, .inr (.inr (.inr (.inr rf)))))] ++ poolW cI ra ca nn pl yy bb ff) [(0, .ref x)] 0 []
  refine x_aload_n ok 0 dX4_undo_0 rfl rfl ?_
  refine gX4_33 ok dX4_undo_1 0 rfl rfl ?_
  refine x_aload_n ok 0 dX4_undo_4 rfl rfl ?_
  refine gX4_26 ok dX4_undo_5 0 rfl rfl ?_
  refine qX4_152 ok (As := [.ref an]) (st := []) 3 rfl (c0_takeBack1 l D cI cZ cS aa rw ra ca nn pl yy bb ff pm rf an nc L.length li ye br f As (by first | assumption | omega) (by first | assumption | omega) (by first | assumption | omega) (by first | assumption | omega)) rfl (Nat.le_of_ble_eq_true rfl) (Nat.le_of_ble_eq_true rfl) (Nat.le_of_ble_eq_true rfl) dX4_undo_8 [3, 4, 1, 2, 5, 6, 7, 8, 9, 10, 11, 12, 13, 14, 15, 16, 17, 18, 19, 20, 21, 22, 23, 24, 25, 26, 27, 28] (by decide) pl_3_4_1_2_n5_hC (ws' := fun u => ([(x, .inr (4, [.ref ax, .ref aw, .ref an, .ref aa, .ref a0, .ref a1, .int (nI sk), .int (nI ll), .long sd, .ref ar, .ref aq, .ref al, .ref am])), (an, .inr (1, [.ref nc, .int (nI ((gSS As (As.length - 1)).1.length)), .int (nI ((gSS As (As.length - 1)).2.1)), .int ((gSS As (As.length - 1)).2.2.1), .int ((gSS As (As.length - 1)).2.2.2)])), (nc, .inl (cI, 48, .inl u)), (aa, .inr (0, [.ref rw, .int (nI (As.length - 1))])), (rw, .inl (cS, 12, .inr (.inr (.inr (.inr rf)))))] ++ poolW cI ra ca nn pl yy bb ff)) (st' := fun u => [.int (bz true)]) (fun _ => pl_3_4_1_2_n5_ha (by rfl)) (fun _ => pl_3_4_1_2_n5_hw) (fun _ => rfl) (fun u8 hu8 => ?_)
  obtain ⟨g8, rfl⟩ : ∃ z, z = u8 := ⟨_, rfl⟩
  have hg8 := hu8
  have hg8 : hs g8 (gSS As (As.length - 1)).1 := hg8
  show XX K ([(x, .inr (4, [.ref ax, .ref aw, .ref an, .ref aa, .ref a0, .ref a1, .int (nI sk), .int (nI ll), .long sd, .ref ar, .ref aq, .ref al, .ref am])), (an, .inr (1, [.ref nc, .int (nI ((gSS As (As.length - 1)).1.length)), .int (nI ((gSS As (As.length - 1)).2.1)), .int ((gSS As (As.length - 1)).2.2.1), .int ((gSS As (As.length - 1)).2.2.2)])), (nc, .inl (cI, 48, .inl g8)), (aa, .inr (0, [.ref rw, .int (nI (As.length - 1))])), (rw, .inl (cS, 12, .inr (.inr (.inr (.inr rf)))))] ++ poolW cI ra ca nn pl yy bb ff) [(0, .ref x)] 11 [.int (bz true)]
  refine x_if_eqB ok 24 dX4_undo_11 (by decide) (fun c_11 => absurd c_11 (fun z => z rfl)) (fun c_11 => ?_)
  refine x_aload_n ok 0 dX4_undo_14 rfl rfl ?_
  refine gX4_33 ok dX4_undo_15 0 rfl rfl ?_
  refine gX4_74 ok dX4_undo_18 3 rfl rfl ?_
  refine x_goto ok 26 dX4_undo_21 (by decide) ?_
  exact ret g8 _ _ _ (nI (As.length - 1)) dX4_undo_26 (rfl) (rfl) (hg8)

set_option maxHeartbeats 4000000 in
set_option maxRecDepth 100000 in
theorem p_sing0 (l : Launch) (D : va_G) (cI cZ cS : ClassId) (x : Nat) (ax : Nat) (aw : Nat) (an : Nat) (aa : Nat) (a0 : Nat) (a1 : Nat) (sk : Nat) (ll : Nat) (ar : Nat) (aq : Nat) (al : Nat) (am : Nat) (sd : Int64) (wd : Nat) (wt : Nat) (W : Nat) (df : Nat → Int32) (tf : Nat → Int32) (dp : Nat → Nat) (st : Nat → Nat) (A : Nat) (nc : Nat) (L : List Sg) (li : Nat) (ye : Int32) (br : Int32) (f : Nat → Int32) (z1 : Int32) (z2 : Int32) (z3 : Int32) (z4 : Int32) (hf : hs f L) (hv : okL W A L) (hW : W ≤ 4) (hl : li < 256) (hz : ¬ singC W li L z1 z2 z3 z4 = 0) : CO l D (TY cI cZ cS) yX4_sing cX4_sing 5 (some .int) 2 48 0 0 [.ref x, .int z1, .int z2, .int z3, .int z4] [(x, .inr (4, [.ref ax, .ref aw, .ref an, .ref aa, .ref a0, .ref a1, .int (nI sk), .int (nI ll), .long sd, .ref ar, .ref aq, .ref al, .ref am])), (aw, .inr (3, [.ref wd, .ref wt, .int (nI W)])), (an, .inr (1, [.ref nc, .int (nI L.length), .int (nI li), .int ye, .int br])), (nc, .inl (cI, 48, .inl f))] (σ := Unit) (fun u => some (.int (singC W li L z1 z2 z3 z4))) (fun u => [(x, .inr (4, [.ref ax, .ref aw, .ref an, .ref aa, .ref a0, .ref a1, .int (nI sk), .int (nI ll), .long sd, .ref ar, .ref aq, .ref al, .ref am])), (aw, .inr (3, [.ref wd, .ref wt, .int (nI W)])), (an, .inr (1, [.ref nc, .int (nI L.length), .int (nI li), .int ye, .int br])), (nc, .inl (cI, 48, .inl f))]) (fun u => True) := by
  refine CO_mki (by decide +kernel) (Nat.le_of_ble_eq_true rfl) (fun K ok ret => ?_)
  show XX K [(x, .inr (4, [.ref ax, .ref aw, .ref an, .ref aa, .ref a0, .ref a1, .int (nI sk), .int (nI ll), .long sd, .ref ar, .ref aq, .ref al, .ref am])), (aw, .inr (3, [.ref wd, .ref wt, .int (nI W)])), (an, .inr (1, [.ref nc, .int (nI L.length), .int (nI li), .int ye, .int br])), (nc, .inl (cI, 48, .inl f))] [(0, .ref x), (1, .int z1), (2, .int z2), (3, .int z3), (4, .int z4)] 0 []
  have h8 := hv.1
  refine x_aload_n ok 0 dX4_sing_0 rfl rfl ?_
  refine gX4_26 ok dX4_sing_1 0 rfl rfl ?_
  refine x_iload_n ok 1 dX4_sing_4 rfl rfl ?_
  refine qX4_127 ok (As := [.int z1]) (st := []) 2 rfl (c1_has l D cI cZ cS an nc L.length li ye br z1 ) rfl (Nat.le_of_ble_eq_true rfl) (Nat.le_of_ble_eq_true rfl) (Nat.le_of_ble_eq_true rfl) dX4_sing_5 [2] (by decide) rfl (ws' := fun u => [(x, .inr (4, [.ref ax, .ref aw, .ref an, .ref aa, .ref a0, .ref a1, .int (nI sk), .int (nI ll), .long sd, .ref ar, .ref aq, .ref al, .ref am])), (aw, .inr (3, [.ref wd, .ref wt, .int (nI W)])), (an, .inr (1, [.ref nc, .int (nI L.length), .int (nI li), .int ye, .int br])), (nc, .inl (cI, 48, .inl f))]) (st' := fun u => [.int (bz (hasB z1 L.length))]) (fun _ => rfl) (fun _ => rfl) (fun _ => rfl) (fun _ _ => ?_)
  refine x_if_neB ok 13 dX4_sing_8 (by decide) (fun c_8 => ?_) (fun c_8 => ?_)
  · skip
    obtain ⟨s, hj, e_z1⟩ := hasB_t (by omega) c_8
    subst e_z1
    have es := cl_n (show s < 2 ^ 31 by omega)
    refine x_iload_n ok 2 dX4_sing_13 rfl rfl ?_
    refine x_iconst ok (nI 0) dX4_sing_14 (by decide) ?_
    refine x_iconst ok (nI 1) dX4_sing_15 (by decide) ?_
    refine qX4_128 ok (As := [.int z2, .int (nI 0), .int (nI 1)]) (st := []) (c4_isWithin l D cI cZ cS z2 (nI 0) (nI 1) ) rfl (Nat.le_of_ble_eq_true rfl) (Nat.le_of_ble_eq_true rfl) (Nat.le_of_ble_eq_true rfl) dX4_sing_16 [] (by decide) rfl (ws' := fun u => [(x, .inr (4, [.ref ax, .ref aw, .ref an, .ref aa, .ref a0, .ref a1, .int (nI sk), .int (nI ll), .long sd, .ref ar, .ref aq, .ref al, .ref am])), (aw, .inr (3, [.ref wd, .ref wt, .int (nI W)])), (an, .inr (1, [.ref nc, .int (nI L.length), .int (nI li), .int ye, .int br])), (nc, .inl (cI, 48, .inl f))]) (st' := fun u => [.int (bz (inB z2 (nI 0) (nI 1)))]) (fun _ => rfl) (fun _ => rfl) (fun _ => rfl) (fun _ _ => ?_)
    refine x_if_eqB ok 42 dX4_sing_19 (by decide) (fun c_19 => ?_) (fun c_19 => ?_)
    · skip
      refine x_bipush ok ((-2)) dX4_sing_42 (by decide) ?_
      exact ret () _ _ _ ((-2)) dX4_sing_44 (rfl) (by rw [singC, if_pos c_8, if_neg (fun z => c_19 z.1)]) (trivial)
    · skip
      refine x_iload_n ok 3 dX4_sing_22 rfl rfl ?_
      refine x_iconst ok (nI 1) dX4_sing_23 (by decide) ?_
      refine x_bipush ok (nI 9) dX4_sing_24 (by decide) ?_
      refine qX4_128 ok (As := [.int z3, .int (nI 1), .int (nI 9)]) (st := []) (c4_isWithin l D cI cZ cS z3 (nI 1) (nI 9) ) rfl (Nat.le_of_ble_eq_true rfl) (Nat.le_of_ble_eq_true rfl) (Nat.le_of_ble_eq_true rfl) dX4_sing_26 [] (by decide) rfl (ws' := fun u => [(x, .inr (4, [.ref ax, .ref aw, .ref an, .ref aa, .ref a0, .ref a1, .int (nI sk), .int (nI ll), .long sd, .ref ar, .ref aq, .ref al, .ref am])), (aw, .inr (3, [.ref wd, .ref wt, .int (nI W)])), (an, .inr (1, [.ref nc, .int (nI L.length), .int (nI li), .int ye, .int br])), (nc, .inl (cI, 48, .inl f))]) (st' := fun u => [.int (bz (inB z3 (nI 1) (nI 9)))]) (fun _ => rfl) (fun _ => rfl) (fun _ => rfl) (fun _ _ => ?_)
      refine x_if_eqB ok 42 dX4_sing_29 (by decide) (fun c_29 => ?_) (fun c_29 => ?_)
      · skip
        refine x_bipush ok ((-2)) dX4_sing_42 (by decide) ?_
        exact ret () _ _ _ ((-2)) dX4_sing_44 (rfl) (by rw [singC, if_pos c_8, if_neg (fun z => c_29 z.2.1)]) (trivial)
      · skip
        refine x_iload ok 4 dX4_sing_32 rfl ?_
        refine x_iconst ok (nI 0) dX4_sing_34 (by decide) ?_
        refine x_iconst ok (nI 3) dX4_sing_35 (by decide) ?_
        refine qX4_128 ok (As := [.int z4, .int (nI 0), .int (nI 3)]) (st := []) (c4_isWithin l D cI cZ cS z4 (nI 0) (nI 3) ) rfl (Nat.le_of_ble_eq_true rfl) (Nat.le_of_ble_eq_true rfl) (Nat.le_of_ble_eq_true rfl) dX4_sing_36 [] (by decide) rfl (ws' := fun u => [(x, .inr (4, [.ref ax, .ref aw, .ref an, .ref aa, .ref a0, .ref a1, .int (nI sk), .int (nI ll), .long sd, .ref ar, .ref aq, .ref al, .ref am])), (aw, .inr (3, [.ref wd, .ref wt, .int (nI W)])), (an, .inr (1, [.ref nc, .int (nI L.length), .int (nI li), .int ye, .int br])), (nc, .inl (cI, 48, .inl f))]) (st' := fun u => [.int (bz (inB z4 (nI 0) (nI 3)))]) (fun _ => rfl) (fun _ => rfl) (fun _ => rfl) (fun _ _ => ?_)
        refine x_if_neB ok 45 dX4_sing_39 (by decide) (fun c_39 => ?_) (fun c_39 => ?_)
        · skip
          have hin := c_19
          have hin2 := c_29
          have hin3 := c_39
          obtain ⟨d, hd0, hd, e_z2⟩ := inB_t (by omega) (by omega) c_19
          subst e_z2
          have ed := cl_n (show d < 2 ^ 31 by omega)
          obtain ⟨v, hv0, hv9, e_z3⟩ := inB_t (by omega) (by omega) c_29
          subst e_z3
          have ev := cl_n (show v < 2 ^ 31 by omega)
          obtain ⟨p, hp0, hp, e_z4⟩ := inB_t (by omega) (by omega) c_39
          subst e_z4
          have ep := cl_n (show p < 2 ^ 31 by omega)
          refine x_aload_n ok 0 dX4_sing_45 rfl rfl ?_
          refine gX4_26 ok dX4_sing_46 0 rfl rfl ?_
          refine x_iload_n ok 1 dX4_sing_49 rfl rfl ?_
          refine x_iload_n ok 2 dX4_sing_50 rfl rfl ?_
          refine x_aload_n ok 0 dX4_sing_51 rfl rfl ?_
          refine gX4_19 ok dX4_sing_52 0 rfl rfl ?_
          refine qX4_144 ok (As := [.int (nI s), .int (nI d), .ref aw]) (st := []) 2 rfl (c1_isWayOpen l D cI cZ cS an nc L li ye br f aw wd wt W A s d (by first | assumption | omega) (by first | assumption | omega) (by first | assumption | omega) (by first | assumption | omega) (by first | assumption | omega) (by first | assumption | omega)) rfl (Nat.le_of_ble_eq_true rfl) (Nat.le_of_ble_eq_true rfl) (Nat.le_of_ble_eq_true rfl) dX4_sing_55 [2, 3, 1] (by decide) rfl (ws' := fun u => [(x, .inr (4, [.ref ax, .ref aw, .ref an, .ref aa, .ref a0, .ref a1, .int (nI sk), .int (nI ll), .long sd, .ref ar, .ref aq, .ref al, .ref am])), (aw, .inr (3, [.ref wd, .ref wt, .int (nI W)])), (an, .inr (1, [.ref nc, .int (nI L.length), .int (nI li), .int ye, .int br])), (nc, .inl (cI, 48, .inl f))]) (st' := fun u => [.int (bz (way W li (sg L s 1) d))]) (fun _ => rfl) (fun _ => rfl) (fun _ => rfl) (fun _ _ => ?_)
          refine x_if_neB ok 64 dX4_sing_58 (by decide) (fun c_58 => ?_) (fun c_58 => ?_)
          · skip
            refine x_aload_n ok 0 dX4_sing_64 rfl rfl ?_
            refine gX4_26 ok dX4_sing_65 0 rfl rfl ?_
            refine gX4_88 ok dX4_sing_68 2 rfl rfl ?_
            refine x_bipush ok (nI 8) dX4_sing_71 (by decide) ?_
            refine x_icmp_ltN ok 79 dX4_sing_73 (by decide) (by omega) (by omega) (fun c_73 => ?_) (fun c_73 => ?_)
            · skip
              exact (hz (by rw [singC, if_pos c_8, if_pos ⟨hin, hin2, hin3⟩, es, ed, if_pos c_58, if_pos c_73]) : False).elim
            · skip
              refine x_bipush ok ((-4)) dX4_sing_76 (by decide) ?_
              exact ret () _ _ _ ((-4)) dX4_sing_78 (rfl) (by rw [singC, if_pos c_8, if_pos ⟨hin, hin2, hin3⟩, es, ed, if_pos c_58, if_neg c_73]) (trivial)
          · skip
            refine x_bipush ok ((-3)) dX4_sing_61 (by decide) ?_
            exact ret () _ _ _ ((-3)) dX4_sing_63 (rfl) (by rw [singC, if_pos c_8, if_pos ⟨hin, hin2, hin3⟩, es, ed, if_neg c_58]) (trivial)
        · skip
          refine x_bipush ok ((-2)) dX4_sing_42 (by decide) ?_
          exact ret () _ _ _ ((-2)) dX4_sing_44 (rfl) (by rw [singC, if_pos c_8, if_neg (fun z => c_39 z.2.2)]) (trivial)
  · skip
    refine x_iconst ok ((-1)) dX4_sing_11 (by decide) ?_
    exact ret () _ _ _ ((-1)) dX4_sing_12 (rfl) (by rw [singC, if_neg c_8]) (trivial)

set_option maxHeartbeats 4000000 in
set_option maxRecDepth 100000 in
theorem p_sing1 (l : Launch) (D : va_G) (cI cZ cS : ClassId) (x : Nat) (ax : Nat) (aw : Nat) (an : Nat) (aa : Nat) (a0 : Nat) (a1 : Nat) (sk : Nat) (ll : Nat) (ar : Nat) (aq : Nat) (al : Nat) (am : Nat) (sd : Int64) (wd : Nat) (wt : Nat) (W : Nat) (df : Nat → Int32) (tf : Nat → Int32) (dp : Nat → Nat) (st : Nat → Nat) (A : Nat) (nc : Nat) (L : List Sg) (li : Nat) (ye : Int32) (br : Int32) (f : Nat → Int32) (rw : Nat) (ra : Nat → Nat) (ca : Nat → Nat) (nn : Nat → Nat) (pl : Nat → Nat) (yy : Nat → Int32) (bb : Nat → Int32) (ff : Nat → Nat → Int32) (pm : Nat → Nat) (rf : Nat → Option Nat) (As : List SS) (s : Nat) (d : Nat) (v : Nat) (p : Nat) (hf : hs f L) (hv : okL W A L) (hW : W ≤ 4) (hst : ∀ w, w < W → tf w = nI (st w)) (hst2 : ∀ w, w < W → st w ≤ 2) (hl : li < 256) (hr : rowR rf ra pm) (hact : actR As pm nn pl yy bb ff) (hs1 : s < L.length) (hd : d ≤ 1) (hv0 : 1 ≤ v) (hv9 : v ≤ 9) (hp3 : p ≤ 3) (hway : way W li (sg L s 1) d = true) (h7 : L.length < 8) : CO l D (TY cI cZ cS) yX4_sing cX4_sing 5 (some .int) 3 78 0 0 [.ref x, .int (nI s), .int (nI d), .int (nI v), .int (nI p)] ([(x, .inr (4, [.ref ax, .ref aw, .ref an, .ref aa, .ref a0, .ref a1, .int (nI sk), .int (nI ll), .long sd, .ref ar, .ref aq, .ref al, .ref am])), (aw, .inr (3, [.ref wd, .ref wt, .int (nI W)])), (wt, .inl (cI, 4, .inl tf)), (an, .inr (1, [.ref nc, .int (nI L.length), .int (nI li), .int ye, .int br])), (nc, .inl (cI, 48, .inl f)), (aa, .inr (0, [.ref rw, .int (nI As.length)])), (rw, .inl (cS, 12, .inr (.inr (.inr (.inr rf)))))] ++ poolW cI ra ca nn pl yy bb ff) (σ := (Nat → Int32) × (Nat → Option Nat) × (Nat → Nat) × (Nat → Nat) × (Nat → Nat) × (Nat → Int32) × (Nat → Int32) × (Nat → Nat → Int32)) (fun u => some (.int (nI L.length))) (fun u => ([(x, .inr (4, [.ref ax, .ref aw, .ref an, .ref aa, .ref a0, .ref a1, .int (nI sk), .int (nI ll), .long sd, .ref ar, .ref aq, .ref al, .ref am])), (aw, .inr (3, [.ref wd, .ref wt, .int (nI W)])), (wt, .inl (cI, 4, .inl tf)), (an, .inr (1, [.ref nc, .int (nI ((sungL st L s (jN L s d) v p).length)), .int (nI li), .int ye, .int (br + nI v)])), (nc, .inl (cI, 48, .inl u.1)), (aa, .inr (0, [.ref rw, .int (nI ((remL As (L, li, ye, br)).length))])), (rw, .inl (cS, 12, .inr (.inr (.inr (.inr u.2.1)))))] ++ poolW cI ra ca u.2.2.2.1 u.2.2.2.2.1 u.2.2.2.2.2.1 u.2.2.2.2.2.2.1 u.2.2.2.2.2.2.2)) (fun u => (hs u.1 (sungL st L s (jN L s d) v p)) ∧ (rowR u.2.1 ra u.2.2.1) ∧ (actR (remL As (L, li, ye, br)) u.2.2.1 u.2.2.2.1 u.2.2.2.2.1 u.2.2.2.2.2.1 u.2.2.2.2.2.2.1 u.2.2.2.2.2.2.2)) := by
  refine CO_mki (by decide +kernel) (Nat.le_of_ble_eq_true rfl) (fun K ok ret => ?_)
  show XX K ([(x, .inr (4, [.ref ax, .ref aw, .ref an, .ref aa, .ref a0, .ref a1, .int (nI sk), .int (nI ll), .long sd, .ref ar, .ref aq, .ref al, .ref am])), (aw, .inr (3, [.ref wd, .ref wt, .int (nI W)])), (wt, .inl (cI, 4, .inl tf)), (an, .inr (1, [.ref nc, .int (nI L.length), .int (nI li), .int ye, .int br])), (nc, .inl (cI, 48, .inl f)), (aa, .inr (0, [.ref rw, .int (nI As.length)])), (rw, .inl (cS, 12, .inr (.inr (.inr (.inr rf)))))] ++ poolW cI ra ca nn pl yy bb ff) [(0, .ref x), (1, .int (nI s)), (2, .int (nI d)), (3, .int (nI v)), (4, .int (nI p))] 0 []
  have h8 := hv.1
  have hwj := way_j hW hway
  refine x_aload_n ok 0 dX4_sing_0 rfl rfl ?_
  refine gX4_26 ok dX4_sing_1 0 rfl rfl ?_
  refine x_iload_n ok 1 dX4_sing_4 rfl rfl ?_
  refine qX4_127 ok (As := [.int (nI s)]) (st := []) 3 rfl (c1_has l D cI cZ cS an nc L.length li ye br (nI s) ) rfl (Nat.le_of_ble_eq_true rfl) (Nat.le_of_ble_eq_true rfl) (Nat.le_of_ble_eq_true rfl) dX4_sing_5 [3] (by decide) rfl (ws' := fun u => ([(x, .inr (4, [.ref ax, .ref aw, .ref an, .ref aa, .ref a0, .ref a1, .int (nI sk), .int (nI ll), .long sd, .ref ar, .ref aq, .ref al, .ref am])), (aw, .inr (3, [.ref wd, .ref wt, .int (nI W)])), (wt, .inl (cI, 4, .inl tf)), (an, .inr (1, [.ref nc, .int (nI L.length), .int (nI li), .int ye, .int br])), (nc, .inl (cI, 48, .inl f)), (aa, .inr (0, [.ref rw, .int (nI As.length)])), (rw, .inl (cS, 12, .inr (.inr (.inr (.inr rf)))))] ++ poolW cI ra ca nn pl yy bb ff)) (st' := fun u => [.int (bz (hasB (nI s) L.length))]) (fun _ => rfl) (fun _ => by simp only [setL, List.cons_append, List.nil_append, List.set_cons_zero, List.set_cons_succ]) (fun _ => rfl) (fun _ _ => ?_)
  refine x_if_neB ok 13 dX4_sing_8 (by decide) (fun c_8 => ?_) (fun c_8 => absurd c_8 (fun z => z (hasB_n hs1 (by omega))))
  refine x_iload_n ok 2 dX4_sing_13 rfl rfl ?_
  refine x_iconst ok (nI 0) dX4_sing_14 (by decide) ?_
  refine x_iconst ok (nI 1) dX4_sing_15 (by decide) ?_
  refine qX4_128 ok (As := [.int (nI d), .int (nI 0), .int (nI 1)]) (st := []) (c4_isWithin l D cI cZ cS (nI d) (nI 0) (nI 1) ) rfl (Nat.le_of_ble_eq_true rfl) (Nat.le_of_ble_eq_true rfl) (Nat.le_of_ble_eq_true rfl) dX4_sing_16 [] (by decide) rfl (ws' := fun u => ([(x, .inr (4, [.ref ax, .ref aw, .ref an, .ref aa, .ref a0, .ref a1, .int (nI sk), .int (nI ll), .long sd, .ref ar, .ref aq, .ref al, .ref am])), (aw, .inr (3, [.ref wd, .ref wt, .int (nI W)])), (wt, .inl (cI, 4, .inl tf)), (an, .inr (1, [.ref nc, .int (nI L.length), .int (nI li), .int ye, .int br])), (nc, .inl (cI, 48, .inl f)), (aa, .inr (0, [.ref rw, .int (nI As.length)])), (rw, .inl (cS, 12, .inr (.inr (.inr (.inr rf)))))] ++ poolW cI ra ca nn pl yy bb ff)) (st' := fun u => [.int (bz (inB (nI d) (nI 0) (nI 1)))]) (fun _ => rfl) (fun _ => by simp only [setL, List.cons_append, List.nil_append, List.set_cons_zero, List.set_cons_succ]) (fun _ => rfl) (fun _ _ => ?_)
  refine x_if_eqB ok 42 dX4_sing_19 (by decide) (fun c_19 => absurd c_19 (fun z => z (inB_n (by omega) (Nat.zero_le _) hd))) (fun c_19 => ?_)
  refine x_iload_n ok 3 dX4_sing_22 rfl rfl ?_
  refine x_iconst ok (nI 1) dX4_sing_23 (by decide) ?_
  refine x_bipush ok (nI 9) dX4_sing_24 (by decide) ?_
  refine qX4_128 ok (As := [.int (nI v), .int (nI 1), .int (nI 9)]) (st := []) (c4_isWithin l D cI cZ cS (nI v) (nI 1) (nI 9) ) rfl (Nat.le_of_ble_eq_true rfl) (Nat.le_of_ble_eq_true rfl) (Nat.le_of_ble_eq_true rfl) dX4_sing_26 [] (by decide) rfl (ws' := fun u => ([(x, .inr (4, [.ref ax, .ref aw, .ref an, .ref aa, .ref a0, .ref a1, .int (nI sk), .int (nI ll), .long sd, .ref ar, .ref aq, .ref al, .ref am])), (aw, .inr (3, [.ref wd, .ref wt, .int (nI W)])), (wt, .inl (cI, 4, .inl tf)), (an, .inr (1, [.ref nc, .int (nI L.length), .int (nI li), .int ye, .int br])), (nc, .inl (cI, 48, .inl f)), (aa, .inr (0, [.ref rw, .int (nI As.length)])), (rw, .inl (cS, 12, .inr (.inr (.inr (.inr rf)))))] ++ poolW cI ra ca nn pl yy bb ff)) (st' := fun u => [.int (bz (inB (nI v) (nI 1) (nI 9)))]) (fun _ => rfl) (fun _ => by simp only [setL, List.cons_append, List.nil_append, List.set_cons_zero, List.set_cons_succ]) (fun _ => rfl) (fun _ _ => ?_)
  refine x_if_eqB ok 42 dX4_sing_29 (by decide) (fun c_29 => absurd c_29 (fun z => z (inB_n (by omega) hv0 hv9))) (fun c_29 => ?_)
  refine x_iload ok 4 dX4_sing_32 rfl ?_
  refine x_iconst ok (nI 0) dX4_sing_34 (by decide) ?_
  refine x_iconst ok (nI 3) dX4_sing_35 (by decide) ?_
  refine qX4_128 ok (As := [.int (nI p), .int (nI 0), .int (nI 3)]) (st := []) (c4_isWithin l D cI cZ cS (nI p) (nI 0) (nI 3) ) rfl (Nat.le_of_ble_eq_true rfl) (Nat.le_of_ble_eq_true rfl) (Nat.le_of_ble_eq_true rfl) dX4_sing_36 [] (by decide) rfl (ws' := fun u => ([(x, .inr (4, [.ref ax, .ref aw, .ref an, .ref aa, .ref a0, .ref a1, .int (nI sk), .int (nI ll), .long sd, .ref ar, .ref aq, .ref al, .ref am])), (aw, .inr (3, [.ref wd, .ref wt, .int (nI W)])), (wt, .inl (cI, 4, .inl tf)), (an, .inr (1, [.ref nc, .int (nI L.length), .int (nI li), .int ye, .int br])), (nc, .inl (cI, 48, .inl f)), (aa, .inr (0, [.ref rw, .int (nI As.length)])), (rw, .inl (cS, 12, .inr (.inr (.inr (.inr rf)))))] ++ poolW cI ra ca nn pl yy bb ff)) (st' := fun u => [.int (bz (inB (nI p) (nI 0) (nI 3)))]) (fun _ => rfl) (fun _ => by simp only [setL, List.cons_append, List.nil_append, List.set_cons_zero, List.set_cons_succ]) (fun _ => rfl) (fun _ _ => ?_)
  refine x_if_neB ok 45 dX4_sing_39 (by decide) (fun c_39 => ?_) (fun c_39 => absurd c_39 (fun z => z (inB_n (by omega) (Nat.zero_le _) hp3)))
  refine x_aload_n ok 0 dX4_sing_45 rfl rfl ?_
  refine gX4_26 ok dX4_sing_46 0 rfl rfl ?_
  refine x_iload_n ok 1 dX4_sing_49 rfl rfl ?_
  refine x_iload_n ok 2 dX4_sing_50 rfl rfl ?_
  refine x_aload_n ok 0 dX4_sing_51 rfl rfl ?_
  refine gX4_19 ok dX4_sing_52 0 rfl rfl ?_
  refine qX4_144 ok (As := [.int (nI s), .int (nI d), .ref aw]) (st := []) 3 rfl (c1_isWayOpen l D cI cZ cS an nc L li ye br f aw wd wt W A s d (by first | assumption | omega) (by first | assumption | omega) (by first | assumption | omega) (by first | assumption | omega) (by first | assumption | omega) (by first | assumption | omega)) rfl (Nat.le_of_ble_eq_true rfl) (Nat.le_of_ble_eq_true rfl) (Nat.le_of_ble_eq_true rfl) dX4_sing_55 [3, 4, 1] (by decide) rfl (ws' := fun u => ([(x, .inr (4, [.ref ax, .ref aw, .ref an, .ref aa, .ref a0, .ref a1, .int (nI sk), .int (nI ll), .long sd, .ref ar, .ref aq, .ref al, .ref am])), (aw, .inr (3, [.ref wd, .ref wt, .int (nI W)])), (wt, .inl (cI, 4, .inl tf)), (an, .inr (1, [.ref nc, .int (nI L.length), .int (nI li), .int ye, .int br])), (nc, .inl (cI, 48, .inl f)), (aa, .inr (0, [.ref rw, .int (nI As.length)])), (rw, .inl (cS, 12, .inr (.inr (.inr (.inr rf)))))] ++ poolW cI ra ca nn pl yy bb ff)) (st' := fun u => [.int (bz (way W li (sg L s 1) d))]) (fun _ => rfl) (fun _ => by simp only [setL, List.cons_append, List.nil_append, List.set_cons_zero, List.set_cons_succ]) (fun _ => rfl) (fun _ _ => ?_)
  refine x_if_neB ok 64 dX4_sing_58 (by decide) (fun c_58 => ?_) (fun c_58 => absurd c_58 (fun z => z hway))
  refine x_aload_n ok 0 dX4_sing_64 rfl rfl ?_
  refine gX4_26 ok dX4_sing_65 0 rfl rfl ?_
  refine gX4_88 ok dX4_sing_68 3 rfl rfl ?_
  refine x_bipush ok (nI 8) dX4_sing_71 (by decide) ?_
  refine x_icmp_ltN ok 79 dX4_sing_73 (by decide) (by omega) (by omega) (fun c_73 => ?_) (fun c_73 => absurd c_73 (by omega))
  refine x_aload_n ok 0 dX4_sing_79 rfl rfl ?_
  refine gX4_33 ok dX4_sing_80 0 rfl rfl ?_
  refine x_aload_n ok 0 dX4_sing_83 rfl rfl ?_
  refine gX4_26 ok dX4_sing_84 0 rfl rfl ?_
  refine qX4_136 ok (As := [.ref an]) (st := []) 5 rfl (c0_remember l D cI cZ cS aa rw ra ca nn pl yy bb ff pm rf an nc L li ye br f As (by first | assumption | omega) (by first | assumption | omega) (by first | assumption | omega) (by first | assumption | omega)) rfl (Nat.le_of_ble_eq_true rfl) (Nat.le_of_ble_eq_true rfl) (Nat.le_of_ble_eq_true rfl) dX4_sing_87 [5, 6, 3, 4, 7, 8, 9, 10, 11, 12, 13, 14, 15, 16, 17, 18, 19, 20, 21, 22, 23, 24, 25, 26, 27, 28, 29, 30] (by decide) pl_5_6_3_4_n7_hC (ws' := fun u => ([(x, .inr (4, [.ref ax, .ref aw, .ref an, .ref aa, .ref a0, .ref a1, .int (nI sk), .int (nI ll), .long sd, .ref ar, .ref aq, .ref al, .ref am])), (aw, .inr (3, [.ref wd, .ref wt, .int (nI W)])), (wt, .inl (cI, 4, .inl tf)), (an, .inr (1, [.ref nc, .int (nI L.length), .int (nI li), .int ye, .int br])), (nc, .inl (cI, 48, .inl f)), (aa, .inr (0, [.ref rw, .int (nI ((remL As (L, li, ye, br)).length))])), (rw, .inl (cS, 12, .inr (.inr (.inr (.inr u.1)))))] ++ poolW cI ra ca u.2.2.1 u.2.2.2.1 u.2.2.2.2.1 u.2.2.2.2.2.1 u.2.2.2.2.2.2)) (st' := fun u => []) (fun _ => pl_5_6_3_4_n7_ha (by rfl)) (fun _ => pl_5_6_3_4_n7_hw) (fun _ => rfl) (fun u87 hu87 => ?_)
  obtain ⟨g87, qm87, n287, p287, y287, b287, f287⟩ := u87
  obtain ⟨hr287, hact287⟩ := hu87
  have hr287 : rowR g87 ra qm87 := hr287
  have hact287 : actR (remL As (L, li, ye, br)) qm87 n287 p287 y287 b287 f287 := hact287
  show XX K ([(x, .inr (4, [.ref ax, .ref aw, .ref an, .ref aa, .ref a0, .ref a1, .int (nI sk), .int (nI ll), .long sd, .ref ar, .ref aq, .ref al, .ref am])), (aw, .inr (3, [.ref wd, .ref wt, .int (nI W)])), (wt, .inl (cI, 4, .inl tf)), (an, .inr (1, [.ref nc, .int (nI L.length), .int (nI li), .int ye, .int br])), (nc, .inl (cI, 48, .inl f)), (aa, .inr (0, [.ref rw, .int (nI ((remL As (L, li, ye, br)).length))])), (rw, .inl (cS, 12, .inr (.inr (.inr (.inr g87)))))] ++ poolW cI ra ca n287 p287 y287 b287 f287) [(0, .ref x), (1, .int (nI s)), (2, .int (nI d)), (3, .int (nI v)), (4, .int (nI p))] 90 []
  refine x_aload_n ok 0 dX4_sing_90 rfl rfl ?_
  refine gX4_26 ok dX4_sing_91 0 rfl rfl ?_
  refine x_iload_n ok 1 dX4_sing_94 rfl rfl ?_
  refine x_iload_n ok 2 dX4_sing_95 rfl rfl ?_
  refine x_iload_n ok 3 dX4_sing_96 rfl rfl ?_
  refine x_iload ok 4 dX4_sing_97 rfl ?_
  refine x_aload_n ok 0 dX4_sing_99 rfl rfl ?_
  refine gX4_19 ok dX4_sing_100 0 rfl rfl ?_
  refine qX4_148 ok (As := [.int (nI s), .int (nI d), .int (nI v), .int (nI p), .ref aw]) (st := []) 3 rfl (c1_singOn l D cI cZ cS an nc L li ye br f aw wd wt W tf st A s d v p (jN L s d) (by first | assumption | omega) (by first | assumption | omega) (by first | assumption | omega) (by first | assumption | omega) (by first | assumption | omega) (by first | assumption | omega) (by first | assumption | omega) (by first | assumption | omega) (hwj.2)) rfl (Nat.le_of_ble_eq_true rfl) (Nat.le_of_ble_eq_true rfl) (Nat.le_of_ble_eq_true rfl) dX4_sing_103 [3, 4, 1, 2] (by decide) rfl (ws' := fun u => ([(x, .inr (4, [.ref ax, .ref aw, .ref an, .ref aa, .ref a0, .ref a1, .int (nI sk), .int (nI ll), .long sd, .ref ar, .ref aq, .ref al, .ref am])), (aw, .inr (3, [.ref wd, .ref wt, .int (nI W)])), (wt, .inl (cI, 4, .inl tf)), (an, .inr (1, [.ref nc, .int (nI ((sungL st L s (jN L s d) v p).length)), .int (nI li), .int ye, .int (br + nI v)])), (nc, .inl (cI, 48, .inl u)), (aa, .inr (0, [.ref rw, .int (nI ((remL As (L, li, ye, br)).length))])), (rw, .inl (cS, 12, .inr (.inr (.inr (.inr g87)))))] ++ poolW cI ra ca n287 p287 y287 b287 f287)) (st' := fun u => [.int (nI L.length)]) (fun _ => rfl) (fun _ => by simp only [setL, List.cons_append, List.nil_append, List.set_cons_zero, List.set_cons_succ]) (fun _ => rfl) (fun u103 hu103 => ?_)
  obtain ⟨g103, rfl⟩ : ∃ z, z = u103 := ⟨_, rfl⟩
  have hg103 := hu103
  have hg103 : hs g103 (sungL st L s (jN L s d) v p) := hg103
  show XX K ([(x, .inr (4, [.ref ax, .ref aw, .ref an, .ref aa, .ref a0, .ref a1, .int (nI sk), .int (nI ll), .long sd, .ref ar, .ref aq, .ref al, .ref am])), (aw, .inr (3, [.ref wd, .ref wt, .int (nI W)])), (wt, .inl (cI, 4, .inl tf)), (an, .inr (1, [.ref nc, .int (nI ((sungL st L s (jN L s d) v p).length)), .int (nI li), .int ye, .int (br + nI v)])), (nc, .inl (cI, 48, .inl g103)), (aa, .inr (0, [.ref rw, .int (nI ((remL As (L, li, ye, br)).length))])), (rw, .inl (cS, 12, .inr (.inr (.inr (.inr g87)))))] ++ poolW cI ra ca n287 p287 y287 b287 f287) [(0, .ref x), (1, .int (nI s)), (2, .int (nI d)), (3, .int (nI v)), (4, .int (nI p))] 106 [.int (nI L.length)]
  exact ret (g103, g87, qm87, n287, p287, y287, b287, f287) _ _ _ (nI L.length) dX4_sing_106 (rfl) (rfl) (⟨hg103, hr287, hact287⟩)

set_option maxHeartbeats 4000000 in
set_option maxRecDepth 100000 in
theorem p_keep0 (l : Launch) (D : va_G) (cI cZ cS : ClassId) (x : Nat) (ax : Nat) (aw : Nat) (an : Nat) (aa : Nat) (a0 : Nat) (a1 : Nat) (sk : Nat) (ll : Nat) (ar : Nat) (aq : Nat) (al : Nat) (am : Nat) (sd : Int64) (z : Int32) (hz : ¬ inB z (nI 0) (nI 1) = true) : CO l D (TY cI cZ cS) yX4_keep cX4_keep 2 (some .int) 1 22 0 0 [.ref x, .int z] [(x, .inr (4, [.ref ax, .ref aw, .ref an, .ref aa, .ref a0, .ref a1, .int (nI sk), .int (nI ll), .long sd, .ref ar, .ref aq, .ref al, .ref am]))] (σ := Unit) (fun u => some (.int ((-1)))) (fun u => [(x, .inr (4, [.ref ax, .ref aw, .ref an, .ref aa, .ref a0, .ref a1, .int (nI sk), .int (nI ll), .long sd, .ref ar, .ref aq, .ref al, .ref am]))]) (fun u => True) := by
  refine CO_mki (by decide +kernel) (Nat.le_of_ble_eq_true rfl) (fun K ok ret => ?_)
  show XX K [(x, .inr (4, [.ref ax, .ref aw, .ref an, .ref aa, .ref a0, .ref a1, .int (nI sk), .int (nI ll), .long sd, .ref ar, .ref aq, .ref al, .ref am]))] [(0, .ref x), (1, .int z)] 0 []
  refine x_iload_n ok 1 dX4_keep_0 rfl rfl ?_
  refine x_iconst ok (nI 0) dX4_keep_1 (by decide) ?_
  refine x_iconst ok (nI 1) dX4_keep_2 (by decide) ?_
  refine qX4_128 ok (As := [.int z, .int (nI 0), .int (nI 1)]) (st := []) (c4_isWithin l D cI cZ cS z (nI 0) (nI 1) ) rfl (Nat.le_of_ble_eq_true rfl) (Nat.le_of_ble_eq_true rfl) (Nat.le_of_ble_eq_true rfl) dX4_keep_3 [] (by decide) rfl (ws' := fun u => [(x, .inr (4, [.ref ax, .ref aw, .ref an, .ref aa, .ref a0, .ref a1, .int (nI sk), .int (nI ll), .long sd, .ref ar, .ref aq, .ref al, .ref am]))]) (st' := fun u => [.int (bz (inB z (nI 0) (nI 1)))]) (fun _ => rfl) (fun _ => rfl) (fun _ => rfl) (fun _ _ => ?_)
  refine x_if_neB ok 11 dX4_keep_6 (by decide) (fun c_6 => ?_) (fun c_6 => ?_)
  · skip
    exact (hz c_6 : False).elim
  · skip
    refine x_iconst ok ((-1)) dX4_keep_9 (by decide) ?_
    exact ret () _ _ _ ((-1)) dX4_keep_10 (rfl) (by first | rfl | (simp [c_6]; done)) (trivial)

set_option maxHeartbeats 4000000 in
set_option maxRecDepth 100000 in
theorem p_keepA (l : Launch) (D : va_G) (cI cZ cS : ClassId) (x : Nat) (ax : Nat) (aw : Nat) (an : Nat) (aa : Nat) (a0 : Nat) (a1 : Nat) (sk : Nat) (ll : Nat) (ar : Nat) (aq : Nat) (al : Nat) (am : Nat) (sd : Int64) (nc : Nat) (L : List Sg) (li : Nat) (ye : Int32) (br : Int32) (f : Nat → Int32) (sc : Nat) (sn : Nat) (sl : Nat) (sy : Int32) (sb : Int32) (sf : Nat → Int32) (hf : hs f L) (h8 : L.length ≤ 8) : CO l D (TY cI cZ cS) yX4_keep cX4_keep 2 (some .int) 2 37 0 0 [.ref x, .int (nI 0)] [(x, .inr (4, [.ref ax, .ref aw, .ref an, .ref aa, .ref a0, .ref a1, .int (nI sk), .int (nI ll), .long sd, .ref ar, .ref aq, .ref al, .ref am])), (an, .inr (1, [.ref nc, .int (nI L.length), .int (nI li), .int ye, .int br])), (nc, .inl (cI, 48, .inl f)), (a0, .inr (1, [.ref sc, .int (nI sn), .int (nI sl), .int sy, .int sb])), (sc, .inl (cI, 48, .inl sf))] (σ := (Nat → Int32)) (fun u => some (.int (nI L.length))) (fun u => [(x, .inr (4, [.ref ax, .ref aw, .ref an, .ref aa, .ref a0, .ref a1, .int (nI (sk ||| 1)), .int (nI ll), .long sd, .ref ar, .ref aq, .ref al, .ref am])), (an, .inr (1, [.ref nc, .int (nI L.length), .int (nI li), .int ye, .int br])), (nc, .inl (cI, 48, .inl f)), (a0, .inr (1, [.ref sc, .int (nI L.length), .int (nI li), .int ye, .int br])), (sc, .inl (cI, 48, .inl u))]) (fun u => (hs u L)) := by
  refine CO_mki (by decide +kernel) (Nat.le_of_ble_eq_true rfl) (fun K ok ret => ?_)
  show XX K [(x, .inr (4, [.ref ax, .ref aw, .ref an, .ref aa, .ref a0, .ref a1, .int (nI sk), .int (nI ll), .long sd, .ref ar, .ref aq, .ref al, .ref am])), (an, .inr (1, [.ref nc, .int (nI L.length), .int (nI li), .int ye, .int br])), (nc, .inl (cI, 48, .inl f)), (a0, .inr (1, [.ref sc, .int (nI sn), .int (nI sl), .int sy, .int sb])), (sc, .inl (cI, 48, .inl sf))] [(0, .ref x), (1, .int (nI 0))] 0 []
  refine x_iload_n ok 1 dX4_keep_0 rfl rfl ?_
  refine x_iconst ok (nI 0) dX4_keep_1 (by decide) ?_
  refine x_iconst ok (nI 1) dX4_keep_2 (by decide) ?_
  refine qX4_128 ok (As := [.int (nI 0), .int (nI 0), .int (nI 1)]) (st := []) (c4_isWithin l D cI cZ cS (nI 0) (nI 0) (nI 1) ) rfl (Nat.le_of_ble_eq_true rfl) (Nat.le_of_ble_eq_true rfl) (Nat.le_of_ble_eq_true rfl) dX4_keep_3 [] (by decide) rfl (ws' := fun u => [(x, .inr (4, [.ref ax, .ref aw, .ref an, .ref aa, .ref a0, .ref a1, .int (nI sk), .int (nI ll), .long sd, .ref ar, .ref aq, .ref al, .ref am])), (an, .inr (1, [.ref nc, .int (nI L.length), .int (nI li), .int ye, .int br])), (nc, .inl (cI, 48, .inl f)), (a0, .inr (1, [.ref sc, .int (nI sn), .int (nI sl), .int sy, .int sb])), (sc, .inl (cI, 48, .inl sf))]) (st' := fun u => [.int (bz (inB (nI 0) (nI 0) (nI 1)))]) (fun _ => rfl) (fun _ => rfl) (fun _ => rfl) (fun _ _ => ?_)
  refine x_if_neB ok 11 dX4_keep_6 (by decide) (fun c_6 => ?_) (fun c_6 => absurd c_6 (fun z => z (by decide)))
  refine x_aload_n ok 0 dX4_keep_11 rfl rfl ?_
  refine x_iload_n ok 1 dX4_keep_12 rfl rfl ?_
  refine qX4_280 ok (As := [.int (nI 0)]) (st := []) 0 rfl (c4_slotOf0 l D cI cZ cS x ax aw an aa a0 a1 sk ll ar aq al am sd ) rfl (Nat.le_of_ble_eq_true rfl) (Nat.le_of_ble_eq_true rfl) (Nat.le_of_ble_eq_true rfl) dX4_keep_13 [0] (by decide) rfl (ws' := fun u => [(x, .inr (4, [.ref ax, .ref aw, .ref an, .ref aa, .ref a0, .ref a1, .int (nI sk), .int (nI ll), .long sd, .ref ar, .ref aq, .ref al, .ref am])), (an, .inr (1, [.ref nc, .int (nI L.length), .int (nI li), .int ye, .int br])), (nc, .inl (cI, 48, .inl f)), (a0, .inr (1, [.ref sc, .int (nI sn), .int (nI sl), .int sy, .int sb])), (sc, .inl (cI, 48, .inl sf))]) (st' := fun u => [.ref a0]) (fun _ => rfl) (fun _ => rfl) (fun _ => rfl) (fun _ _ => ?_)
  refine x_aload_n ok 0 dX4_keep_16 rfl rfl ?_
  refine gX4_26 ok dX4_keep_17 0 rfl rfl ?_
  refine qX4_168 ok (As := [.ref an]) (st := []) 3 rfl (c1_take l D cI cZ cS a0 sc sn sl sy sb sf an nc L li ye br f (by first | assumption | omega) (by first | assumption | omega)) rfl (Nat.le_of_ble_eq_true rfl) (Nat.le_of_ble_eq_true rfl) (Nat.le_of_ble_eq_true rfl) dX4_keep_20 [3, 4, 1, 2] (by decide) rfl (ws' := fun u => [(x, .inr (4, [.ref ax, .ref aw, .ref an, .ref aa, .ref a0, .ref a1, .int (nI sk), .int (nI ll), .long sd, .ref ar, .ref aq, .ref al, .ref am])), (an, .inr (1, [.ref nc, .int (nI L.length), .int (nI li), .int ye, .int br])), (nc, .inl (cI, 48, .inl f)), (a0, .inr (1, [.ref sc, .int (nI L.length), .int (nI li), .int ye, .int br])), (sc, .inl (cI, 48, .inl u))]) (st' := fun u => []) (fun _ => rfl) (fun _ => rfl) (fun _ => rfl) (fun u20 hu20 => ?_)
  obtain ⟨g20, rfl⟩ : ∃ z, z = u20 := ⟨_, rfl⟩
  have hg20 := hu20
  have hg20 : hs g20 L := hg20
  show XX K [(x, .inr (4, [.ref ax, .ref aw, .ref an, .ref aa, .ref a0, .ref a1, .int (nI sk), .int (nI ll), .long sd, .ref ar, .ref aq, .ref al, .ref am])), (an, .inr (1, [.ref nc, .int (nI L.length), .int (nI li), .int ye, .int br])), (nc, .inl (cI, 48, .inl f)), (a0, .inr (1, [.ref sc, .int (nI L.length), .int (nI li), .int ye, .int br])), (sc, .inl (cI, 48, .inl g20))] [(0, .ref x), (1, .int (nI 0))] 23 []
  refine x_aload_n ok 0 dX4_keep_23 rfl rfl ?_
  refine x_dup ok dX4_keep_24 rfl ?_
  refine gX4_75 ok dX4_keep_25 0 rfl rfl ?_
  refine x_iconst ok (nI 1) dX4_keep_28 (by decide) ?_
  refine x_iload_n ok 1 dX4_keep_29 rfl rfl ?_
  refine x_ishl ok (nI 1) dX4_keep_30 (by decide) ?_
  refine x_ior ok (nI (sk ||| 1)) dX4_keep_31 (fa_or _ _) ?_
  refine pX4_75 ok dX4_keep_32 0 rfl rfl rfl (Nat.le_of_ble_eq_true rfl) (ws' := [(x, .inr (4, [.ref ax, .ref aw, .ref an, .ref aa, .ref a0, .ref a1, .int (nI (sk ||| 1)), .int (nI ll), .long sd, .ref ar, .ref aq, .ref al, .ref am])), (an, .inr (1, [.ref nc, .int (nI L.length), .int (nI li), .int ye, .int br])), (nc, .inl (cI, 48, .inl f)), (a0, .inr (1, [.ref sc, .int (nI L.length), .int (nI li), .int ye, .int br])), (sc, .inl (cI, 48, .inl g20))]) rfl ?_
  refine x_aload_n ok 0 dX4_keep_35 rfl rfl ?_
  refine gX4_26 ok dX4_keep_36 0 rfl rfl ?_
  refine gX4_88 ok dX4_keep_39 1 rfl rfl ?_
  exact ret g20 _ _ _ (nI L.length) dX4_keep_42 (rfl) (rfl) (by first | assumption | omega)

set_option maxHeartbeats 4000000 in
set_option maxRecDepth 100000 in
theorem p_keepB (l : Launch) (D : va_G) (cI cZ cS : ClassId) (x : Nat) (ax : Nat) (aw : Nat) (an : Nat) (aa : Nat) (a0 : Nat) (a1 : Nat) (sk : Nat) (ll : Nat) (ar : Nat) (aq : Nat) (al : Nat) (am : Nat) (sd : Int64) (nc : Nat) (L : List Sg) (li : Nat) (ye : Int32) (br : Int32) (f : Nat → Int32) (sc : Nat) (sn : Nat) (sl : Nat) (sy : Int32) (sb : Int32) (sf : Nat → Int32) (hf : hs f L) (h8 : L.length ≤ 8) : CO l D (TY cI cZ cS) yX4_keep cX4_keep 2 (some .int) 2 37 0 0 [.ref x, .int (nI 1)] [(x, .inr (4, [.ref ax, .ref aw, .ref an, .ref aa, .ref a0, .ref a1, .int (nI sk), .int (nI ll), .long sd, .ref ar, .ref aq, .ref al, .ref am])), (an, .inr (1, [.ref nc, .int (nI L.length), .int (nI li), .int ye, .int br])), (nc, .inl (cI, 48, .inl f)), (a1, .inr (1, [.ref sc, .int (nI sn), .int (nI sl), .int sy, .int sb])), (sc, .inl (cI, 48, .inl sf))] (σ := (Nat → Int32)) (fun u => some (.int (nI L.length))) (fun u => [(x, .inr (4, [.ref ax, .ref aw, .ref an, .ref aa, .ref a0, .ref a1, .int (nI (sk ||| 2)), .int (nI ll), .long sd, .ref ar, .ref aq, .ref al, .ref am])), (an, .inr (1, [.ref nc, .int (nI L.length), .int (nI li), .int ye, .int br])), (nc, .inl (cI, 48, .inl f)), (a1, .inr (1, [.ref sc, .int (nI L.length), .int (nI li), .int ye, .int br])), (sc, .inl (cI, 48, .inl u))]) (fun u => (hs u L)) := by
  refine CO_mki (by decide +kernel) (Nat.le_of_ble_eq_true rfl) (fun K ok ret => ?_)
  show XX K [(x, .inr (4, [.ref ax, .ref aw, .ref an, .ref aa, .ref a0, .ref a1, .int (nI sk), .int (nI ll), .long sd, .ref ar, .ref aq, .ref al, .ref am])), (an, .inr (1, [.ref nc, .int (nI L.length), .int (nI li), .int ye, .int br])), (nc, .inl (cI, 48, .inl f)), (a1, .inr (1, [.ref sc, .int (nI sn), .int (nI sl), .int sy, .int sb])), (sc, .inl (cI, 48, .inl sf))] [(0, .ref x), (1, .int (nI 1))] 0 []
  refine x_iload_n ok 1 dX4_keep_0 rfl rfl ?_
  refine x_iconst ok (nI 0) dX4_keep_1 (by decide) ?_
  refine x_iconst ok (nI 1) dX4_keep_2 (by decide) ?_
  refine qX4_128 ok (As := [.int (nI 1), .int (nI 0), .int (nI 1)]) (st := []) (c4_isWithin l D cI cZ cS (nI 1) (nI 0) (nI 1) ) rfl (Nat.le_of_ble_eq_true rfl) (Nat.le_of_ble_eq_true rfl) (Nat.le_of_ble_eq_true rfl) dX4_keep_3 [] (by decide) rfl (ws' := fun u => [(x, .inr (4, [.ref ax, .ref aw, .ref an, .ref aa, .ref a0, .ref a1, .int (nI sk), .int (nI ll), .long sd, .ref ar, .ref aq, .ref al, .ref am])), (an, .inr (1, [.ref nc, .int (nI L.length), .int (nI li), .int ye, .int br])), (nc, .inl (cI, 48, .inl f)), (a1, .inr (1, [.ref sc, .int (nI sn), .int (nI sl), .int sy, .int sb])), (sc, .inl (cI, 48, .inl sf))]) (st' := fun u => [.int (bz (inB (nI 1) (nI 0) (nI 1)))]) (fun _ => rfl) (fun _ => rfl) (fun _ => rfl) (fun _ _ => ?_)
  refine x_if_neB ok 11 dX4_keep_6 (by decide) (fun c_6 => ?_) (fun c_6 => absurd c_6 (fun z => z (by decide)))
  refine x_aload_n ok 0 dX4_keep_11 rfl rfl ?_
  refine x_iload_n ok 1 dX4_keep_12 rfl rfl ?_
  refine qX4_280 ok (As := [.int (nI 1)]) (st := []) 0 rfl (c4_slotOf1 l D cI cZ cS x ax aw an aa a0 a1 sk ll ar aq al am sd ) rfl (Nat.le_of_ble_eq_true rfl) (Nat.le_of_ble_eq_true rfl) (Nat.le_of_ble_eq_true rfl) dX4_keep_13 [0] (by decide) rfl (ws' := fun u => [(x, .inr (4, [.ref ax, .ref aw, .ref an, .ref aa, .ref a0, .ref a1, .int (nI sk), .int (nI ll), .long sd, .ref ar, .ref aq, .ref al, .ref am])), (an, .inr (1, [.ref nc, .int (nI L.length), .int (nI li), .int ye, .int br])), (nc, .inl (cI, 48, .inl f)), (a1, .inr (1, [.ref sc, .int (nI sn), .int (nI sl), .int sy, .int sb])), (sc, .inl (cI, 48, .inl sf))]) (st' := fun u => [.ref a1]) (fun _ => rfl) (fun _ => rfl) (fun _ => rfl) (fun _ _ => ?_)
  refine x_aload_n ok 0 dX4_keep_16 rfl rfl ?_
  refine gX4_26 ok dX4_keep_17 0 rfl rfl ?_
  refine qX4_168 ok (As := [.ref an]) (st := []) 3 rfl (c1_take l D cI cZ cS a1 sc sn sl sy sb sf an nc L li ye br f (by first | assumption | omega) (by first | assumption | omega)) rfl (Nat.le_of_ble_eq_true rfl) (Nat.le_of_ble_eq_true rfl) (Nat.le_of_ble_eq_true rfl) dX4_keep_20 [3, 4, 1, 2] (by decide) rfl (ws' := fun u => [(x, .inr (4, [.ref ax, .ref aw, .ref an, .ref aa, .ref a0, .ref a1, .int (nI sk), .int (nI ll), .long sd, .ref ar, .ref aq, .ref al, .ref am])), (an, .inr (1, [.ref nc, .int (nI L.length), .int (nI li), .int ye, .int br])), (nc, .inl (cI, 48, .inl f)), (a1, .inr (1, [.ref sc, .int (nI L.length), .int (nI li), .int ye, .int br])), (sc, .inl (cI, 48, .inl u))]) (st' := fun u => []) (fun _ => rfl) (fun _ => rfl) (fun _ => rfl) (fun u20 hu20 => ?_)
  obtain ⟨g20, rfl⟩ : ∃ z, z = u20 := ⟨_, rfl⟩
  have hg20 := hu20
  have hg20 : hs g20 L := hg20
  show XX K [(x, .inr (4, [.ref ax, .ref aw, .ref an, .ref aa, .ref a0, .ref a1, .int (nI sk), .int (nI ll), .long sd, .ref ar, .ref aq, .ref al, .ref am])), (an, .inr (1, [.ref nc, .int (nI L.length), .int (nI li), .int ye, .int br])), (nc, .inl (cI, 48, .inl f)), (a1, .inr (1, [.ref sc, .int (nI L.length), .int (nI li), .int ye, .int br])), (sc, .inl (cI, 48, .inl g20))] [(0, .ref x), (1, .int (nI 1))] 23 []
  refine x_aload_n ok 0 dX4_keep_23 rfl rfl ?_
  refine x_dup ok dX4_keep_24 rfl ?_
  refine gX4_75 ok dX4_keep_25 0 rfl rfl ?_
  refine x_iconst ok (nI 1) dX4_keep_28 (by decide) ?_
  refine x_iload_n ok 1 dX4_keep_29 rfl rfl ?_
  refine x_ishl ok (nI 2) dX4_keep_30 (by decide) ?_
  refine x_ior ok (nI (sk ||| 2)) dX4_keep_31 (fa_or _ _) ?_
  refine pX4_75 ok dX4_keep_32 0 rfl rfl rfl (Nat.le_of_ble_eq_true rfl) (ws' := [(x, .inr (4, [.ref ax, .ref aw, .ref an, .ref aa, .ref a0, .ref a1, .int (nI (sk ||| 2)), .int (nI ll), .long sd, .ref ar, .ref aq, .ref al, .ref am])), (an, .inr (1, [.ref nc, .int (nI L.length), .int (nI li), .int ye, .int br])), (nc, .inl (cI, 48, .inl f)), (a1, .inr (1, [.ref sc, .int (nI L.length), .int (nI li), .int ye, .int br])), (sc, .inl (cI, 48, .inl g20))]) rfl ?_
  refine x_aload_n ok 0 dX4_keep_35 rfl rfl ?_
  refine gX4_26 ok dX4_keep_36 0 rfl rfl ?_
  refine gX4_88 ok dX4_keep_39 1 rfl rfl ?_
  exact ret g20 _ _ _ (nI L.length) dX4_keep_42 (rfl) (rfl) (by first | assumption | omega)

set_option maxHeartbeats 4000000 in
set_option maxRecDepth 100000 in
theorem p_again0 (l : Launch) (D : va_G) (cI cZ cS : ClassId) (x : Nat) (ax : Nat) (aw : Nat) (an : Nat) (aa : Nat) (a0 : Nat) (a1 : Nat) (sk : Nat) (ll : Nat) (ar : Nat) (aq : Nat) (al : Nat) (am : Nat) (sd : Int64) (z : Int32) (hz : ¬ inB z (nI 0) (nI 1) = true) : CO l D (TY cI cZ cS) yX4_again cX4_again 2 (some .int) 1 22 0 0 [.ref x, .int z] [(x, .inr (4, [.ref ax, .ref aw, .ref an, .ref aa, .ref a0, .ref a1, .int (nI sk), .int (nI ll), .long sd, .ref ar, .ref aq, .ref al, .ref am]))] (σ := Unit) (fun u => some (.int ((-1)))) (fun u => [(x, .inr (4, [.ref ax, .ref aw, .ref an, .ref aa, .ref a0, .ref a1, .int (nI sk), .int (nI ll), .long sd, .ref ar, .ref aq, .ref al, .ref am]))]) (fun u => True) := by
  refine CO_mki (by decide +kernel) (Nat.le_of_ble_eq_true rfl) (fun K ok ret => ?_)
  show XX K [(x, .inr (4, [.ref ax, .ref aw, .ref an, .ref aa, .ref a0, .ref a1, .int (nI sk), .int (nI ll), .long sd, .ref ar, .ref aq, .ref al, .ref am]))] [(0, .ref x), (1, .int z)] 0 []
  refine x_iload_n ok 1 dX4_again_0 rfl rfl ?_
  refine x_iconst ok (nI 0) dX4_again_1 (by decide) ?_
  refine x_iconst ok (nI 1) dX4_again_2 (by decide) ?_
  refine qX4_128 ok (As := [.int z, .int (nI 0), .int (nI 1)]) (st := []) (c4_isWithin l D cI cZ cS z (nI 0) (nI 1) ) rfl (Nat.le_of_ble_eq_true rfl) (Nat.le_of_ble_eq_true rfl) (Nat.le_of_ble_eq_true rfl) dX4_again_3 [] (by decide) rfl (ws' := fun u => [(x, .inr (4, [.ref ax, .ref aw, .ref an, .ref aa, .ref a0, .ref a1, .int (nI sk), .int (nI ll), .long sd, .ref ar, .ref aq, .ref al, .ref am]))]) (st' := fun u => [.int (bz (inB z (nI 0) (nI 1)))]) (fun _ => rfl) (fun _ => rfl) (fun _ => rfl) (fun _ _ => ?_)
  refine x_if_neB ok 11 dX4_again_6 (by decide) (fun c_6 => ?_) (fun c_6 => ?_)
  · skip
    exact (hz c_6 : False).elim
  · skip
    refine x_iconst ok ((-1)) dX4_again_9 (by decide) ?_
    exact ret () _ _ _ ((-1)) dX4_again_10 (rfl) (by first | rfl | (simp [c_6]; done)) (trivial)

set_option maxHeartbeats 4000000 in
set_option maxRecDepth 100000 in
theorem p_againNA (l : Launch) (D : va_G) (cI cZ cS : ClassId) (x : Nat) (ax : Nat) (aw : Nat) (an : Nat) (aa : Nat) (a0 : Nat) (a1 : Nat) (sk : Nat) (ll : Nat) (ar : Nat) (aq : Nat) (al : Nat) (am : Nat) (sd : Int64) (hsk : sk < 256) (hb : sk.testBit 0 = false) : CO l D (TY cI cZ cS) yX4_again cX4_again 2 (some .int) 1 22 0 0 [.ref x, .int (nI 0)] [(x, .inr (4, [.ref ax, .ref aw, .ref an, .ref aa, .ref a0, .ref a1, .int (nI sk), .int (nI ll), .long sd, .ref ar, .ref aq, .ref al, .ref am]))] (σ := Unit) (fun u => some (.int ((-3)))) (fun u => [(x, .inr (4, [.ref ax, .ref aw, .ref an, .ref aa, .ref a0, .ref a1, .int (nI sk), .int (nI ll), .long sd, .ref ar, .ref aq, .ref al, .ref am]))]) (fun u => True) := by
  refine CO_mki (by decide +kernel) (Nat.le_of_ble_eq_true rfl) (fun K ok ret => ?_)
  show XX K [(x, .inr (4, [.ref ax, .ref aw, .ref an, .ref aa, .ref a0, .ref a1, .int (nI sk), .int (nI ll), .long sd, .ref ar, .ref aq, .ref al, .ref am]))] [(0, .ref x), (1, .int (nI 0))] 0 []
  refine x_iload_n ok 1 dX4_again_0 rfl rfl ?_
  refine x_iconst ok (nI 0) dX4_again_1 (by decide) ?_
  refine x_iconst ok (nI 1) dX4_again_2 (by decide) ?_
  refine qX4_128 ok (As := [.int (nI 0), .int (nI 0), .int (nI 1)]) (st := []) (c4_isWithin l D cI cZ cS (nI 0) (nI 0) (nI 1) ) rfl (Nat.le_of_ble_eq_true rfl) (Nat.le_of_ble_eq_true rfl) (Nat.le_of_ble_eq_true rfl) dX4_again_3 [] (by decide) rfl (ws' := fun u => [(x, .inr (4, [.ref ax, .ref aw, .ref an, .ref aa, .ref a0, .ref a1, .int (nI sk), .int (nI ll), .long sd, .ref ar, .ref aq, .ref al, .ref am]))]) (st' := fun u => [.int (bz (inB (nI 0) (nI 0) (nI 1)))]) (fun _ => rfl) (fun _ => rfl) (fun _ => rfl) (fun _ _ => ?_)
  refine x_if_neB ok 11 dX4_again_6 (by decide) (fun c_6 => ?_) (fun c_6 => absurd c_6 (fun z => z (by decide)))
  refine x_aload_n ok 0 dX4_again_11 rfl rfl ?_
  refine gX4_75 ok dX4_again_12 0 rfl rfl ?_
  refine x_iload_n ok 1 dX4_again_15 rfl rfl ?_
  refine x_ishr ok (((nI sk) >>> ((nI 0) &&& 31))) dX4_again_16 (rfl) ?_
  refine x_iconst ok (nI 1) dX4_again_17 (by decide) ?_
  refine x_iand ok (nI ((sk.testBit 0).toNat)) dX4_again_18 (tb0 sk hsk 0 (by decide)) ?_
  refine x_if_neN ok 25 dX4_again_19 (by decide) (by have := (sk.testBit 0).toNat_le; omega) (fun c_19 => absurd c_19 (by rw [hb]; decide)) (fun c_19 => ?_)
  refine x_bipush ok ((-3)) dX4_again_22 (by decide) ?_
  exact ret () _ _ _ ((-3)) dX4_again_24 (rfl) (rfl) (trivial)

set_option maxHeartbeats 4000000 in
set_option maxRecDepth 100000 in
theorem p_againA (l : Launch) (D : va_G) (cI cZ cS : ClassId) (x : Nat) (ax : Nat) (aw : Nat) (an : Nat) (aa : Nat) (a0 : Nat) (a1 : Nat) (sk : Nat) (ll : Nat) (ar : Nat) (aq : Nat) (al : Nat) (am : Nat) (sd : Int64) (nc : Nat) (n0 : Nat) (li0 : Nat) (ye0 : Int32) (br0 : Int32) (f0 : Nat → Int32) (sc : Nat) (L : List Sg) (li : Nat) (ye : Int32) (br : Int32) (f : Nat → Int32) (rw : Nat) (na : Nat) (hf : hs f L) (h8 : L.length ≤ 8) (hsk : sk < 256) (hb : sk.testBit 0 = true) : CO l D (TY cI cZ cS) yX4_again cX4_again 2 (some .int) 2 37 0 0 [.ref x, .int (nI 0)] [(x, .inr (4, [.ref ax, .ref aw, .ref an, .ref aa, .ref a0, .ref a1, .int (nI sk), .int (nI ll), .long sd, .ref ar, .ref aq, .ref al, .ref am])), (an, .inr (1, [.ref nc, .int (nI n0), .int (nI li0), .int ye0, .int br0])), (nc, .inl (cI, 48, .inl f0)), (a0, .inr (1, [.ref sc, .int (nI L.length), .int (nI li), .int ye, .int br])), (sc, .inl (cI, 48, .inl f)), (aa, .inr (0, [.ref rw, .int (nI na)]))] (σ := (Nat → Int32)) (fun u => some (.int (nI L.length))) (fun u => [(x, .inr (4, [.ref ax, .ref aw, .ref an, .ref aa, .ref a0, .ref a1, .int (nI sk), .int (nI ll), .long sd, .ref ar, .ref aq, .ref al, .ref am])), (an, .inr (1, [.ref nc, .int (nI L.length), .int (nI li), .int ye, .int br])), (nc, .inl (cI, 48, .inl u)), (a0, .inr (1, [.ref sc, .int (nI L.length), .int (nI li), .int ye, .int br])), (sc, .inl (cI, 48, .inl f)), (aa, .inr (0, [.ref rw, .int (nI 0)]))]) (fun u => (hs u L)) := by
  refine CO_mki (by decide +kernel) (Nat.le_of_ble_eq_true rfl) (fun K ok ret => ?_)
  show XX K [(x, .inr (4, [.ref ax, .ref aw, .ref an, .ref aa, .ref a0, .ref a1, .int (nI sk), .int (nI ll), .long sd, .ref ar, .ref aq, .ref al, .ref am])), (an, .inr (1, [.ref nc, .int (nI n0), .int (nI li0), .int ye0, .int br0])), (nc, .inl (cI, 48, .inl f0)), (a0, .inr (1, [.ref sc, .int (nI L.length), .int (nI li), .int ye, .int br])), (sc, .inl (cI, 48, .inl f)), (aa, .inr (0, [.ref rw, .int (nI na)]))] [(0, .ref x), (1, .int (nI 0))] 0 []
  refine x_iload_n ok 1 dX4_again_0 rfl rfl ?_
  refine x_iconst ok (nI 0) dX4_again_1 (by decide) ?_
  refine x_iconst ok (nI 1) dX4_again_2 (by decide) ?_
  refine qX4_128 ok (As := [.int (nI 0), .int (nI 0), .int (nI 1)]) (st := []) (c4_isWithin l D cI cZ cS (nI 0) (nI 0) (nI 1) ) rfl (Nat.le_of_ble_eq_true rfl) (Nat.le_of_ble_eq_true rfl) (Nat.le_of_ble_eq_true rfl) dX4_again_3 [] (by decide) rfl (ws' := fun u => [(x, .inr (4, [.ref ax, .ref aw, .ref an, .ref aa, .ref a0, .ref a1, .int (nI sk), .int (nI ll), .long sd, .ref ar, .ref aq, .ref al, .ref am])), (an, .inr (1, [.ref nc, .int (nI n0), .int (nI li0), .int ye0, .int br0])), (nc, .inl (cI, 48, .inl f0)), (a0, .inr (1, [.ref sc, .int (nI L.length), .int (nI li), .int ye, .int br])), (sc, .inl (cI, 48, .inl f)), (aa, .inr (0, [.ref rw, .int (nI na)]))]) (st' := fun u => [.int (bz (inB (nI 0) (nI 0) (nI 1)))]) (fun _ => rfl) (fun _ => rfl) (fun _ => rfl) (fun _ _ => ?_)
  refine x_if_neB ok 11 dX4_again_6 (by decide) (fun c_6 => ?_) (fun c_6 => absurd c_6 (fun z => z (by decide)))
  refine x_aload_n ok 0 dX4_again_11 rfl rfl ?_
  refine gX4_75 ok dX4_again_12 0 rfl rfl ?_
  refine x_iload_n ok 1 dX4_again_15 rfl rfl ?_
  refine x_ishr ok (((nI sk) >>> ((nI 0) &&& 31))) dX4_again_16 (rfl) ?_
  refine x_iconst ok (nI 1) dX4_again_17 (by decide) ?_
  refine x_iand ok (nI ((sk.testBit 0).toNat)) dX4_again_18 (tb0 sk hsk 0 (by decide)) ?_
  refine x_if_neN ok 25 dX4_again_19 (by decide) (by have := (sk.testBit 0).toNat_le; omega) (fun c_19 => ?_) (fun c_19 => absurd c_19 (by rw [hb]; decide))
  refine x_aload_n ok 0 dX4_again_25 rfl rfl ?_
  refine gX4_26 ok dX4_again_26 0 rfl rfl ?_
  refine x_aload_n ok 0 dX4_again_29 rfl rfl ?_
  refine x_iload_n ok 1 dX4_again_30 rfl rfl ?_
  refine qX4_280 ok (As := [.int (nI 0)]) (st := [.ref an]) 0 rfl (c4_slotOf0 l D cI cZ cS x ax aw an aa a0 a1 sk ll ar aq al am sd ) rfl (Nat.le_of_ble_eq_true rfl) (Nat.le_of_ble_eq_true rfl) (Nat.le_of_ble_eq_true rfl) dX4_again_31 [0] (by decide) rfl (ws' := fun u => [(x, .inr (4, [.ref ax, .ref aw, .ref an, .ref aa, .ref a0, .ref a1, .int (nI sk), .int (nI ll), .long sd, .ref ar, .ref aq, .ref al, .ref am])), (an, .inr (1, [.ref nc, .int (nI n0), .int (nI li0), .int ye0, .int br0])), (nc, .inl (cI, 48, .inl f0)), (a0, .inr (1, [.ref sc, .int (nI L.length), .int (nI li), .int ye, .int br])), (sc, .inl (cI, 48, .inl f)), (aa, .inr (0, [.ref rw, .int (nI na)]))]) (st' := fun u => [.ref a0, .ref an]) (fun _ => rfl) (fun _ => rfl) (fun _ => rfl) (fun _ _ => ?_)
  refine qX4_168 ok (As := [.ref a0]) (st := []) 1 rfl (c1_take l D cI cZ cS an nc n0 li0 ye0 br0 f0 a0 sc L li ye br f (by first | assumption | omega) (by first | assumption | omega)) rfl (Nat.le_of_ble_eq_true rfl) (Nat.le_of_ble_eq_true rfl) (Nat.le_of_ble_eq_true rfl) dX4_again_34 [1, 2, 3, 4] (by decide) rfl (ws' := fun u => [(x, .inr (4, [.ref ax, .ref aw, .ref an, .ref aa, .ref a0, .ref a1, .int (nI sk), .int (nI ll), .long sd, .ref ar, .ref aq, .ref al, .ref am])), (an, .inr (1, [.ref nc, .int (nI L.length), .int (nI li), .int ye, .int br])), (nc, .inl (cI, 48, .inl u)), (a0, .inr (1, [.ref sc, .int (nI L.length), .int (nI li), .int ye, .int br])), (sc, .inl (cI, 48, .inl f)), (aa, .inr (0, [.ref rw, .int (nI na)]))]) (st' := fun u => []) (fun _ => rfl) (fun _ => rfl) (fun _ => rfl) (fun u34 hu34 => ?_)
  obtain ⟨g34, rfl⟩ : ∃ z, z = u34 := ⟨_, rfl⟩
  have hg34 := hu34
  have hg34 : hs g34 L := hg34
  show XX K [(x, .inr (4, [.ref ax, .ref aw, .ref an, .ref aa, .ref a0, .ref a1, .int (nI sk), .int (nI ll), .long sd, .ref ar, .ref aq, .ref al, .ref am])), (an, .inr (1, [.ref nc, .int (nI L.length), .int (nI li), .int ye, .int br])), (nc, .inl (cI, 48, .inl g34)), (a0, .inr (1, [.ref sc, .int (nI L.length), .int (nI li), .int ye, .int br])), (sc, .inl (cI, 48, .inl f)), (aa, .inr (0, [.ref rw, .int (nI na)]))] [(0, .ref x), (1, .int (nI 0))] 37 []
  refine x_aload_n ok 0 dX4_again_37 rfl rfl ?_
  refine gX4_33 ok dX4_again_38 0 rfl rfl ?_
  refine x_iconst ok (nI 0) dX4_again_41 (by decide) ?_
  refine pX4_74 ok dX4_again_42 5 rfl rfl rfl (Nat.le_of_ble_eq_true rfl) (ws' := [(x, .inr (4, [.ref ax, .ref aw, .ref an, .ref aa, .ref a0, .ref a1, .int (nI sk), .int (nI ll), .long sd, .ref ar, .ref aq, .ref al, .ref am])), (an, .inr (1, [.ref nc, .int (nI L.length), .int (nI li), .int ye, .int br])), (nc, .inl (cI, 48, .inl g34)), (a0, .inr (1, [.ref sc, .int (nI L.length), .int (nI li), .int ye, .int br])), (sc, .inl (cI, 48, .inl f)), (aa, .inr (0, [.ref rw, .int (nI 0)]))]) rfl ?_
  refine x_aload_n ok 0 dX4_again_45 rfl rfl ?_
  refine gX4_26 ok dX4_again_46 0 rfl rfl ?_
  refine gX4_88 ok dX4_again_49 1 rfl rfl ?_
  exact ret g34 _ _ _ (nI L.length) dX4_again_52 (rfl) (rfl) (by first | assumption | omega)

set_option maxHeartbeats 4000000 in
set_option maxRecDepth 100000 in
theorem p_againNB (l : Launch) (D : va_G) (cI cZ cS : ClassId) (x : Nat) (ax : Nat) (aw : Nat) (an : Nat) (aa : Nat) (a0 : Nat) (a1 : Nat) (sk : Nat) (ll : Nat) (ar : Nat) (aq : Nat) (al : Nat) (am : Nat) (sd : Int64) (hsk : sk < 256) (hb : sk.testBit 1 = false) : CO l D (TY cI cZ cS) yX4_again cX4_again 2 (some .int) 1 22 0 0 [.ref x, .int (nI 1)] [(x, .inr (4, [.ref ax, .ref aw, .ref an, .ref aa, .ref a0, .ref a1, .int (nI sk), .int (nI ll), .long sd, .ref ar, .ref aq, .ref al, .ref am]))] (σ := Unit) (fun u => some (.int ((-3)))) (fun u => [(x, .inr (4, [.ref ax, .ref aw, .ref an, .ref aa, .ref a0, .ref a1, .int (nI sk), .int (nI ll), .long sd, .ref ar, .ref aq, .ref al, .ref am]))]) (fun u => True) := by
  refine CO_mki (by decide +kernel) (Nat.le_of_ble_eq_true rfl) (fun K ok ret => ?_)
  show XX K [(x, .inr (4, [.ref ax, .ref aw, .ref an, .ref aa, .ref a0, .ref a1, .int (nI sk), .int (nI ll), .long sd, .ref ar, .ref aq, .ref al, .ref am]))] [(0, .ref x), (1, .int (nI 1))] 0 []
  refine x_iload_n ok 1 dX4_again_0 rfl rfl ?_
  refine x_iconst ok (nI 0) dX4_again_1 (by decide) ?_
  refine x_iconst ok (nI 1) dX4_again_2 (by decide) ?_
  refine qX4_128 ok (As := [.int (nI 1), .int (nI 0), .int (nI 1)]) (st := []) (c4_isWithin l D cI cZ cS (nI 1) (nI 0) (nI 1) ) rfl (Nat.le_of_ble_eq_true rfl) (Nat.le_of_ble_eq_true rfl) (Nat.le_of_ble_eq_true rfl) dX4_again_3 [] (by decide) rfl (ws' := fun u => [(x, .inr (4, [.ref ax, .ref aw, .ref an, .ref aa, .ref a0, .ref a1, .int (nI sk), .int (nI ll), .long sd, .ref ar, .ref aq, .ref al, .ref am]))]) (st' := fun u => [.int (bz (inB (nI 1) (nI 0) (nI 1)))]) (fun _ => rfl) (fun _ => rfl) (fun _ => rfl) (fun _ _ => ?_)
  refine x_if_neB ok 11 dX4_again_6 (by decide) (fun c_6 => ?_) (fun c_6 => absurd c_6 (fun z => z (by decide)))
  refine x_aload_n ok 0 dX4_again_11 rfl rfl ?_
  refine gX4_75 ok dX4_again_12 0 rfl rfl ?_
  refine x_iload_n ok 1 dX4_again_15 rfl rfl ?_
  refine x_ishr ok (((nI sk) >>> ((nI 1) &&& 31))) dX4_again_16 (rfl) ?_
  refine x_iconst ok (nI 1) dX4_again_17 (by decide) ?_
  refine x_iand ok (nI ((sk.testBit 1).toNat)) dX4_again_18 (tb0 sk hsk 1 (by decide)) ?_
  refine x_if_neN ok 25 dX4_again_19 (by decide) (by have := (sk.testBit 1).toNat_le; omega) (fun c_19 => absurd c_19 (by rw [hb]; decide)) (fun c_19 => ?_)
  refine x_bipush ok ((-3)) dX4_again_22 (by decide) ?_
  exact ret () _ _ _ ((-3)) dX4_again_24 (rfl) (rfl) (trivial)

set_option maxHeartbeats 4000000 in
set_option maxRecDepth 100000 in
theorem p_againB (l : Launch) (D : va_G) (cI cZ cS : ClassId) (x : Nat) (ax : Nat) (aw : Nat) (an : Nat) (aa : Nat) (a0 : Nat) (a1 : Nat) (sk : Nat) (ll : Nat) (ar : Nat) (aq : Nat) (al : Nat) (am : Nat) (sd : Int64) (nc : Nat) (n0 : Nat) (li0 : Nat) (ye0 : Int32) (br0 : Int32) (f0 : Nat → Int32) (sc : Nat) (L : List Sg) (li : Nat) (ye : Int32) (br : Int32) (f : Nat → Int32) (rw : Nat) (na : Nat) (hf : hs f L) (h8 : L.length ≤ 8) (hsk : sk < 256) (hb : sk.testBit 1 = true) : CO l D (TY cI cZ cS) yX4_again cX4_again 2 (some .int) 2 37 0 0 [.ref x, .int (nI 1)] [(x, .inr (4, [.ref ax, .ref aw, .ref an, .ref aa, .ref a0, .ref a1, .int (nI sk), .int (nI ll), .long sd, .ref ar, .ref aq, .ref al, .ref am])), (an, .inr (1, [.ref nc, .int (nI n0), .int (nI li0), .int ye0, .int br0])), (nc, .inl (cI, 48, .inl f0)), (a1, .inr (1, [.ref sc, .int (nI L.length), .int (nI li), .int ye, .int br])), (sc, .inl (cI, 48, .inl f)), (aa, .inr (0, [.ref rw, .int (nI na)]))] (σ := (Nat → Int32)) (fun u => some (.int (nI L.length))) (fun u => [(x, .inr (4, [.ref ax, .ref aw, .ref an, .ref aa, .ref a0, .ref a1, .int (nI sk), .int (nI ll), .long sd, .ref ar, .ref aq, .ref al, .ref am])), (an, .inr (1, [.ref nc, .int (nI L.length), .int (nI li), .int ye, .int br])), (nc, .inl (cI, 48, .inl u)), (a1, .inr (1, [.ref sc, .int (nI L.length), .int (nI li), .int ye, .int br])), (sc, .inl (cI, 48, .inl f)), (aa, .inr (0, [.ref rw, .int (nI 0)]))]) (fun u => (hs u L)) := by
  refine CO_mki (by decide +kernel) (Nat.le_of_ble_eq_true rfl) (fun K ok ret => ?_)
  show XX K [(x, .inr (4, [.ref ax, .ref aw, .ref an, .ref aa, .ref a0, .ref a1, .int (nI sk), .int (nI ll), .long sd, .ref ar, .ref aq, .ref al, .ref am])), (an, .inr (1, [.ref nc, .int (nI n0), .int (nI li0), .int ye0, .int br0])), (nc, .inl (cI, 48, .inl f0)), (a1, .inr (1, [.ref sc, .int (nI L.length), .int (nI li), .int ye, .int br])), (sc, .inl (cI, 48, .inl f)), (aa, .inr (0, [.ref rw, .int (nI na)]))] [(0, .ref x), (1, .int (nI 1))] 0 []
  refine x_iload_n ok 1 dX4_again_0 rfl rfl ?_
  refine x_iconst ok (nI 0) dX4_again_1 (by decide) ?_
  refine x_iconst ok (nI 1) dX4_again_2 (by decide) ?_
  refine qX4_128 ok (As := [.int (nI 1), .int (nI 0), .int (nI 1)]) (st := []) (c4_isWithin l D cI cZ cS (nI 1) (nI 0) (nI 1) ) rfl (Nat.le_of_ble_eq_true rfl) (Nat.le_of_ble_eq_true rfl) (Nat.le_of_ble_eq_true rfl) dX4_again_3 [] (by decide) rfl (ws' := fun u => [(x, .inr (4, [.ref ax, .ref aw, .ref an, .ref aa, .ref a0, .ref a1, .int (nI sk), .int (nI ll), .long sd, .ref ar, .ref aq, .ref al, .ref am])), (an, .inr (1, [.ref nc, .int (nI n0), .int (nI li0), .int ye0, .int br0])), (nc, .inl (cI, 48, .inl f0)), (a1, .inr (1, [.ref sc, .int (nI L.length), .int (nI li), .int ye, .int br])), (sc, .inl (cI, 48, .inl f)), (aa, .inr (0, [.ref rw, .int (nI na)]))]) (st' := fun u => [.int (bz (inB (nI 1) (nI 0) (nI 1)))]) (fun _ => rfl) (fun _ => rfl) (fun _ => rfl) (fun _ _ => ?_)
  refine x_if_neB ok 11 dX4_again_6 (by decide) (fun c_6 => ?_) (fun c_6 => absurd c_6 (fun z => z (by decide)))
  refine x_aload_n ok 0 dX4_again_11 rfl rfl ?_
  refine gX4_75 ok dX4_again_12 0 rfl rfl ?_
  refine x_iload_n ok 1 dX4_again_15 rfl rfl ?_
  refine x_ishr ok (((nI sk) >>> ((nI 1) &&& 31))) dX4_again_16 (rfl) ?_
  refine x_iconst ok (nI 1) dX4_again_17 (by decide) ?_
  refine x_iand ok (nI ((sk.testBit 1).toNat)) dX4_again_18 (tb0 sk hsk 1 (by decide)) ?_
  refine x_if_neN ok 25 dX4_again_19 (by decide) (by have := (sk.testBit 1).toNat_le; omega) (fun c_19 => ?_) (fun c_19 => absurd c_19 (by rw [hb]; decide))
  refine x_aload_n ok 0 dX4_again_25 rfl rfl ?_
  refine gX4_26 ok dX4_again_26 0 rfl rfl ?_
  refine x_aload_n ok 0 dX4_again_29 rfl rfl ?_
  refine x_iload_n ok 1 dX4_again_30 rfl rfl ?_
  refine qX4_280 ok (As := [.int (nI 1)]) (st := [.ref an]) 0 rfl (c4_slotOf1 l D cI cZ cS x ax aw an aa a0 a1 sk ll ar aq al am sd ) rfl (Nat.le_of_ble_eq_true rfl) (Nat.le_of_ble_eq_true rfl) (Nat.le_of_ble_eq_true rfl) dX4_again_31 [0] (by decide) rfl (ws' := fun u => [(x, .inr (4, [.ref ax, .ref aw, .ref an, .ref aa, .ref a0, .ref a1, .int (nI sk), .int (nI ll), .long sd, .ref ar, .ref aq, .ref al, .ref am])), (an, .inr (1, [.ref nc, .int (nI n0), .int (nI li0), .int ye0, .int br0])), (nc, .inl (cI, 48, .inl f0)), (a1, .inr (1, [.ref sc, .int (nI L.length), .int (nI li), .int ye, .int br])), (sc, .inl (cI, 48, .inl f)), (aa, .inr (0, [.ref rw, .int (nI na)]))]) (st' := fun u => [.ref a1, .ref an]) (fun _ => rfl) (fun _ => rfl) (fun _ => rfl) (fun _ _ => ?_)
  refine qX4_168 ok (As := [.ref a1]) (st := []) 1 rfl (c1_take l D cI cZ cS an nc n0 li0 ye0 br0 f0 a1 sc L li ye br f (by first | assumption | omega) (by first | assumption | omega)) rfl (Nat.le_of_ble_eq_true rfl) (Nat.le_of_ble_eq_true rfl) (Nat.le_of_ble_eq_true rfl) dX4_again_34 [1, 2, 3, 4] (by decide) rfl (ws' := fun u => [(x, .inr (4, [.ref ax, .ref aw, .ref an, .ref aa, .ref a0, .ref a1, .int (nI sk), .int (nI ll), .long sd, .ref ar, .ref aq, .ref al, .ref am])), (an, .inr (1, [.ref nc, .int (nI L.length), .int (nI li), .int ye, .int br])), (nc, .inl (cI, 48, .inl u)), (a1, .inr (1, [.ref sc, .int (nI L.length), .int (nI li), .int ye, .int br])), (sc, .inl (cI, 48, .inl f)), (aa, .inr (0, [.ref rw, .int (nI na)]))]) (st' := fun u => []) (fun _ => rfl) (fun _ => rfl) (fun _ => rfl) (fun u34 hu34 => ?_)
  obtain ⟨g34, rfl⟩ : ∃ z, z = u34 := ⟨_, rfl⟩
  have hg34 := hu34
  have hg34 : hs g34 L := hg34
  show XX K [(x, .inr (4, [.ref ax, .ref aw, .ref an, .ref aa, .ref a0, .ref a1, .int (nI sk), .int (nI ll), .long sd, .ref ar, .ref aq, .ref al, .ref am])), (an, .inr (1, [.ref nc, .int (nI L.length), .int (nI li), .int ye, .int br])), (nc, .inl (cI, 48, .inl g34)), (a1, .inr (1, [.ref sc, .int (nI L.length), .int (nI li), .int ye, .int br])), (sc, .inl (cI, 48, .inl f)), (aa, .inr (0, [.ref rw, .int (nI na)]))] [(0, .ref x), (1, .int (nI 1))] 37 []
  refine x_aload_n ok 0 dX4_again_37 rfl rfl ?_
  refine gX4_33 ok dX4_again_38 0 rfl rfl ?_
  refine x_iconst ok (nI 0) dX4_again_41 (by decide) ?_
  refine pX4_74 ok dX4_again_42 5 rfl rfl rfl (Nat.le_of_ble_eq_true rfl) (ws' := [(x, .inr (4, [.ref ax, .ref aw, .ref an, .ref aa, .ref a0, .ref a1, .int (nI sk), .int (nI ll), .long sd, .ref ar, .ref aq, .ref al, .ref am])), (an, .inr (1, [.ref nc, .int (nI L.length), .int (nI li), .int ye, .int br])), (nc, .inl (cI, 48, .inl g34)), (a1, .inr (1, [.ref sc, .int (nI L.length), .int (nI li), .int ye, .int br])), (sc, .inl (cI, 48, .inl f)), (aa, .inr (0, [.ref rw, .int (nI 0)]))]) rfl ?_
  refine x_aload_n ok 0 dX4_again_45 rfl rfl ?_
  refine gX4_26 ok dX4_again_46 0 rfl rfl ?_
  refine gX4_88 ok dX4_again_49 1 rfl rfl ?_
  exact ret g34 _ _ _ (nI L.length) dX4_again_52 (rfl) (rfl) (by first | assumption | omega)

set_option maxHeartbeats 4000000 in
set_option maxRecDepth 100000 in
theorem c4_tellPart (l : Launch) (D : va_G) (cI cZ cS : ClassId) (x : Nat) (ax : Nat) (aw : Nat) (an : Nat) (aa : Nat) (a0 : Nat) (a1 : Nat) (sk : Nat) (ll : Nat) (ar : Nat) (aq : Nat) (al : Nat) (am : Nat) (sd : Int64) (ta : Nat) (T : List Nat) (xf : Nat → Int32) (wd : Nat) (wt : Nat) (df : Nat → Int32) (tf : Nat → Int32) (nc : Nat) (li : Nat) (ye : Int32) (br : Int32) (f : Nat → Int32) (Wc : List (Nat × Nat)) (Lc : List Sg) (p : Nat) (hT : tx xf T) (hO : okT T) (hp : p < T.length) (hD : wD df Wc) (hTw : wT tf Wc) (hf : hs f Lc) (h87 : tg T p = 87 → Wc.length < 4 ∧ p + 2 < T.length ∧ 48 ≤ tg T (p + 1) ∧ 48 ≤ tg T (p + 2)) (h83 : tg T p = 83 → Lc.length < 6 ∧ p + 4 < T.length ∧ 48 ≤ tg T (p + 1) ∧ 48 ≤ tg T (p + 2) ∧ 48 ≤ tg T (p + 3) ∧ 48 ≤ tg T (p + 4)) : CO l D (TY cI cZ cS) yX4_tellPart cX4_tellPart 3 none 2 50 0 0 [.ref x, .int (nI p)] [(x, .inr (4, [.ref ax, .ref aw, .ref an, .ref aa, .ref a0, .ref a1, .int (nI sk), .int (nI ll), .long sd, .ref ar, .ref aq, .ref al, .ref am])), (ax, .inr (2, [.ref ta, .int (nI T.length)])), (ta, .inl (cI, 56, .inl xf)), (aw, .inr (3, [.ref wd, .ref wt, .int (nI Wc.length)])), (wd, .inl (cI, 4, .inl df)), (wt, .inl (cI, 4, .inl tf)), (an, .inr (1, [.ref nc, .int (nI Lc.length), .int (nI li), .int ye, .int br])), (nc, .inl (cI, 48, .inl f))] (σ := (Nat → Int32) × (Nat → Int32) × (Nat → Int32)) (fun u => none) (fun u => [(x, .inr (4, [.ref ax, .ref aw, .ref an, .ref aa, .ref a0, .ref a1, .int (nI sk), .int (nI ll), .long sd, .ref ar, .ref aq, .ref al, .ref am])), (ax, .inr (2, [.ref ta, .int (nI T.length)])), (ta, .inl (cI, 56, .inl xf)), (aw, .inr (3, [.ref wd, .ref wt, .int (nI ((tellW T p Wc).length))])), (wd, .inl (cI, 4, .inl u.1)), (wt, .inl (cI, 4, .inl u.2.1)), (an, .inr (1, [.ref nc, .int (nI ((tellL T p Lc).length)), .int (nI li), .int ye, .int br])), (nc, .inl (cI, 48, .inl u.2.2))]) (fun u => (wD u.1 (tellW T p Wc)) ∧ (wT u.2.1 (tellW T p Wc)) ∧ (hs u.2.2 (tellL T p Lc))) := by
  refine CO_mkv (by decide +kernel) (Nat.le_of_ble_eq_true rfl) (fun K ok ret => ?_)
  show XX K [(x, .inr (4, [.ref ax, .ref aw, .ref an, .ref aa, .ref a0, .ref a1, .int (nI sk), .int (nI ll), .long sd, .ref ar, .ref aq, .ref al, .ref am])), (ax, .inr (2, [.ref ta, .int (nI T.length)])), (ta, .inl (cI, 56, .inl xf)), (aw, .inr (3, [.ref wd, .ref wt, .int (nI Wc.length)])), (wd, .inl (cI, 4, .inl df)), (wt, .inl (cI, 4, .inl tf)), (an, .inr (1, [.ref nc, .int (nI Lc.length), .int (nI li), .int ye, .int br])), (nc, .inl (cI, 48, .inl f))] [(0, .ref x), (1, .int (nI p))] 0 []
  have htl := hO.1
  have h256 := hO.2 p hp
  refine x_aload_n ok 0 dX4_tellPart_0 rfl rfl ?_
  refine gX4_10 ok dX4_tellPart_1 0 rfl rfl ?_
  refine x_iload_n ok 1 dX4_tellPart_4 rfl rfl ?_
  refine qX4_89 ok (As := [.int (nI p)]) (st := []) 1 rfl (c2_letterAt l D cI cZ cS ax ta T xf p (by first | assumption | omega) (by first | assumption | omega) (by first | assumption | omega)) rfl (Nat.le_of_ble_eq_true rfl) (Nat.le_of_ble_eq_true rfl) (Nat.le_of_ble_eq_true rfl) dX4_tellPart_5 [1, 2] (by decide) rfl (ws' := fun u => [(x, .inr (4, [.ref ax, .ref aw, .ref an, .ref aa, .ref a0, .ref a1, .int (nI sk), .int (nI ll), .long sd, .ref ar, .ref aq, .ref al, .ref am])), (ax, .inr (2, [.ref ta, .int (nI T.length)])), (ta, .inl (cI, 56, .inl xf)), (aw, .inr (3, [.ref wd, .ref wt, .int (nI Wc.length)])), (wd, .inl (cI, 4, .inl df)), (wt, .inl (cI, 4, .inl tf)), (an, .inr (1, [.ref nc, .int (nI Lc.length), .int (nI li), .int ye, .int br])), (nc, .inl (cI, 48, .inl f))]) (st' := fun u => [.int (nI (tg T p))]) (fun _ => rfl) (fun _ => rfl) (fun _ => rfl) (fun _ _ => ?_)
  refine x_istore_n ok (lv' := [(2, .int (nI (tg T p))), (0, .ref x), (1, .int (nI p))]) dX4_tellPart_8 rfl (by decide) rfl ?_
  refine x_iload_n ok 0 dX4_tellPart_9 rfl rfl ?_
  refine x_bipush ok (nI 87) dX4_tellPart_10 (by decide) ?_
  refine x_icmp_neN ok 45 dX4_tellPart_12 (by decide) (by omega) (by omega) (fun c_12 => ?_) (fun c_12 => ?_)
  · skip
    refine x_iload_n ok 0 dX4_tellPart_45 rfl rfl ?_
    refine x_bipush ok (nI 83) dX4_tellPart_46 (by decide) ?_
    refine x_icmp_neN ok 100 dX4_tellPart_48 (by decide) (by omega) (by omega) (fun c_48 => ?_) (fun c_48 => ?_)
    · skip
      have eW : tellW T p Wc = Wc := by rw [tellW, if_neg c_12]
      have eL : tellL T p Lc = Lc := by rw [tellL, if_neg c_48]
      rw [show Wc.length = (tellW T p Wc).length from by rw [eW]]
      rw [show Lc.length = (tellL T p Lc).length from by rw [eL]]
      exact ret (df, tf, f) _ _ _ dX4_tellPart_100 (rfl) (⟨by rw [eW]; exact hD, by rw [eW]; exact hTw, by rw [eL]; exact hf⟩)
    · skip
      have a83 := h83 c_48
      have eW : tellW T p Wc = Wc := by rw [tellW, if_neg c_12]
      have eL : tellL T p Lc = Lc ++ [mkS (tg T (p + 1) - 48) (tg T (p + 2) - 48) (tg T (p + 3) - 48) (tg T (p + 4) - 48) 0] := by rw [tellL, if_pos c_48]
      rw [show Wc.length = (tellW T p Wc).length from by rw [eW]]
      refine x_aload_n ok 1 dX4_tellPart_51 rfl rfl ?_
      refine gX4_26 ok dX4_tellPart_52 0 rfl rfl ?_
      refine x_aload_n ok 1 dX4_tellPart_55 rfl rfl ?_
      refine gX4_10 ok dX4_tellPart_56 0 rfl rfl ?_
      refine x_iload_n ok 2 dX4_tellPart_59 rfl rfl ?_
      refine x_iconst ok (nI 1) dX4_tellPart_60 (by decide) ?_
      refine x_iadd ok (nI (p + 1)) dX4_tellPart_61 (nN (nI_add _ _) (by omega)) ?_
      refine qX4_93 ok (As := [.int (nI (p + 1))]) (st := [.ref an]) 1 rfl (c2_digitAt l D cI cZ cS ax ta T xf (p + 1) (by first | assumption | omega) (by first | assumption | omega) (by first | assumption | omega) (by first | assumption | omega)) rfl (Nat.le_of_ble_eq_true rfl) (Nat.le_of_ble_eq_true rfl) (Nat.le_of_ble_eq_true rfl) dX4_tellPart_62 [1, 2] (by decide) rfl (ws' := fun u => [(x, .inr (4, [.ref ax, .ref aw, .ref an, .ref aa, .ref a0, .ref a1, .int (nI sk), .int (nI ll), .long sd, .ref ar, .ref aq, .ref al, .ref am])), (ax, .inr (2, [.ref ta, .int (nI T.length)])), (ta, .inl (cI, 56, .inl xf)), (aw, .inr (3, [.ref wd, .ref wt, .int (nI ((tellW T p Wc).length))])), (wd, .inl (cI, 4, .inl df)), (wt, .inl (cI, 4, .inl tf)), (an, .inr (1, [.ref nc, .int (nI Lc.length), .int (nI li), .int ye, .int br])), (nc, .inl (cI, 48, .inl f))]) (st' := fun u => [.int (nI (tg T (p + 1) - 48)), .ref an]) (fun _ => rfl) (fun _ => rfl) (fun _ => rfl) (fun _ _ => ?_)
      refine x_aload_n ok 1 dX4_tellPart_65 rfl rfl ?_
      refine gX4_10 ok dX4_tellPart_66 0 rfl rfl ?_
      refine x_iload_n ok 2 dX4_tellPart_69 rfl rfl ?_
      refine x_iconst ok (nI 2) dX4_tellPart_70 (by decide) ?_
      refine x_iadd ok (nI (p + 2)) dX4_tellPart_71 (nN (nI_add _ _) (by omega)) ?_
      refine qX4_93 ok (As := [.int (nI (p + 2))]) (st := [.int (nI (tg T (p + 1) - 48)), .ref an]) 1 rfl (c2_digitAt l D cI cZ cS ax ta T xf (p + 2) (by first | assumption | omega) (by first | assumption | omega) (by first | assumption | omega) (by first | assumption | omega)) rfl (Nat.le_of_ble_eq_true rfl) (Nat.le_of_ble_eq_true rfl) (Nat.le_of_ble_eq_true rfl) dX4_tellPart_72 [1, 2] (by decide) rfl (ws' := fun u => [(x, .inr (4, [.ref ax, .ref aw, .ref an, .ref aa, .ref a0, .ref a1, .int (nI sk), .int (nI ll), .long sd, .ref ar, .ref aq, .ref al, .ref am])), (ax, .inr (2, [.ref ta, .int (nI T.length)])), (ta, .inl (cI, 56, .inl xf)), (aw, .inr (3, [.ref wd, .ref wt, .int (nI ((tellW T p Wc).length))])), (wd, .inl (cI, 4, .inl df)), (wt, .inl (cI, 4, .inl tf)), (an, .inr (1, [.ref nc, .int (nI Lc.length), .int (nI li), .int ye, .int br])), (nc, .inl (cI, 48, .inl f))]) (st' := fun u => [.int (nI (tg T (p + 2) - 48)), .int (nI (tg T (p + 1) - 48)), .ref an]) (fun _ => rfl) (fun _ => rfl) (fun _ => rfl) (fun _ _ => ?_)
      refine x_aload_n ok 1 dX4_tellPart_75 rfl rfl ?_
      refine gX4_10 ok dX4_tellPart_76 0 rfl rfl ?_
      refine x_iload_n ok 2 dX4_tellPart_79 rfl rfl ?_
      refine x_iconst ok (nI 3) dX4_tellPart_80 (by decide) ?_
      refine x_iadd ok (nI (p + 3)) dX4_tellPart_81 (nN (nI_add _ _) (by omega)) ?_
      refine qX4_93 ok (As := [.int (nI (p + 3))]) (st := [.int (nI (tg T (p + 2) - 48)), .int (nI (tg T (p + 1) - 48)), .ref an]) 1 rfl (c2_digitAt l D cI cZ cS ax ta T xf (p + 3) (by first | assumption | omega) (by first | assumption | omega) (by first | assumption | omega) (by first | assumption | omega)) rfl (Nat.le_of_ble_eq_true rfl) (Nat.le_of_ble_eq_true rfl) (Nat.le_of_ble_eq_true rfl) dX4_tellPart_82 [1, 2] (by decide) rfl (ws' := fun u => [(x, .inr (4, [.ref ax, .ref aw, .ref an, .ref aa, .ref a0, .ref a1, .int (nI sk), .int (nI ll), .long sd, .ref ar, .ref aq, .ref al, .ref am])), (ax, .inr (2, [.ref ta, .int (nI T.length)])), (ta, .inl (cI, 56, .inl xf)), (aw, .inr (3, [.ref wd, .ref wt, .int (nI ((tellW T p Wc).length))])), (wd, .inl (cI, 4, .inl df)), (wt, .inl (cI, 4, .inl tf)), (an, .inr (1, [.ref nc, .int (nI Lc.length), .int (nI li), .int ye, .int br])), (nc, .inl (cI, 48, .inl f))]) (st' := fun u => [.int (nI (tg T (p + 3) - 48)), .int (nI (tg T (p + 2) - 48)), .int (nI (tg T (p + 1) - 48)), .ref an]) (fun _ => rfl) (fun _ => rfl) (fun _ => rfl) (fun _ _ => ?_)
      refine x_aload_n ok 1 dX4_tellPart_85 rfl rfl ?_
      refine gX4_10 ok dX4_tellPart_86 0 rfl rfl ?_
      refine x_iload_n ok 2 dX4_tellPart_89 rfl rfl ?_
      refine x_iconst ok (nI 4) dX4_tellPart_90 (by decide) ?_
      refine x_iadd ok (nI (p + 4)) dX4_tellPart_91 (nN (nI_add _ _) (by omega)) ?_
      refine qX4_93 ok (As := [.int (nI (p + 4))]) (st := [.int (nI (tg T (p + 3) - 48)), .int (nI (tg T (p + 2) - 48)), .int (nI (tg T (p + 1) - 48)), .ref an]) 1 rfl (c2_digitAt l D cI cZ cS ax ta T xf (p + 4) (by first | assumption | omega) (by first | assumption | omega) (by first | assumption | omega) (by first | assumption | omega)) rfl (Nat.le_of_ble_eq_true rfl) (Nat.le_of_ble_eq_true rfl) (Nat.le_of_ble_eq_true rfl) dX4_tellPart_92 [1, 2] (by decide) rfl (ws' := fun u => [(x, .inr (4, [.ref ax, .ref aw, .ref an, .ref aa, .ref a0, .ref a1, .int (nI sk), .int (nI ll), .long sd, .ref ar, .ref aq, .ref al, .ref am])), (ax, .inr (2, [.ref ta, .int (nI T.length)])), (ta, .inl (cI, 56, .inl xf)), (aw, .inr (3, [.ref wd, .ref wt, .int (nI ((tellW T p Wc).length))])), (wd, .inl (cI, 4, .inl df)), (wt, .inl (cI, 4, .inl tf)), (an, .inr (1, [.ref nc, .int (nI Lc.length), .int (nI li), .int ye, .int br])), (nc, .inl (cI, 48, .inl f))]) (st' := fun u => [.int (nI (tg T (p + 4) - 48)), .int (nI (tg T (p + 3) - 48)), .int (nI (tg T (p + 2) - 48)), .int (nI (tg T (p + 1) - 48)), .ref an]) (fun _ => rfl) (fun _ => rfl) (fun _ => rfl) (fun _ _ => ?_)
      refine x_iconst ok (nI 0) dX4_tellPart_95 (by decide) ?_
      refine qX4_100 ok (As := [.int (nI (tg T (p + 1) - 48)), .int (nI (tg T (p + 2) - 48)), .int (nI (tg T (p + 3) - 48)), .int (nI (tg T (p + 4) - 48)), .int (nI 0)]) (st := []) 6 rfl (c1_add l D cI cZ cS an nc Lc li ye br f (tg T (p + 1) - 48) (tg T (p + 2) - 48) (tg T (p + 3) - 48) (tg T (p + 4) - 48) 0 (by first | assumption | omega) (by first | assumption | omega)) rfl (Nat.le_of_ble_eq_true rfl) (Nat.le_of_ble_eq_true rfl) (Nat.le_of_ble_eq_true rfl) dX4_tellPart_96 [6, 7] (by decide) rfl (ws' := fun u => [(x, .inr (4, [.ref ax, .ref aw, .ref an, .ref aa, .ref a0, .ref a1, .int (nI sk), .int (nI ll), .long sd, .ref ar, .ref aq, .ref al, .ref am])), (ax, .inr (2, [.ref ta, .int (nI T.length)])), (ta, .inl (cI, 56, .inl xf)), (aw, .inr (3, [.ref wd, .ref wt, .int (nI ((tellW T p Wc).length))])), (wd, .inl (cI, 4, .inl df)), (wt, .inl (cI, 4, .inl tf)), (an, .inr (1, [.ref nc, .int (nI ((Lc ++ [mkS (tg T (p + 1) - 48) (tg T (p + 2) - 48) (tg T (p + 3) - 48) (tg T (p + 4) - 48) 0]).length)), .int (nI li), .int ye, .int br])), (nc, .inl (cI, 48, .inl u))]) (st' := fun u => [.int (nI Lc.length)]) (fun _ => rfl) (fun _ => rfl) (fun _ => rfl) (fun u96 hu96 => ?_)
      obtain ⟨g96, rfl⟩ : ∃ z, z = u96 := ⟨_, rfl⟩
      have hg96 := hu96
      have hg96 : hs g96 (Lc ++ [mkS (tg T (p + 1) - 48) (tg T (p + 2) - 48) (tg T (p + 3) - 48) (tg T (p + 4) - 48) 0]) := hg96
      show XX K [(x, .inr (4, [.ref ax, .ref aw, .ref an, .ref aa, .ref a0, .ref a1, .int (nI sk), .int (nI ll), .long sd, .ref ar, .ref aq, .ref al, .ref am])), (ax, .inr (2, [.ref ta, .int (nI T.length)])), (ta, .inl (cI, 56, .inl xf)), (aw, .inr (3, [.ref wd, .ref wt, .int (nI ((tellW T p Wc).length))])), (wd, .inl (cI, 4, .inl df)), (wt, .inl (cI, 4, .inl tf)), (an, .inr (1, [.ref nc, .int (nI ((Lc ++ [mkS (tg T (p + 1) - 48) (tg T (p + 2) - 48) (tg T (p + 3) - 48) (tg T (p + 4) - 48) 0]).length)), .int (nI li), .int ye, .int br])), (nc, .inl (cI, 48, .inl g96))] [(2, .int (nI (tg T p))), (0, .ref x), (1, .int (nI p))] 99 [.int (nI Lc.length)]
      refine x_pop ok dX4_tellPart_99 rfl ?_
      rw [show (Lc ++ [mkS (tg T (p + 1) - 48) (tg T (p + 2) - 48) (tg T (p + 3) - 48) (tg T (p + 4) - 48) 0]).length = (tellL T p Lc).length from by rw [eL]]
      exact ret (df, tf, g96) _ _ _ dX4_tellPart_100 (rfl) (⟨by rw [eW]; exact hD, by rw [eW]; exact hTw, by rw [eL]; exact hg96⟩)
  · skip
    have a87 := h87 c_12
    have eW : tellW T p Wc = Wc ++ [(tg T (p + 1) - 48, tg T (p + 2) - 48)] := by rw [tellW, if_pos c_12]
    have eL : tellL T p Lc = Lc := by rw [tellL, if_neg (by omega)]
    rw [show Lc.length = (tellL T p Lc).length from by rw [eL]]
    refine x_aload_n ok 1 dX4_tellPart_15 rfl rfl ?_
    refine gX4_19 ok dX4_tellPart_16 0 rfl rfl ?_
    refine x_aload_n ok 1 dX4_tellPart_19 rfl rfl ?_
    refine gX4_10 ok dX4_tellPart_20 0 rfl rfl ?_
    refine x_iload_n ok 2 dX4_tellPart_23 rfl rfl ?_
    refine x_iconst ok (nI 1) dX4_tellPart_24 (by decide) ?_
    refine x_iadd ok (nI (p + 1)) dX4_tellPart_25 (nN (nI_add _ _) (by omega)) ?_
    refine qX4_93 ok (As := [.int (nI (p + 1))]) (st := [.ref aw]) 1 rfl (c2_digitAt l D cI cZ cS ax ta T xf (p + 1) (by first | assumption | omega) (by first | assumption | omega) (by first | assumption | omega) (by first | assumption | omega)) rfl (Nat.le_of_ble_eq_true rfl) (Nat.le_of_ble_eq_true rfl) (Nat.le_of_ble_eq_true rfl) dX4_tellPart_26 [1, 2] (by decide) rfl (ws' := fun u => [(x, .inr (4, [.ref ax, .ref aw, .ref an, .ref aa, .ref a0, .ref a1, .int (nI sk), .int (nI ll), .long sd, .ref ar, .ref aq, .ref al, .ref am])), (ax, .inr (2, [.ref ta, .int (nI T.length)])), (ta, .inl (cI, 56, .inl xf)), (aw, .inr (3, [.ref wd, .ref wt, .int (nI Wc.length)])), (wd, .inl (cI, 4, .inl df)), (wt, .inl (cI, 4, .inl tf)), (an, .inr (1, [.ref nc, .int (nI ((tellL T p Lc).length)), .int (nI li), .int ye, .int br])), (nc, .inl (cI, 48, .inl f))]) (st' := fun u => [.int (nI (tg T (p + 1) - 48)), .ref aw]) (fun _ => rfl) (fun _ => rfl) (fun _ => rfl) (fun _ _ => ?_)
    refine x_aload_n ok 1 dX4_tellPart_29 rfl rfl ?_
    refine gX4_10 ok dX4_tellPart_30 0 rfl rfl ?_
    refine x_iload_n ok 2 dX4_tellPart_33 rfl rfl ?_
    refine x_iconst ok (nI 2) dX4_tellPart_34 (by decide) ?_
    refine x_iadd ok (nI (p + 2)) dX4_tellPart_35 (nN (nI_add _ _) (by omega)) ?_
    refine qX4_93 ok (As := [.int (nI (p + 2))]) (st := [.int (nI (tg T (p + 1) - 48)), .ref aw]) 1 rfl (c2_digitAt l D cI cZ cS ax ta T xf (p + 2) (by first | assumption | omega) (by first | assumption | omega) (by first | assumption | omega) (by first | assumption | omega)) rfl (Nat.le_of_ble_eq_true rfl) (Nat.le_of_ble_eq_true rfl) (Nat.le_of_ble_eq_true rfl) dX4_tellPart_36 [1, 2] (by decide) rfl (ws' := fun u => [(x, .inr (4, [.ref ax, .ref aw, .ref an, .ref aa, .ref a0, .ref a1, .int (nI sk), .int (nI ll), .long sd, .ref ar, .ref aq, .ref al, .ref am])), (ax, .inr (2, [.ref ta, .int (nI T.length)])), (ta, .inl (cI, 56, .inl xf)), (aw, .inr (3, [.ref wd, .ref wt, .int (nI Wc.length)])), (wd, .inl (cI, 4, .inl df)), (wt, .inl (cI, 4, .inl tf)), (an, .inr (1, [.ref nc, .int (nI ((tellL T p Lc).length)), .int (nI li), .int ye, .int br])), (nc, .inl (cI, 48, .inl f))]) (st' := fun u => [.int (nI (tg T (p + 2) - 48)), .int (nI (tg T (p + 1) - 48)), .ref aw]) (fun _ => rfl) (fun _ => rfl) (fun _ => rfl) (fun _ _ => ?_)
    refine qX4_96 ok (As := [.int (nI (tg T (p + 1) - 48)), .int (nI (tg T (p + 2) - 48))]) (st := []) 3 rfl (c3_add l D cI cZ cS aw wd wt Wc.length df tf (tg T (p + 1) - 48) (tg T (p + 2) - 48) (by first | assumption | omega)) rfl (Nat.le_of_ble_eq_true rfl) (Nat.le_of_ble_eq_true rfl) (Nat.le_of_ble_eq_true rfl) dX4_tellPart_39 [3, 4, 5] (by decide) rfl (ws' := fun u => [(x, .inr (4, [.ref ax, .ref aw, .ref an, .ref aa, .ref a0, .ref a1, .int (nI sk), .int (nI ll), .long sd, .ref ar, .ref aq, .ref al, .ref am])), (ax, .inr (2, [.ref ta, .int (nI T.length)])), (ta, .inl (cI, 56, .inl xf)), (aw, .inr (3, [.ref wd, .ref wt, .int (nI (Wc.length + 1))])), (wd, .inl (cI, 4, .inl (upd df Wc.length (nI (tg T (p + 1) - 48))))), (wt, .inl (cI, 4, .inl (upd tf Wc.length (nI (tg T (p + 2) - 48))))), (an, .inr (1, [.ref nc, .int (nI ((tellL T p Lc).length)), .int (nI li), .int ye, .int br])), (nc, .inl (cI, 48, .inl f))]) (st' := fun u => []) (fun _ => rfl) (fun _ => rfl) (fun _ => rfl) (fun _ _ => ?_)
    rw [show Wc.length + 1 = (tellW T p Wc).length from by rw [eW]; simp]
    refine x_goto ok 100 dX4_tellPart_42 (by decide) ?_
    exact ret ((upd df Wc.length (nI (tg T (p + 1) - 48))), (upd tf Wc.length (nI (tg T (p + 2) - 48))), f) _ _ _ dX4_tellPart_100 (rfl) (⟨by rw [eW]; exact wD_app hD, by rw [eW]; exact wT_app hTw, by rw [eL]; exact hf⟩)
