set_option maxHeartbeats 4000000 in
set_option maxRecDepth 100000 in
theorem law_14 {K : KA × KB} {l : Launch} {D : va_G} {cI cZ cS : ClassId} {x y b k N : Nat} {xs : Nat → Int32} (ok : OKX K l D (TY cI cZ cS) cL_law RL 4 9 375 0 0) (hX : KXs K b N xs) (hN : N ≤ 2560) (h5 : k * 5 + 5 ≤ N) (ih : LI K cI cZ cS x y b (k + 1)) {T : List Nat} {Ws : List (Nat × Nat)} {ll : Nat} {L : List Sg} {li : Nat} {ye : Int32} {br : Int32} {As : List SS} {sk : Nat} {s0 : SS} {s1 : SS} {sd : Int64} {wc wm : va_W} (hS : OKS k T Ws L li As sk s0 s1) (hc : CW cI cS x T Ws ll L li ye br As sk s0 s1 sd wc) (hm : MW cI cZ y T Ws ll L li ye br As sk s0 s1 sd wm) : XX K (wc ++ wm) [(3, .int (nI (k * 5))), (2, .ref y), (1, .ref x), (0, .ref b)] 514 [] := by
  have hn : k ≤ 600 := by omega
  have hW4 := hS.2.1.1
  have h8 := hS.2.2.1.1
  obtain ⟨z1, e1⟩ : ∃ z, z = xs (k * 5 + 1) := ⟨_, rfl⟩
  obtain ⟨z2, e2⟩ : ∃ z, z = xs (k * 5 + 2) := ⟨_, rfl⟩
  obtain ⟨z3, e3⟩ : ∃ z, z = xs (k * 5 + 3) := ⟨_, rfl⟩
  obtain ⟨z4, e4⟩ : ∃ z, z = xs (k * 5 + 4) := ⟨_, rfl⟩
  obtain ⟨⟨fs, hfs⟩, hlc⟩ := CW_hd hc
  obtain ⟨⟨gs, hgs⟩, hlm⟩ := MW_hd hm
  have hcd : (wc ++ wm)[0]? = some (x, .inr (4, fs)) := by rw [List.getElem?_append_left (by omega)]; exact hfs
  refine x_aload_n ok 2 dL_law_514 rfl rfl ?_
  refine x_aload_n ok 3 dL_law_515 rfl rfl ?_
  refine x_iload_n ok 0 dL_law_516 rfl rfl ?_
  refine x_iconst ok (nI 1) dL_law_517 (by decide) ?_
  refine x_iadd ok (nI (k * 5 + 1)) dL_law_518 (nN (nI_add _ _) (by omega)) ?_
  refine x_sld ok hX hN (k * 5 + 1) (by omega) dL_law_519 ?_
  rw [← e1]
  refine qL_74 ok (As := [.int z1]) (st := []) 0 hcd (P_lost l D cI cZ cS hc hS hn) rfl (Nat.le_of_ble_eq_true rfl) (Nat.le_of_ble_eq_true rfl) (Nat.le_of_ble_eq_true rfl) dL_law_520 (List.range 44) (by decide) (law_hC1 hlc) (ws' := fun u => u.1 ++ wm) (st' := fun u => .int (lostI (stF Ws) li ll L z1) :: []) (fun u => u.2) (fun u => law_hw1 hlc ((LW_len u).trans hlc)) (fun _ => rfl) (fun u hu => ?_)
  have hlu : u.1.length = 44 := (LW_len u).trans hlc
  have hmd : (u.1 ++ wm)[44]? = some (y, .inr (5, gs)) := by rw [List.getElem?_append_right (by omega), show 44 - u.1.length = 0 by omega]; exact hgs
  refine x_aload_n ok 1 dL_law_523 rfl rfl ?_
  refine x_aload_n ok 3 dL_law_524 rfl rfl ?_
  refine x_iload_n ok 0 dL_law_525 rfl rfl ?_
  refine x_iconst ok (nI 1) dL_law_526 (by decide) ?_
  refine x_iadd ok (nI (k * 5 + 1)) dL_law_527 (nN (nI_add _ _) (by omega)) ?_
  refine x_sld ok hX hN (k * 5 + 1) (by omega) dL_law_528 ?_
  rw [← e1]
  refine qL_77 ok (As := [.int z1]) (st := [.int (lostI (stF Ws) li ll L z1)]) 44 hmd (E_lost l D cI cZ cS hm hS hn) rfl (Nat.le_of_ble_eq_true rfl) (Nat.le_of_ble_eq_true rfl) (Nat.le_of_ble_eq_true rfl) dL_law_529 (List.range' 44 18) (by decide) (law_hC2 hlu hlm) (ws' := fun v => u.1 ++ v.1) (st' := fun v => [.int (lostI (stF Ws) li ll L z1), .int (lostI (stF Ws) li ll L z1)]) (fun v => v.2) (fun v => law_hw2 hlu hlm ((LW_len v).trans hlm)) (fun _ => rfl) (fun v hv => ?_)
  refine x_icmp_eq ok 920 dL_law_532 (by decide) (fun _ => ?_) (fun c => absurd rfl c)
  exact law_nx ok ih (oks_0 hS) hu hv
set_option maxHeartbeats 4000000 in
set_option maxRecDepth 100000 in
theorem law_15 {K : KA × KB} {l : Launch} {D : va_G} {cI cZ cS : ClassId} {x y b k N : Nat} {xs : Nat → Int32} (ok : OKX K l D (TY cI cZ cS) cL_law RL 4 9 375 0 0) (hX : KXs K b N xs) (hN : N ≤ 2560) (h5 : k * 5 + 5 ≤ N) (ih : LI K cI cZ cS x y b (k + 1)) {T : List Nat} {Ws : List (Nat × Nat)} {ll : Nat} {L : List Sg} {li : Nat} {ye : Int32} {br : Int32} {As : List SS} {sk : Nat} {s0 : SS} {s1 : SS} {sd : Int64} {wc wm : va_W} (hS : OKS k T Ws L li As sk s0 s1) (hc : CW cI cS x T Ws ll L li ye br As sk s0 s1 sd wc) (hm : MW cI cZ y T Ws ll L li ye br As sk s0 s1 sd wm) : XX K (wc ++ wm) [(3, .int (nI (k * 5))), (2, .ref y), (1, .ref x), (0, .ref b)] 537 [] := by
  have hn : k ≤ 600 := by omega
  have hW4 := hS.2.1.1
  have h8 := hS.2.2.1.1
  obtain ⟨z1, e1⟩ : ∃ z, z = xs (k * 5 + 1) := ⟨_, rfl⟩
  obtain ⟨z2, e2⟩ : ∃ z, z = xs (k * 5 + 2) := ⟨_, rfl⟩
  obtain ⟨z3, e3⟩ : ∃ z, z = xs (k * 5 + 3) := ⟨_, rfl⟩
  obtain ⟨z4, e4⟩ : ∃ z, z = xs (k * 5 + 4) := ⟨_, rfl⟩
  obtain ⟨⟨fs, hfs⟩, hlc⟩ := CW_hd hc
  obtain ⟨⟨gs, hgs⟩, hlm⟩ := MW_hd hm
  have hcd : (wc ++ wm)[0]? = some (x, .inr (4, fs)) := by rw [List.getElem?_append_left (by omega)]; exact hfs
  refine x_aload_n ok 2 dL_law_537 rfl rfl ?_
  refine x_aload_n ok 3 dL_law_538 rfl rfl ?_
  refine x_iload_n ok 0 dL_law_539 rfl rfl ?_
  refine x_iconst ok (nI 1) dL_law_540 (by decide) ?_
  refine x_iadd ok (nI (k * 5 + 1)) dL_law_541 (nN (nI_add _ _) (by omega)) ?_
  refine x_sld ok hX hN (k * 5 + 1) (by omega) dL_law_542 ?_
  rw [← e1]
  refine x_aload_n ok 3 dL_law_543 rfl rfl ?_
  refine x_iload_n ok 0 dL_law_544 rfl rfl ?_
  refine x_iconst ok (nI 2) dL_law_545 (by decide) ?_
  refine x_iadd ok (nI (k * 5 + 2)) dL_law_546 (nN (nI_add _ _) (by omega)) ?_
  refine x_sld ok hX hN (k * 5 + 2) (by omega) dL_law_547 ?_
  rw [← e2]
  refine qL_78 ok (As := [.int z1, .int z2]) (st := []) 0 hcd (P_plan l D cI cZ cS hc hS hn) rfl (Nat.le_of_ble_eq_true rfl) (Nat.le_of_ble_eq_true rfl) (Nat.le_of_ble_eq_true rfl) dL_law_548 (List.range 44) (by decide) (law_hC1 hlc) (ws' := fun u => u.1 ++ wm) (st' := fun u => .int (planI ll (stF Ws) Ws.length li L z1 z2) :: []) (fun u => u.2) (fun u => law_hw1 hlc ((LW_len u).trans hlc)) (fun _ => rfl) (fun u hu => ?_)
  have hlu : u.1.length = 44 := (LW_len u).trans hlc
  have hmd : (u.1 ++ wm)[44]? = some (y, .inr (5, gs)) := by rw [List.getElem?_append_right (by omega), show 44 - u.1.length = 0 by omega]; exact hgs
  refine x_aload_n ok 1 dL_law_551 rfl rfl ?_
  refine x_aload_n ok 3 dL_law_552 rfl rfl ?_
  refine x_iload_n ok 0 dL_law_553 rfl rfl ?_
  refine x_iconst ok (nI 1) dL_law_554 (by decide) ?_
  refine x_iadd ok (nI (k * 5 + 1)) dL_law_555 (nN (nI_add _ _) (by omega)) ?_
  refine x_sld ok hX hN (k * 5 + 1) (by omega) dL_law_556 ?_
  rw [← e1]
  refine x_aload_n ok 3 dL_law_557 rfl rfl ?_
  refine x_iload_n ok 0 dL_law_558 rfl rfl ?_
  refine x_iconst ok (nI 2) dL_law_559 (by decide) ?_
  refine x_iadd ok (nI (k * 5 + 2)) dL_law_560 (nN (nI_add _ _) (by omega)) ?_
  refine x_sld ok hX hN (k * 5 + 2) (by omega) dL_law_561 ?_
  rw [← e2]
  refine qL_81 ok (As := [.int z1, .int z2]) (st := [.int (planI ll (stF Ws) Ws.length li L z1 z2)]) 44 hmd (E_plan l D cI cZ cS hm hS hn) rfl (Nat.le_of_ble_eq_true rfl) (Nat.le_of_ble_eq_true rfl) (Nat.le_of_ble_eq_true rfl) dL_law_562 (List.range' 44 18) (by decide) (law_hC2 hlu hlm) (ws' := fun v => u.1 ++ v.1) (st' := fun v => [.int (planI ll (stF Ws) Ws.length li L z1 z2), .int (planI ll (stF Ws) Ws.length li L z1 z2)]) (fun v => v.2) (fun v => law_hw2 hlu hlm ((LW_len v).trans hlm)) (fun _ => rfl) (fun v hv => ?_)
  refine x_icmp_eq ok 920 dL_law_565 (by decide) (fun _ => ?_) (fun c => absurd rfl c)
  exact law_nx ok ih (oks_0 hS) hu hv
set_option maxHeartbeats 4000000 in
set_option maxRecDepth 100000 in
theorem law_16 {K : KA × KB} {l : Launch} {D : va_G} {cI cZ cS : ClassId} {x y b k N : Nat} {xs : Nat → Int32} (ok : OKX K l D (TY cI cZ cS) cL_law RL 4 9 375 0 0) (hX : KXs K b N xs) (hN : N ≤ 2560) (h5 : k * 5 + 5 ≤ N) (ih : LI K cI cZ cS x y b (k + 1)) {T : List Nat} {Ws : List (Nat × Nat)} {ll : Nat} {L : List Sg} {li : Nat} {ye : Int32} {br : Int32} {As : List SS} {sk : Nat} {s0 : SS} {s1 : SS} {sd : Int64} {wc wm : va_W} (hS : OKS k T Ws L li As sk s0 s1) (hc : CW cI cS x T Ws ll L li ye br As sk s0 s1 sd wc) (hm : MW cI cZ y T Ws ll L li ye br As sk s0 s1 sd wm) : XX K (wc ++ wm) [(3, .int (nI (k * 5))), (2, .ref y), (1, .ref x), (0, .ref b)] 570 [] := by
  have hn : k ≤ 600 := by omega
  have hW4 := hS.2.1.1
  have h8 := hS.2.2.1.1
  obtain ⟨z1, e1⟩ : ∃ z, z = xs (k * 5 + 1) := ⟨_, rfl⟩
  obtain ⟨z2, e2⟩ : ∃ z, z = xs (k * 5 + 2) := ⟨_, rfl⟩
  obtain ⟨z3, e3⟩ : ∃ z, z = xs (k * 5 + 3) := ⟨_, rfl⟩
  obtain ⟨z4, e4⟩ : ∃ z, z = xs (k * 5 + 4) := ⟨_, rfl⟩
  obtain ⟨⟨fs, hfs⟩, hlc⟩ := CW_hd hc
  obtain ⟨⟨gs, hgs⟩, hlm⟩ := MW_hd hm
  have hcd : (wc ++ wm)[0]? = some (x, .inr (4, fs)) := by rw [List.getElem?_append_left (by omega)]; exact hfs
  refine x_aload_n ok 2 dL_law_570 rfl rfl ?_
  refine x_aload_n ok 3 dL_law_571 rfl rfl ?_
  refine x_iload_n ok 0 dL_law_572 rfl rfl ?_
  refine x_iconst ok (nI 1) dL_law_573 (by decide) ?_
  refine x_iadd ok (nI (k * 5 + 1)) dL_law_574 (nN (nI_add _ _) (by omega)) ?_
  refine x_sld ok hX hN (k * 5 + 1) (by omega) dL_law_575 ?_
  rw [← e1]
  refine qL_82 ok (As := [.int z1]) (st := []) 0 hcd (P_bestLid l D cI cZ cS hc hS hn) rfl (Nat.le_of_ble_eq_true rfl) (Nat.le_of_ble_eq_true rfl) (Nat.le_of_ble_eq_true rfl) dL_law_576 (List.range 44) (by decide) (law_hC1 hlc) (ws' := fun u => u.1 ++ wm) (st' := fun u => .int (bestLidI (stF Ws) Ws.length li ll L z1) :: []) (fun u => u.2) (fun u => law_hw1 hlc ((LW_len u).trans hlc)) (fun _ => rfl) (fun u hu => ?_)
  have hlu : u.1.length = 44 := (LW_len u).trans hlc
  have hmd : (u.1 ++ wm)[44]? = some (y, .inr (5, gs)) := by rw [List.getElem?_append_right (by omega), show 44 - u.1.length = 0 by omega]; exact hgs
  refine x_aload_n ok 1 dL_law_579 rfl rfl ?_
  refine x_aload_n ok 3 dL_law_580 rfl rfl ?_
  refine x_iload_n ok 0 dL_law_581 rfl rfl ?_
  refine x_iconst ok (nI 1) dL_law_582 (by decide) ?_
  refine x_iadd ok (nI (k * 5 + 1)) dL_law_583 (nN (nI_add _ _) (by omega)) ?_
  refine x_sld ok hX hN (k * 5 + 1) (by omega) dL_law_584 ?_
  rw [← e1]
  refine qL_85 ok (As := [.int z1]) (st := [.int (bestLidI (stF Ws) Ws.length li ll L z1)]) 44 hmd (E_bestLid l D cI cZ cS hm hS hn) rfl (Nat.le_of_ble_eq_true rfl) (Nat.le_of_ble_eq_true rfl) (Nat.le_of_ble_eq_true rfl) dL_law_585 (List.range' 44 18) (by decide) (law_hC2 hlu hlm) (ws' := fun v => u.1 ++ v.1) (st' := fun v => [.int (bestLidI (stF Ws) Ws.length li ll L z1), .int (bestLidI (stF Ws) Ws.length li ll L z1)]) (fun v => v.2) (fun v => law_hw2 hlu hlm ((LW_len v).trans hlm)) (fun _ => rfl) (fun v hv => ?_)
  refine x_icmp_eq ok 920 dL_law_588 (by decide) (fun _ => ?_) (fun c => absurd rfl c)
  exact law_nx ok ih (oks_0 hS) hu hv
set_option maxHeartbeats 4000000 in
set_option maxRecDepth 100000 in
theorem law_17 {K : KA × KB} {l : Launch} {D : va_G} {cI cZ cS : ClassId} {x y b k N : Nat} {xs : Nat → Int32} (ok : OKX K l D (TY cI cZ cS) cL_law RL 4 9 375 0 0) (hX : KXs K b N xs) (hN : N ≤ 2560) (h5 : k * 5 + 5 ≤ N) (ih : LI K cI cZ cS x y b (k + 1)) {T : List Nat} {Ws : List (Nat × Nat)} {ll : Nat} {L : List Sg} {li : Nat} {ye : Int32} {br : Int32} {As : List SS} {sk : Nat} {s0 : SS} {s1 : SS} {sd : Int64} {wc wm : va_W} (hS : OKS k T Ws L li As sk s0 s1) (hc : CW cI cS x T Ws ll L li ye br As sk s0 s1 sd wc) (hm : MW cI cZ y T Ws ll L li ye br As sk s0 s1 sd wm) : XX K (wc ++ wm) [(3, .int (nI (k * 5))), (2, .ref y), (1, .ref x), (0, .ref b)] 593 [] := by
  have hn : k ≤ 600 := by omega
  have hW4 := hS.2.1.1
  have h8 := hS.2.2.1.1
  obtain ⟨z1, e1⟩ : ∃ z, z = xs (k * 5 + 1) := ⟨_, rfl⟩
  obtain ⟨z2, e2⟩ : ∃ z, z = xs (k * 5 + 2) := ⟨_, rfl⟩
  obtain ⟨z3, e3⟩ : ∃ z, z = xs (k * 5 + 3) := ⟨_, rfl⟩
  obtain ⟨z4, e4⟩ : ∃ z, z = xs (k * 5 + 4) := ⟨_, rfl⟩
  obtain ⟨⟨fs, hfs⟩, hlc⟩ := CW_hd hc
  obtain ⟨⟨gs, hgs⟩, hlm⟩ := MW_hd hm
  have hcd : (wc ++ wm)[0]? = some (x, .inr (4, fs)) := by rw [List.getElem?_append_left (by omega)]; exact hfs
  refine x_aload_n ok 2 dL_law_593 rfl rfl ?_
  refine qL_86 ok (As := []) (st := []) 0 hcd (P_lamps l D cI cZ cS hc hS hn) rfl (Nat.le_of_ble_eq_true rfl) (Nat.le_of_ble_eq_true rfl) (Nat.le_of_ble_eq_true rfl) dL_law_594 (List.range 44) (by decide) (law_hC1 hlc) (ws' := fun u => u.1 ++ wm) (st' := fun u => .int (lampsI L li (dpF Ws) Ws.length) :: []) (fun u => u.2) (fun u => law_hw1 hlc ((LW_len u).trans hlc)) (fun _ => rfl) (fun u hu => ?_)
  have hlu : u.1.length = 44 := (LW_len u).trans hlc
  have hmd : (u.1 ++ wm)[44]? = some (y, .inr (5, gs)) := by rw [List.getElem?_append_right (by omega), show 44 - u.1.length = 0 by omega]; exact hgs
  refine x_aload_n ok 1 dL_law_597 rfl rfl ?_
  refine qL_89 ok (As := []) (st := [.int (lampsI L li (dpF Ws) Ws.length)]) 44 hmd (E_lamps l D cI cZ cS hm hS hn) rfl (Nat.le_of_ble_eq_true rfl) (Nat.le_of_ble_eq_true rfl) (Nat.le_of_ble_eq_true rfl) dL_law_598 (List.range' 44 18) (by decide) (law_hC2 hlu hlm) (ws' := fun v => u.1 ++ v.1) (st' := fun v => [.int (lampsI L li (dpF Ws) Ws.length), .int (lampsI L li (dpF Ws) Ws.length)]) (fun v => v.2) (fun v => law_hw2 hlu hlm ((LW_len v).trans hlm)) (fun _ => rfl) (fun v hv => ?_)
  refine x_icmp_eq ok 920 dL_law_601 (by decide) (fun _ => ?_) (fun c => absurd rfl c)
  exact law_nx ok ih (oks_0 hS) hu hv
set_option maxHeartbeats 4000000 in
set_option maxRecDepth 100000 in
theorem law_18 {K : KA × KB} {l : Launch} {D : va_G} {cI cZ cS : ClassId} {x y b k N : Nat} {xs : Nat → Int32} (ok : OKX K l D (TY cI cZ cS) cL_law RL 4 9 375 0 0) (hX : KXs K b N xs) (hN : N ≤ 2560) (h5 : k * 5 + 5 ≤ N) (ih : LI K cI cZ cS x y b (k + 1)) {T : List Nat} {Ws : List (Nat × Nat)} {ll : Nat} {L : List Sg} {li : Nat} {ye : Int32} {br : Int32} {As : List SS} {sk : Nat} {s0 : SS} {s1 : SS} {sd : Int64} {wc wm : va_W} (hS : OKS k T Ws L li As sk s0 s1) (hc : CW cI cS x T Ws ll L li ye br As sk s0 s1 sd wc) (hm : MW cI cZ y T Ws ll L li ye br As sk s0 s1 sd wm) : XX K (wc ++ wm) [(3, .int (nI (k * 5))), (2, .ref y), (1, .ref x), (0, .ref b)] 606 [] := by
  have hn : k ≤ 600 := by omega
  have hW4 := hS.2.1.1
  have h8 := hS.2.2.1.1
  obtain ⟨z1, e1⟩ : ∃ z, z = xs (k * 5 + 1) := ⟨_, rfl⟩
  obtain ⟨z2, e2⟩ : ∃ z, z = xs (k * 5 + 2) := ⟨_, rfl⟩
  obtain ⟨z3, e3⟩ : ∃ z, z = xs (k * 5 + 3) := ⟨_, rfl⟩
  obtain ⟨z4, e4⟩ : ∃ z, z = xs (k * 5 + 4) := ⟨_, rfl⟩
  obtain ⟨⟨fs, hfs⟩, hlc⟩ := CW_hd hc
  obtain ⟨⟨gs, hgs⟩, hlm⟩ := MW_hd hm
  have hcd : (wc ++ wm)[0]? = some (x, .inr (4, fs)) := by rw [List.getElem?_append_left (by omega)]; exact hfs
  refine x_aload_n ok 2 dL_law_606 rfl rfl ?_
  refine x_aload_n ok 3 dL_law_607 rfl rfl ?_
  refine x_iload_n ok 0 dL_law_608 rfl rfl ?_
  refine x_iconst ok (nI 1) dL_law_609 (by decide) ?_
  refine x_iadd ok (nI (k * 5 + 1)) dL_law_610 (nN (nI_add _ _) (by omega)) ?_
  refine x_sld ok hX hN (k * 5 + 1) (by omega) dL_law_611 ?_
  rw [← e1]
  refine qL_90 ok (As := [.int z1]) (st := []) 0 hcd (P_mostPitch l D cI cZ cS hc hS hn) rfl (Nat.le_of_ble_eq_true rfl) (Nat.le_of_ble_eq_true rfl) (Nat.le_of_ble_eq_true rfl) dL_law_612 (List.range 44) (by decide) (law_hC1 hlc) (ws' := fun u => u.1 ++ wm) (st' := fun u => .int (mostPitchI L z1) :: []) (fun u => u.2) (fun u => law_hw1 hlc ((LW_len u).trans hlc)) (fun _ => rfl) (fun u hu => ?_)
  have hlu : u.1.length = 44 := (LW_len u).trans hlc
  have hmd : (u.1 ++ wm)[44]? = some (y, .inr (5, gs)) := by rw [List.getElem?_append_right (by omega), show 44 - u.1.length = 0 by omega]; exact hgs
  refine x_aload_n ok 1 dL_law_615 rfl rfl ?_
  refine x_aload_n ok 3 dL_law_616 rfl rfl ?_
  refine x_iload_n ok 0 dL_law_617 rfl rfl ?_
  refine x_iconst ok (nI 1) dL_law_618 (by decide) ?_
  refine x_iadd ok (nI (k * 5 + 1)) dL_law_619 (nN (nI_add _ _) (by omega)) ?_
  refine x_sld ok hX hN (k * 5 + 1) (by omega) dL_law_620 ?_
  rw [← e1]
  refine qL_93 ok (As := [.int z1]) (st := [.int (mostPitchI L z1)]) 44 hmd (E_mostPitch l D cI cZ cS hm hS hn) rfl (Nat.le_of_ble_eq_true rfl) (Nat.le_of_ble_eq_true rfl) (Nat.le_of_ble_eq_true rfl) dL_law_621 (List.range' 44 18) (by decide) (law_hC2 hlu hlm) (ws' := fun v => u.1 ++ v.1) (st' := fun v => [.int (mostPitchI L z1), .int (mostPitchI L z1)]) (fun v => v.2) (fun v => law_hw2 hlu hlm ((LW_len v).trans hlm)) (fun _ => rfl) (fun v hv => ?_)
  refine x_icmp_eq ok 920 dL_law_624 (by decide) (fun _ => ?_) (fun c => absurd rfl c)
  exact law_nx ok ih (oks_0 hS) hu hv
set_option maxHeartbeats 4000000 in
set_option maxRecDepth 100000 in
theorem law_19 {K : KA × KB} {l : Launch} {D : va_G} {cI cZ cS : ClassId} {x y b k N : Nat} {xs : Nat → Int32} (ok : OKX K l D (TY cI cZ cS) cL_law RL 4 9 375 0 0) (hX : KXs K b N xs) (hN : N ≤ 2560) (h5 : k * 5 + 5 ≤ N) (ih : LI K cI cZ cS x y b (k + 1)) {T : List Nat} {Ws : List (Nat × Nat)} {ll : Nat} {L : List Sg} {li : Nat} {ye : Int32} {br : Int32} {As : List SS} {sk : Nat} {s0 : SS} {s1 : SS} {sd : Int64} {wc wm : va_W} (hS : OKS k T Ws L li As sk s0 s1) (hc : CW cI cS x T Ws ll L li ye br As sk s0 s1 sd wc) (hm : MW cI cZ y T Ws ll L li ye br As sk s0 s1 sd wm) : XX K (wc ++ wm) [(3, .int (nI (k * 5))), (2, .ref y), (1, .ref x), (0, .ref b)] 629 [] := by
  have hn : k ≤ 600 := by omega
  have hW4 := hS.2.1.1
  have h8 := hS.2.2.1.1
  obtain ⟨z1, e1⟩ : ∃ z, z = xs (k * 5 + 1) := ⟨_, rfl⟩
  obtain ⟨z2, e2⟩ : ∃ z, z = xs (k * 5 + 2) := ⟨_, rfl⟩
  obtain ⟨z3, e3⟩ : ∃ z, z = xs (k * 5 + 3) := ⟨_, rfl⟩
  obtain ⟨z4, e4⟩ : ∃ z, z = xs (k * 5 + 4) := ⟨_, rfl⟩
  obtain ⟨⟨fs, hfs⟩, hlc⟩ := CW_hd hc
  obtain ⟨⟨gs, hgs⟩, hlm⟩ := MW_hd hm
  have hcd : (wc ++ wm)[0]? = some (x, .inr (4, fs)) := by rw [List.getElem?_append_left (by omega)]; exact hfs
  refine x_aload_n ok 2 dL_law_629 rfl rfl ?_
  refine x_aload_n ok 3 dL_law_630 rfl rfl ?_
  refine x_iload_n ok 0 dL_law_631 rfl rfl ?_
  refine x_iconst ok (nI 1) dL_law_632 (by decide) ?_
  refine x_iadd ok (nI (k * 5 + 1)) dL_law_633 (nN (nI_add _ _) (by omega)) ?_
  refine x_sld ok hX hN (k * 5 + 1) (by omega) dL_law_634 ?_
  rw [← e1]
  refine qL_94 ok (As := [.int z1]) (st := []) 0 hcd (P_truest l D cI cZ cS hc hS hn) rfl (Nat.le_of_ble_eq_true rfl) (Nat.le_of_ble_eq_true rfl) (Nat.le_of_ble_eq_true rfl) dL_law_635 (List.range 44) (by decide) (law_hC1 hlc) (ws' := fun u => u.1 ++ wm) (st' := fun u => .int (truestI L z1) :: []) (fun u => u.2) (fun u => law_hw1 hlc ((LW_len u).trans hlc)) (fun _ => rfl) (fun u hu => ?_)
  have hlu : u.1.length = 44 := (LW_len u).trans hlc
  have hmd : (u.1 ++ wm)[44]? = some (y, .inr (5, gs)) := by rw [List.getElem?_append_right (by omega), show 44 - u.1.length = 0 by omega]; exact hgs
  refine x_aload_n ok 1 dL_law_638 rfl rfl ?_
  refine x_aload_n ok 3 dL_law_639 rfl rfl ?_
  refine x_iload_n ok 0 dL_law_640 rfl rfl ?_
  refine x_iconst ok (nI 1) dL_law_641 (by decide) ?_
  refine x_iadd ok (nI (k * 5 + 1)) dL_law_642 (nN (nI_add _ _) (by omega)) ?_
  refine x_sld ok hX hN (k * 5 + 1) (by omega) dL_law_643 ?_
  rw [← e1]
  refine qL_97 ok (As := [.int z1]) (st := [.int (truestI L z1)]) 44 hmd (E_truest l D cI cZ cS hm hS hn) rfl (Nat.le_of_ble_eq_true rfl) (Nat.le_of_ble_eq_true rfl) (Nat.le_of_ble_eq_true rfl) dL_law_644 (List.range' 44 18) (by decide) (law_hC2 hlu hlm) (ws' := fun v => u.1 ++ v.1) (st' := fun v => [.int (truestI L z1), .int (truestI L z1)]) (fun v => v.2) (fun v => law_hw2 hlu hlm ((LW_len v).trans hlm)) (fun _ => rfl) (fun v hv => ?_)
  refine x_icmp_eq ok 920 dL_law_647 (by decide) (fun _ => ?_) (fun c => absurd rfl c)
  exact law_nx ok ih (oks_0 hS) hu hv
set_option maxHeartbeats 4000000 in
set_option maxRecDepth 100000 in
theorem law_20 {K : KA × KB} {l : Launch} {D : va_G} {cI cZ cS : ClassId} {x y b k N : Nat} {xs : Nat → Int32} (ok : OKX K l D (TY cI cZ cS) cL_law RL 4 9 375 0 0) (hX : KXs K b N xs) (hN : N ≤ 2560) (h5 : k * 5 + 5 ≤ N) (ih : LI K cI cZ cS x y b (k + 1)) {T : List Nat} {Ws : List (Nat × Nat)} {ll : Nat} {L : List Sg} {li : Nat} {ye : Int32} {br : Int32} {As : List SS} {sk : Nat} {s0 : SS} {s1 : SS} {sd : Int64} {wc wm : va_W} (hS : OKS k T Ws L li As sk s0 s1) (hc : CW cI cS x T Ws ll L li ye br As sk s0 s1 sd wc) (hm : MW cI cZ y T Ws ll L li ye br As sk s0 s1 sd wm) : XX K (wc ++ wm) [(3, .int (nI (k * 5))), (2, .ref y), (1, .ref x), (0, .ref b)] 652 [] := by
  have hn : k ≤ 600 := by omega
  have hW4 := hS.2.1.1
  have h8 := hS.2.2.1.1
  obtain ⟨z1, e1⟩ : ∃ z, z = xs (k * 5 + 1) := ⟨_, rfl⟩
  obtain ⟨z2, e2⟩ : ∃ z, z = xs (k * 5 + 2) := ⟨_, rfl⟩
  obtain ⟨z3, e3⟩ : ∃ z, z = xs (k * 5 + 3) := ⟨_, rfl⟩
  obtain ⟨z4, e4⟩ : ∃ z, z = xs (k * 5 + 4) := ⟨_, rfl⟩
  obtain ⟨⟨fs, hfs⟩, hlc⟩ := CW_hd hc
  obtain ⟨⟨gs, hgs⟩, hlm⟩ := MW_hd hm
  have hcd : (wc ++ wm)[0]? = some (x, .inr (4, fs)) := by rw [List.getElem?_append_left (by omega)]; exact hfs
  refine x_aload_n ok 2 dL_law_652 rfl rfl ?_
  refine x_aload_n ok 3 dL_law_653 rfl rfl ?_
  refine x_iload_n ok 0 dL_law_654 rfl rfl ?_
  refine x_iconst ok (nI 1) dL_law_655 (by decide) ?_
  refine x_iadd ok (nI (k * 5 + 1)) dL_law_656 (nN (nI_add _ _) (by omega)) ?_
  refine x_sld ok hX hN (k * 5 + 1) (by omega) dL_law_657 ?_
  rw [← e1]
  refine x_aload_n ok 3 dL_law_658 rfl rfl ?_
  refine x_iload_n ok 0 dL_law_659 rfl rfl ?_
  refine x_iconst ok (nI 2) dL_law_660 (by decide) ?_
  refine x_iadd ok (nI (k * 5 + 2)) dL_law_661 (nN (nI_add _ _) (by omega)) ?_
  refine x_sld ok hX hN (k * 5 + 2) (by omega) dL_law_662 ?_
  rw [← e2]
  refine x_aload_n ok 3 dL_law_663 rfl rfl ?_
  refine x_iload_n ok 0 dL_law_664 rfl rfl ?_
  refine x_iconst ok (nI 3) dL_law_665 (by decide) ?_
  refine x_iadd ok (nI (k * 5 + 3)) dL_law_666 (nN (nI_add _ _) (by omega)) ?_
  refine x_sld ok hX hN (k * 5 + 3) (by omega) dL_law_667 ?_
  rw [← e3]
  refine qL_98 ok (As := [.int z1, .int z2, .int z3]) (st := []) 0 hcd (P_back l D cI cZ cS hc hS hn) rfl (Nat.le_of_ble_eq_true rfl) (Nat.le_of_ble_eq_true rfl) (Nat.le_of_ble_eq_true rfl) dL_law_668 (List.range 44) (by decide) (law_hC1 hlc) (ws' := fun u => u.1 ++ wm) (st' := fun u => .int (backI Ws.length (stF Ws) li z1 z2 z3) :: []) (fun u => u.2) (fun u => law_hw1 hlc ((LW_len u).trans hlc)) (fun _ => rfl) (fun u hu => ?_)
  have hlu : u.1.length = 44 := (LW_len u).trans hlc
  have hmd : (u.1 ++ wm)[44]? = some (y, .inr (5, gs)) := by rw [List.getElem?_append_right (by omega), show 44 - u.1.length = 0 by omega]; exact hgs
  refine x_aload_n ok 1 dL_law_671 rfl rfl ?_
  refine x_aload_n ok 3 dL_law_672 rfl rfl ?_
  refine x_iload_n ok 0 dL_law_673 rfl rfl ?_
  refine x_iconst ok (nI 1) dL_law_674 (by decide) ?_
  refine x_iadd ok (nI (k * 5 + 1)) dL_law_675 (nN (nI_add _ _) (by omega)) ?_
  refine x_sld ok hX hN (k * 5 + 1) (by omega) dL_law_676 ?_
  rw [← e1]
  refine x_aload_n ok 3 dL_law_677 rfl rfl ?_
  refine x_iload_n ok 0 dL_law_678 rfl rfl ?_
  refine x_iconst ok (nI 2) dL_law_679 (by decide) ?_
  refine x_iadd ok (nI (k * 5 + 2)) dL_law_680 (nN (nI_add _ _) (by omega)) ?_
  refine x_sld ok hX hN (k * 5 + 2) (by omega) dL_law_681 ?_
  rw [← e2]
  refine x_aload_n ok 3 dL_law_682 rfl rfl ?_
  refine x_iload_n ok 0 dL_law_683 rfl rfl ?_
  refine x_iconst ok (nI 3) dL_law_684 (by decide) ?_
  refine x_iadd ok (nI (k * 5 + 3)) dL_law_685 (nN (nI_add _ _) (by omega)) ?_
  refine x_sld ok hX hN (k * 5 + 3) (by omega) dL_law_686 ?_
  rw [← e3]
  refine qL_102 ok (As := [.int z1, .int z2, .int z3]) (st := [.int (backI Ws.length (stF Ws) li z1 z2 z3)]) 44 hmd (E_back l D cI cZ cS hm hS hn) rfl (Nat.le_of_ble_eq_true rfl) (Nat.le_of_ble_eq_true rfl) (Nat.le_of_ble_eq_true rfl) dL_law_687 (List.range' 44 18) (by decide) (law_hC2 hlu hlm) (ws' := fun v => u.1 ++ v.1) (st' := fun v => [.int (backI Ws.length (stF Ws) li z1 z2 z3), .int (backI Ws.length (stF Ws) li z1 z2 z3)]) (fun v => v.2) (fun v => law_hw2 hlu hlm ((LW_len v).trans hlm)) (fun _ => rfl) (fun v hv => ?_)
  refine x_icmp_eq ok 920 dL_law_690 (by decide) (fun _ => ?_) (fun c => absurd rfl c)
  exact law_nx ok ih (oks_0 hS) hu hv
set_option maxHeartbeats 4000000 in
set_option maxRecDepth 100000 in
theorem law_21 {K : KA × KB} {l : Launch} {D : va_G} {cI cZ cS : ClassId} {x y b k N : Nat} {xs : Nat → Int32} (ok : OKX K l D (TY cI cZ cS) cL_law RL 4 9 375 0 0) (hX : KXs K b N xs) (hN : N ≤ 2560) (h5 : k * 5 + 5 ≤ N) (ih : LI K cI cZ cS x y b (k + 1)) {T : List Nat} {Ws : List (Nat × Nat)} {ll : Nat} {L : List Sg} {li : Nat} {ye : Int32} {br : Int32} {As : List SS} {sk : Nat} {s0 : SS} {s1 : SS} {sd : Int64} {wc wm : va_W} (hS : OKS k T Ws L li As sk s0 s1) (hc : CW cI cS x T Ws ll L li ye br As sk s0 s1 sd wc) (hm : MW cI cZ y T Ws ll L li ye br As sk s0 s1 sd wm) : XX K (wc ++ wm) [(3, .int (nI (k * 5))), (2, .ref y), (1, .ref x), (0, .ref b)] 695 [] := by
  have hn : k ≤ 600 := by omega
  have hW4 := hS.2.1.1
  have h8 := hS.2.2.1.1
  obtain ⟨z1, e1⟩ : ∃ z, z = xs (k * 5 + 1) := ⟨_, rfl⟩
  obtain ⟨z2, e2⟩ : ∃ z, z = xs (k * 5 + 2) := ⟨_, rfl⟩
  obtain ⟨z3, e3⟩ : ∃ z, z = xs (k * 5 + 3) := ⟨_, rfl⟩
  obtain ⟨z4, e4⟩ : ∃ z, z = xs (k * 5 + 4) := ⟨_, rfl⟩
  obtain ⟨⟨fs, hfs⟩, hlc⟩ := CW_hd hc
  obtain ⟨⟨gs, hgs⟩, hlm⟩ := MW_hd hm
  have hcd : (wc ++ wm)[0]? = some (x, .inr (4, fs)) := by rw [List.getElem?_append_left (by omega)]; exact hfs
  refine x_aload_n ok 2 dL_law_695 rfl rfl ?_
  refine x_aload_n ok 3 dL_law_696 rfl rfl ?_
  refine x_iload_n ok 0 dL_law_697 rfl rfl ?_
  refine x_iconst ok (nI 1) dL_law_698 (by decide) ?_
  refine x_iadd ok (nI (k * 5 + 1)) dL_law_699 (nN (nI_add _ _) (by omega)) ?_
  refine x_sld ok hX hN (k * 5 + 1) (by omega) dL_law_700 ?_
  rw [← e1]
  refine x_aload_n ok 3 dL_law_701 rfl rfl ?_
  refine x_iload_n ok 0 dL_law_702 rfl rfl ?_
  refine x_iconst ok (nI 2) dL_law_703 (by decide) ?_
  refine x_iadd ok (nI (k * 5 + 2)) dL_law_704 (nN (nI_add _ _) (by omega)) ?_
  refine x_sld ok hX hN (k * 5 + 2) (by omega) dL_law_705 ?_
  rw [← e2]
  refine qL_103 ok (As := [.int z1, .int z2]) (st := []) 0 hcd (P_lords l D cI cZ cS hc hS hn) rfl (Nat.le_of_ble_eq_true rfl) (Nat.le_of_ble_eq_true rfl) (Nat.le_of_ble_eq_true rfl) dL_law_706 (List.range 44) (by decide) (law_hC1 hlc) (ws' := fun u => u.1 ++ wm) (st' := fun u => .int (lordsI ll (stF Ws) Ws.length li L z1 z2) :: []) (fun u => u.2) (fun u => law_hw1 hlc ((LW_len u).trans hlc)) (fun _ => rfl) (fun u hu => ?_)
  have hlu : u.1.length = 44 := (LW_len u).trans hlc
  have hmd : (u.1 ++ wm)[44]? = some (y, .inr (5, gs)) := by rw [List.getElem?_append_right (by omega), show 44 - u.1.length = 0 by omega]; exact hgs
  refine x_aload_n ok 1 dL_law_709 rfl rfl ?_
  refine x_aload_n ok 3 dL_law_710 rfl rfl ?_
  refine x_iload_n ok 0 dL_law_711 rfl rfl ?_
  refine x_iconst ok (nI 1) dL_law_712 (by decide) ?_
  refine x_iadd ok (nI (k * 5 + 1)) dL_law_713 (nN (nI_add _ _) (by omega)) ?_
  refine x_sld ok hX hN (k * 5 + 1) (by omega) dL_law_714 ?_
  rw [← e1]
  refine x_aload_n ok 3 dL_law_715 rfl rfl ?_
  refine x_iload_n ok 0 dL_law_716 rfl rfl ?_
  refine x_iconst ok (nI 2) dL_law_717 (by decide) ?_
  refine x_iadd ok (nI (k * 5 + 2)) dL_law_718 (nN (nI_add _ _) (by omega)) ?_
  refine x_sld ok hX hN (k * 5 + 2) (by omega) dL_law_719 ?_
  rw [← e2]
  refine qL_106 ok (As := [.int z1, .int z2]) (st := [.int (lordsI ll (stF Ws) Ws.length li L z1 z2)]) 44 hmd (E_lords l D cI cZ cS hm hS hn) rfl (Nat.le_of_ble_eq_true rfl) (Nat.le_of_ble_eq_true rfl) (Nat.le_of_ble_eq_true rfl) dL_law_720 (List.range' 44 18) (by decide) (law_hC2 hlu hlm) (ws' := fun v => u.1 ++ v.1) (st' := fun v => [.int (lordsI ll (stF Ws) Ws.length li L z1 z2), .int (lordsI ll (stF Ws) Ws.length li L z1 z2)]) (fun v => v.2) (fun v => law_hw2 hlu hlm ((LW_len v).trans hlm)) (fun _ => rfl) (fun v hv => ?_)
  refine x_icmp_eq ok 920 dL_law_723 (by decide) (fun _ => ?_) (fun c => absurd rfl c)
  exact law_nx ok ih (oks_0 hS) hu hv
set_option maxHeartbeats 4000000 in
set_option maxRecDepth 100000 in
theorem law_22 {K : KA × KB} {l : Launch} {D : va_G} {cI cZ cS : ClassId} {x y b k N : Nat} {xs : Nat → Int32} (ok : OKX K l D (TY cI cZ cS) cL_law RL 4 9 375 0 0) (hX : KXs K b N xs) (hN : N ≤ 2560) (h5 : k * 5 + 5 ≤ N) (ih : LI K cI cZ cS x y b (k + 1)) {T : List Nat} {Ws : List (Nat × Nat)} {ll : Nat} {L : List Sg} {li : Nat} {ye : Int32} {br : Int32} {As : List SS} {sk : Nat} {s0 : SS} {s1 : SS} {sd : Int64} {wc wm : va_W} (hS : OKS k T Ws L li As sk s0 s1) (hc : CW cI cS x T Ws ll L li ye br As sk s0 s1 sd wc) (hm : MW cI cZ y T Ws ll L li ye br As sk s0 s1 sd wm) : XX K (wc ++ wm) [(3, .int (nI (k * 5))), (2, .ref y), (1, .ref x), (0, .ref b)] 728 [] := by
  have hn : k ≤ 600 := by omega
  have hW4 := hS.2.1.1
  have h8 := hS.2.2.1.1
  obtain ⟨z1, e1⟩ : ∃ z, z = xs (k * 5 + 1) := ⟨_, rfl⟩
  obtain ⟨z2, e2⟩ : ∃ z, z = xs (k * 5 + 2) := ⟨_, rfl⟩
  obtain ⟨z3, e3⟩ : ∃ z, z = xs (k * 5 + 3) := ⟨_, rfl⟩
  obtain ⟨z4, e4⟩ : ∃ z, z = xs (k * 5 + 4) := ⟨_, rfl⟩
  by_cases hb : z3 = 0
  · skip
    obtain ⟨⟨fs, hfs⟩, hlc⟩ := CW_hd hc
    obtain ⟨⟨gs, hgs⟩, hlm⟩ := MW_hd hm
    have hcd : (wc ++ wm)[0]? = some (x, .inr (4, fs)) := by rw [List.getElem?_append_left (by omega)]; exact hfs
    refine x_aload_n ok 2 dL_law_728 rfl rfl ?_
    refine x_aload_n ok 3 dL_law_729 rfl rfl ?_
    refine x_iload_n ok 0 dL_law_730 rfl rfl ?_
    refine x_iconst ok (nI 1) dL_law_731 (by decide) ?_
    refine x_iadd ok (nI (k * 5 + 1)) dL_law_732 (nN (nI_add _ _) (by omega)) ?_
    refine x_sld ok hX hN (k * 5 + 1) (by omega) dL_law_733 ?_
    rw [← e1]
    refine x_aload_n ok 3 dL_law_734 rfl rfl ?_
    refine x_iload_n ok 0 dL_law_735 rfl rfl ?_
    refine x_iconst ok (nI 2) dL_law_736 (by decide) ?_
    refine x_iadd ok (nI (k * 5 + 2)) dL_law_737 (nN (nI_add _ _) (by omega)) ?_
    refine x_sld ok hX hN (k * 5 + 2) (by omega) dL_law_738 ?_
    rw [← e2]
    refine x_aload_n ok 3 dL_law_739 rfl rfl ?_
    refine x_iload_n ok 0 dL_law_740 rfl rfl ?_
    refine x_iconst ok (nI 3) dL_law_741 (by decide) ?_
    refine x_iadd ok (nI (k * 5 + 3)) dL_law_742 (nN (nI_add _ _) (by omega)) ?_
    refine x_sld ok hX hN (k * 5 + 3) (by omega) dL_law_743 ?_
    rw [← e3]
    refine x_if_eq ok 751 dL_law_744 (by decide) (fun c_744 => ?_) (fun c_744 => absurd c_744 (fun q => q hb))
    refine x_iconst ok (nI 0) dL_law_751 (by decide) ?_
    refine qL_107 ok (As := [.int z1, .int z2, .int (nI 0)]) (st := []) 0 hcd (P_rain (up := false) l D cI cZ cS hc hS hn) rfl (Nat.le_of_ble_eq_true rfl) (Nat.le_of_ble_eq_true rfl) (Nat.le_of_ble_eq_true rfl) dL_law_752 (List.range 44) (by decide) (law_hC1 hlc) (ws' := fun u => u.1 ++ wm) (st' := fun u => .int (rainI Ws.length li L z1 z2 false) :: []) (fun u => u.2) (fun u => law_hw1 hlc ((LW_len u).trans hlc)) (fun _ => rfl) (fun u hu => ?_)
    have hlu : u.1.length = 44 := (LW_len u).trans hlc
    have hmd : (u.1 ++ wm)[44]? = some (y, .inr (5, gs)) := by rw [List.getElem?_append_right (by omega), show 44 - u.1.length = 0 by omega]; exact hgs
    refine x_aload_n ok 1 dL_law_755 rfl rfl ?_
    refine x_aload_n ok 3 dL_law_756 rfl rfl ?_
    refine x_iload_n ok 0 dL_law_757 rfl rfl ?_
    refine x_iconst ok (nI 1) dL_law_758 (by decide) ?_
    refine x_iadd ok (nI (k * 5 + 1)) dL_law_759 (nN (nI_add _ _) (by omega)) ?_
    refine x_sld ok hX hN (k * 5 + 1) (by omega) dL_law_760 ?_
    rw [← e1]
    refine x_aload_n ok 3 dL_law_761 rfl rfl ?_
    refine x_iload_n ok 0 dL_law_762 rfl rfl ?_
    refine x_iconst ok (nI 2) dL_law_763 (by decide) ?_
    refine x_iadd ok (nI (k * 5 + 2)) dL_law_764 (nN (nI_add _ _) (by omega)) ?_
    refine x_sld ok hX hN (k * 5 + 2) (by omega) dL_law_765 ?_
    rw [← e2]
    refine x_aload_n ok 3 dL_law_766 rfl rfl ?_
    refine x_iload_n ok 0 dL_law_767 rfl rfl ?_
    refine x_iconst ok (nI 3) dL_law_768 (by decide) ?_
    refine x_iadd ok (nI (k * 5 + 3)) dL_law_769 (nN (nI_add _ _) (by omega)) ?_
    refine x_sld ok hX hN (k * 5 + 3) (by omega) dL_law_770 ?_
    rw [← e3]
    refine x_if_eq ok 778 dL_law_771 (by decide) (fun c_771 => ?_) (fun c_771 => absurd c_771 (fun q => q hb))
    refine x_iconst ok (nI 0) dL_law_778 (by decide) ?_
    refine qL_110 ok (As := [.int z1, .int z2, .int (nI 0)]) (st := [.int (rainI Ws.length li L z1 z2 false)]) 44 hmd (E_rain (up := false) l D cI cZ cS hm hS hn) rfl (Nat.le_of_ble_eq_true rfl) (Nat.le_of_ble_eq_true rfl) (Nat.le_of_ble_eq_true rfl) dL_law_779 (List.range' 44 18) (by decide) (law_hC2 hlu hlm) (ws' := fun v => u.1 ++ v.1) (st' := fun v => [.int (rainI Ws.length li L z1 z2 false), .int (rainI Ws.length li L z1 z2 false)]) (fun v => v.2) (fun v => law_hw2 hlu hlm ((LW_len v).trans hlm)) (fun _ => rfl) (fun v hv => ?_)
    refine x_icmp_eq ok 920 dL_law_782 (by decide) (fun _ => ?_) (fun c => absurd rfl c)
    exact law_nx ok ih (oks_0 hS) hu hv
  · skip
    obtain ⟨⟨fs, hfs⟩, hlc⟩ := CW_hd hc
    obtain ⟨⟨gs, hgs⟩, hlm⟩ := MW_hd hm
    have hcd : (wc ++ wm)[0]? = some (x, .inr (4, fs)) := by rw [List.getElem?_append_left (by omega)]; exact hfs
    refine x_aload_n ok 2 dL_law_728 rfl rfl ?_
    refine x_aload_n ok 3 dL_law_729 rfl rfl ?_
    refine x_iload_n ok 0 dL_law_730 rfl rfl ?_
    refine x_iconst ok (nI 1) dL_law_731 (by decide) ?_
    refine x_iadd ok (nI (k * 5 + 1)) dL_law_732 (nN (nI_add _ _) (by omega)) ?_
    refine x_sld ok hX hN (k * 5 + 1) (by omega) dL_law_733 ?_
    rw [← e1]
    refine x_aload_n ok 3 dL_law_734 rfl rfl ?_
    refine x_iload_n ok 0 dL_law_735 rfl rfl ?_
    refine x_iconst ok (nI 2) dL_law_736 (by decide) ?_
    refine x_iadd ok (nI (k * 5 + 2)) dL_law_737 (nN (nI_add _ _) (by omega)) ?_
    refine x_sld ok hX hN (k * 5 + 2) (by omega) dL_law_738 ?_
    rw [← e2]
    refine x_aload_n ok 3 dL_law_739 rfl rfl ?_
    refine x_iload_n ok 0 dL_law_740 rfl rfl ?_
    refine x_iconst ok (nI 3) dL_law_741 (by decide) ?_
    refine x_iadd ok (nI (k * 5 + 3)) dL_law_742 (nN (nI_add _ _) (by omega)) ?_
    refine x_sld ok hX hN (k * 5 + 3) (by omega) dL_law_743 ?_
    rw [← e3]
    refine x_if_eq ok 751 dL_law_744 (by decide) (fun c_744 => absurd c_744 (hb)) (fun c_744 => ?_)
    refine x_iconst ok (nI 1) dL_law_747 (by decide) ?_
    refine x_goto ok 752 dL_law_748 (by decide) ?_
    refine qL_107 ok (As := [.int z1, .int z2, .int (nI 1)]) (st := []) 0 hcd (P_rain (up := true) l D cI cZ cS hc hS hn) rfl (Nat.le_of_ble_eq_true rfl) (Nat.le_of_ble_eq_true rfl) (Nat.le_of_ble_eq_true rfl) dL_law_752 (List.range 44) (by decide) (law_hC1 hlc) (ws' := fun u => u.1 ++ wm) (st' := fun u => .int (rainI Ws.length li L z1 z2 true) :: []) (fun u => u.2) (fun u => law_hw1 hlc ((LW_len u).trans hlc)) (fun _ => rfl) (fun u hu => ?_)
    have hlu : u.1.length = 44 := (LW_len u).trans hlc
    have hmd : (u.1 ++ wm)[44]? = some (y, .inr (5, gs)) := by rw [List.getElem?_append_right (by omega), show 44 - u.1.length = 0 by omega]; exact hgs
    refine x_aload_n ok 1 dL_law_755 rfl rfl ?_
    refine x_aload_n ok 3 dL_law_756 rfl rfl ?_
    refine x_iload_n ok 0 dL_law_757 rfl rfl ?_
    refine x_iconst ok (nI 1) dL_law_758 (by decide) ?_
    refine x_iadd ok (nI (k * 5 + 1)) dL_law_759 (nN (nI_add _ _) (by omega)) ?_
    refine x_sld ok hX hN (k * 5 + 1) (by omega) dL_law_760 ?_
    rw [← e1]
    refine x_aload_n ok 3 dL_law_761 rfl rfl ?_
    refine x_iload_n ok 0 dL_law_762 rfl rfl ?_
    refine x_iconst ok (nI 2) dL_law_763 (by decide) ?_
    refine x_iadd ok (nI (k * 5 + 2)) dL_law_764 (nN (nI_add _ _) (by omega)) ?_
    refine x_sld ok hX hN (k * 5 + 2) (by omega) dL_law_765 ?_
    rw [← e2]
    refine x_aload_n ok 3 dL_law_766 rfl rfl ?_
    refine x_iload_n ok 0 dL_law_767 rfl rfl ?_
    refine x_iconst ok (nI 3) dL_law_768 (by decide) ?_
    refine x_iadd ok (nI (k * 5 + 3)) dL_law_769 (nN (nI_add _ _) (by omega)) ?_
    refine x_sld ok hX hN (k * 5 + 3) (by omega) dL_law_770 ?_
    rw [← e3]
    refine x_if_eq ok 778 dL_law_771 (by decide) (fun c_771 => absurd c_771 (hb)) (fun c_771 => ?_)
    refine x_iconst ok (nI 1) dL_law_774 (by decide) ?_
    refine x_goto ok 779 dL_law_775 (by decide) ?_
    refine qL_110 ok (As := [.int z1, .int z2, .int (nI 1)]) (st := [.int (rainI Ws.length li L z1 z2 true)]) 44 hmd (E_rain (up := true) l D cI cZ cS hm hS hn) rfl (Nat.le_of_ble_eq_true rfl) (Nat.le_of_ble_eq_true rfl) (Nat.le_of_ble_eq_true rfl) dL_law_779 (List.range' 44 18) (by decide) (law_hC2 hlu hlm) (ws' := fun v => u.1 ++ v.1) (st' := fun v => [.int (rainI Ws.length li L z1 z2 true), .int (rainI Ws.length li L z1 z2 true)]) (fun v => v.2) (fun v => law_hw2 hlu hlm ((LW_len v).trans hlm)) (fun _ => rfl) (fun v hv => ?_)
    refine x_icmp_eq ok 920 dL_law_782 (by decide) (fun _ => ?_) (fun c => absurd rfl c)
    exact law_nx ok ih (oks_0 hS) hu hv
set_option maxHeartbeats 4000000 in
set_option maxRecDepth 100000 in
theorem law_23 {K : KA × KB} {l : Launch} {D : va_G} {cI cZ cS : ClassId} {x y b k N : Nat} {xs : Nat → Int32} (ok : OKX K l D (TY cI cZ cS) cL_law RL 4 9 375 0 0) (hX : KXs K b N xs) (hN : N ≤ 2560) (h5 : k * 5 + 5 ≤ N) (ih : LI K cI cZ cS x y b (k + 1)) {T : List Nat} {Ws : List (Nat × Nat)} {ll : Nat} {L : List Sg} {li : Nat} {ye : Int32} {br : Int32} {As : List SS} {sk : Nat} {s0 : SS} {s1 : SS} {sd : Int64} {wc wm : va_W} (hS : OKS k T Ws L li As sk s0 s1) (hc : CW cI cS x T Ws ll L li ye br As sk s0 s1 sd wc) (hm : MW cI cZ y T Ws ll L li ye br As sk s0 s1 sd wm) : XX K (wc ++ wm) [(3, .int (nI (k * 5))), (2, .ref y), (1, .ref x), (0, .ref b)] 787 [] := by
  have hn : k ≤ 600 := by omega
  have hW4 := hS.2.1.1
  have h8 := hS.2.2.1.1
  obtain ⟨z1, e1⟩ : ∃ z, z = xs (k * 5 + 1) := ⟨_, rfl⟩
  obtain ⟨z2, e2⟩ : ∃ z, z = xs (k * 5 + 2) := ⟨_, rfl⟩
  obtain ⟨z3, e3⟩ : ∃ z, z = xs (k * 5 + 3) := ⟨_, rfl⟩
  obtain ⟨z4, e4⟩ : ∃ z, z = xs (k * 5 + 4) := ⟨_, rfl⟩
  obtain ⟨⟨fs, hfs⟩, hlc⟩ := CW_hd hc
  obtain ⟨⟨gs, hgs⟩, hlm⟩ := MW_hd hm
  have hcd : (wc ++ wm)[0]? = some (x, .inr (4, fs)) := by rw [List.getElem?_append_left (by omega)]; exact hfs
  refine x_aload_n ok 2 dL_law_787 rfl rfl ?_
  refine x_aload_n ok 3 dL_law_788 rfl rfl ?_
  refine x_iload_n ok 0 dL_law_789 rfl rfl ?_
  refine x_iconst ok (nI 1) dL_law_790 (by decide) ?_
  refine x_iadd ok (nI (k * 5 + 1)) dL_law_791 (nN (nI_add _ _) (by omega)) ?_
  refine x_sld ok hX hN (k * 5 + 1) (by omega) dL_law_792 ?_
  rw [← e1]
  refine x_i2l ok ((z1).toInt64) dL_law_793 rfl ?_
  refine x_bipush ok (nI 32) dL_law_794 (by decide) ?_
  refine x_lshl ok ((((z1).toInt64) <<< ((nI 32).toInt64 &&& 63))) dL_law_796 (rfl) ?_
  refine x_aload_n ok 3 dL_law_797 rfl rfl ?_
  refine x_iload_n ok 0 dL_law_798 rfl rfl ?_
  refine x_iconst ok (nI 2) dL_law_799 (by decide) ?_
  refine x_iadd ok (nI (k * 5 + 2)) dL_law_800 (nN (nI_add _ _) (by omega)) ?_
  refine x_sld ok hX hN (k * 5 + 2) (by omega) dL_law_801 ?_
  rw [← e2]
  refine x_i2l ok ((z2).toInt64) dL_law_802 rfl ?_
  refine x_ldc2v ok KL_111 (v' := (4294967295)) (by decide) dL_law_803 ?_
  refine x_land ok ((((z2).toInt64) &&& (4294967295))) dL_law_806 (rfl) ?_
  refine x_lor ok (((((z1).toInt64) <<< ((nI 32).toInt64 &&& 63)) ||| (((z2).toInt64) &&& (4294967295)))) dL_law_807 (rfl) ?_
  refine qL_113 ok (As := [.long ((((z1).toInt64) <<< ((nI 32).toInt64 &&& 63)) ||| (((z2).toInt64) &&& (4294967295)))]) (st := []) 0 hcd (P_seed l D cI cZ cS hc hS hn) rfl (Nat.le_of_ble_eq_true rfl) (Nat.le_of_ble_eq_true rfl) (Nat.le_of_ble_eq_true rfl) dL_law_808 (List.range 44) (by decide) (law_hC1 hlc) (ws' := fun u => u.1 ++ wm) (st' := fun u => .long sd :: []) (fun u => u.2) (fun u => law_hw1 hlc ((LW_len u).trans hlc)) (fun _ => rfl) (fun u hu => ?_)
  have hlu : u.1.length = 44 := (LW_len u).trans hlc
  have hmd : (u.1 ++ wm)[44]? = some (y, .inr (5, gs)) := by rw [List.getElem?_append_right (by omega), show 44 - u.1.length = 0 by omega]; exact hgs
  refine x_aload_n ok 1 dL_law_811 rfl rfl ?_
  refine x_aload_n ok 3 dL_law_812 rfl rfl ?_
  refine x_iload_n ok 0 dL_law_813 rfl rfl ?_
  refine x_iconst ok (nI 1) dL_law_814 (by decide) ?_
  refine x_iadd ok (nI (k * 5 + 1)) dL_law_815 (nN (nI_add _ _) (by omega)) ?_
  refine x_sld ok hX hN (k * 5 + 1) (by omega) dL_law_816 ?_
  rw [← e1]
  refine x_i2l ok ((z1).toInt64) dL_law_817 rfl ?_
  refine x_bipush ok (nI 32) dL_law_818 (by decide) ?_
  refine x_lshl ok ((((z1).toInt64) <<< ((nI 32).toInt64 &&& 63))) dL_law_820 (rfl) ?_
  refine x_aload_n ok 3 dL_law_821 rfl rfl ?_
  refine x_iload_n ok 0 dL_law_822 rfl rfl ?_
  refine x_iconst ok (nI 2) dL_law_823 (by decide) ?_
  refine x_iadd ok (nI (k * 5 + 2)) dL_law_824 (nN (nI_add _ _) (by omega)) ?_
  refine x_sld ok hX hN (k * 5 + 2) (by omega) dL_law_825 ?_
  rw [← e2]
  refine x_i2l ok ((z2).toInt64) dL_law_826 rfl ?_
  refine x_ldc2v ok KL_111 (v' := (4294967295)) (by decide) dL_law_827 ?_
  refine x_land ok ((((z2).toInt64) &&& (4294967295))) dL_law_830 (rfl) ?_
  refine x_lor ok (((((z1).toInt64) <<< ((nI 32).toInt64 &&& 63)) ||| (((z2).toInt64) &&& (4294967295)))) dL_law_831 (rfl) ?_
  refine qL_117 ok (As := [.long ((((z1).toInt64) <<< ((nI 32).toInt64 &&& 63)) ||| (((z2).toInt64) &&& (4294967295)))]) (st := [.long sd]) 44 hmd (E_seed l D cI cZ cS hm hS hn) rfl (Nat.le_of_ble_eq_true rfl) (Nat.le_of_ble_eq_true rfl) (Nat.le_of_ble_eq_true rfl) dL_law_832 (List.range' 44 18) (by decide) (law_hC2 hlu hlm) (ws' := fun v => u.1 ++ v.1) (st' := fun v => [.long sd, .long sd]) (fun v => v.2) (fun v => law_hw2 hlu hlm ((LW_len v).trans hlm)) (fun _ => rfl) (fun v hv => ?_)
  refine x_lcmp ok dL_law_835 ?_
  refine x_if_eq ok 920 dL_law_836 (by decide) (fun _ => ?_) (fun c => absurd (lg_self _) c)
  exact law_nx ok ih (oks_0 hS) hu hv
set_option maxHeartbeats 4000000 in
set_option maxRecDepth 100000 in
theorem law_24 {K : KA × KB} {l : Launch} {D : va_G} {cI cZ cS : ClassId} {x y b k N : Nat} {xs : Nat → Int32} (ok : OKX K l D (TY cI cZ cS) cL_law RL 4 9 375 0 0) (hX : KXs K b N xs) (hN : N ≤ 2560) (h5 : k * 5 + 5 ≤ N) (ih : LI K cI cZ cS x y b (k + 1)) {T : List Nat} {Ws : List (Nat × Nat)} {ll : Nat} {L : List Sg} {li : Nat} {ye : Int32} {br : Int32} {As : List SS} {sk : Nat} {s0 : SS} {s1 : SS} {sd : Int64} {wc wm : va_W} (hS : OKS k T Ws L li As sk s0 s1) (hc : CW cI cS x T Ws ll L li ye br As sk s0 s1 sd wc) (hm : MW cI cZ y T Ws ll L li ye br As sk s0 s1 sd wm) : XX K (wc ++ wm) [(3, .int (nI (k * 5))), (2, .ref y), (1, .ref x), (0, .ref b)] 841 [] := by
  have hn : k ≤ 600 := by omega
  have hW4 := hS.2.1.1
  have h8 := hS.2.2.1.1
  obtain ⟨z1, e1⟩ : ∃ z, z = xs (k * 5 + 1) := ⟨_, rfl⟩
  obtain ⟨z2, e2⟩ : ∃ z, z = xs (k * 5 + 2) := ⟨_, rfl⟩
  obtain ⟨z3, e3⟩ : ∃ z, z = xs (k * 5 + 3) := ⟨_, rfl⟩
  obtain ⟨z4, e4⟩ : ∃ z, z = xs (k * 5 + 4) := ⟨_, rfl⟩
  obtain ⟨⟨fs, hfs⟩, hlc⟩ := CW_hd hc
  obtain ⟨⟨gs, hgs⟩, hlm⟩ := MW_hd hm
  have hcd : (wc ++ wm)[0]? = some (x, .inr (4, fs)) := by rw [List.getElem?_append_left (by omega)]; exact hfs
  refine x_aload_n ok 2 dL_law_841 rfl rfl ?_
  refine x_aload_n ok 3 dL_law_842 rfl rfl ?_
  refine x_iload_n ok 0 dL_law_843 rfl rfl ?_
  refine x_iconst ok (nI 1) dL_law_844 (by decide) ?_
  refine x_iadd ok (nI (k * 5 + 1)) dL_law_845 (nN (nI_add _ _) (by omega)) ?_
  refine x_sld ok hX hN (k * 5 + 1) (by omega) dL_law_846 ?_
  rw [← e1]
  refine x_aload_n ok 3 dL_law_847 rfl rfl ?_
  refine x_iload_n ok 0 dL_law_848 rfl rfl ?_
  refine x_iconst ok (nI 2) dL_law_849 (by decide) ?_
  refine x_iadd ok (nI (k * 5 + 2)) dL_law_850 (nN (nI_add _ _) (by omega)) ?_
  refine x_sld ok hX hN (k * 5 + 2) (by omega) dL_law_851 ?_
  rw [← e2]
  refine qL_118 ok (As := [.int z1, .int z2]) (st := []) 0 hcd (P_rains l D cI cZ cS hc hS hn) rfl (Nat.le_of_ble_eq_true rfl) (Nat.le_of_ble_eq_true rfl) (Nat.le_of_ble_eq_true rfl) dL_law_852 (List.range 44) (by decide) (law_hC1 hlc) (ws' := fun u => u.1 ++ wm) (st' := fun u => .int ((rainsI (stF Ws) Ws.length li L sd z1 z2).1) :: []) (fun u => u.2) (fun u => law_hw1 hlc ((LW_len u).trans hlc)) (fun _ => rfl) (fun u hu => ?_)
  have hlu : u.1.length = 44 := (LW_len u).trans hlc
  have hmd : (u.1 ++ wm)[44]? = some (y, .inr (5, gs)) := by rw [List.getElem?_append_right (by omega), show 44 - u.1.length = 0 by omega]; exact hgs
  refine x_aload_n ok 1 dL_law_855 rfl rfl ?_
  refine x_aload_n ok 3 dL_law_856 rfl rfl ?_
  refine x_iload_n ok 0 dL_law_857 rfl rfl ?_
  refine x_iconst ok (nI 1) dL_law_858 (by decide) ?_
  refine x_iadd ok (nI (k * 5 + 1)) dL_law_859 (nN (nI_add _ _) (by omega)) ?_
  refine x_sld ok hX hN (k * 5 + 1) (by omega) dL_law_860 ?_
  rw [← e1]
  refine x_aload_n ok 3 dL_law_861 rfl rfl ?_
  refine x_iload_n ok 0 dL_law_862 rfl rfl ?_
  refine x_iconst ok (nI 2) dL_law_863 (by decide) ?_
  refine x_iadd ok (nI (k * 5 + 2)) dL_law_864 (nN (nI_add _ _) (by omega)) ?_
  refine x_sld ok hX hN (k * 5 + 2) (by omega) dL_law_865 ?_
  rw [← e2]
  refine qL_121 ok (As := [.int z1, .int z2]) (st := [.int ((rainsI (stF Ws) Ws.length li L sd z1 z2).1)]) 44 hmd (E_rains l D cI cZ cS hm hS hn) rfl (Nat.le_of_ble_eq_true rfl) (Nat.le_of_ble_eq_true rfl) (Nat.le_of_ble_eq_true rfl) dL_law_866 (List.range' 44 18) (by decide) (law_hC2 hlu hlm) (ws' := fun v => u.1 ++ v.1) (st' := fun v => [.int ((rainsI (stF Ws) Ws.length li L sd z1 z2).1), .int ((rainsI (stF Ws) Ws.length li L sd z1 z2).1)]) (fun v => v.2) (fun v => law_hw2 hlu hlm ((LW_len v).trans hlm)) (fun _ => rfl) (fun v hv => ?_)
  refine x_icmp_eq ok 920 dL_law_869 (by decide) (fun _ => ?_) (fun c => absurd rfl c)
  exact law_nx ok ih (oks_0 hS) hu hv
set_option maxHeartbeats 4000000 in
set_option maxRecDepth 100000 in
theorem law_25 {K : KA × KB} {l : Launch} {D : va_G} {cI cZ cS : ClassId} {x y b k N : Nat} {xs : Nat → Int32} (ok : OKX K l D (TY cI cZ cS) cL_law RL 4 9 375 0 0) (hX : KXs K b N xs) (hN : N ≤ 2560) (h5 : k * 5 + 5 ≤ N) (ih : LI K cI cZ cS x y b (k + 1)) {T : List Nat} {Ws : List (Nat × Nat)} {ll : Nat} {L : List Sg} {li : Nat} {ye : Int32} {br : Int32} {As : List SS} {sk : Nat} {s0 : SS} {s1 : SS} {sd : Int64} {wc wm : va_W} (hS : OKS k T Ws L li As sk s0 s1) (hc : CW cI cS x T Ws ll L li ye br As sk s0 s1 sd wc) (hm : MW cI cZ y T Ws ll L li ye br As sk s0 s1 sd wm) : XX K (wc ++ wm) [(3, .int (nI (k * 5))), (2, .ref y), (1, .ref x), (0, .ref b)] 874 [] := by
  have hn : k ≤ 600 := by omega
  have hW4 := hS.2.1.1
  have h8 := hS.2.2.1.1
  obtain ⟨z1, e1⟩ : ∃ z, z = xs (k * 5 + 1) := ⟨_, rfl⟩
  obtain ⟨z2, e2⟩ : ∃ z, z = xs (k * 5 + 2) := ⟨_, rfl⟩
  obtain ⟨z3, e3⟩ : ∃ z, z = xs (k * 5 + 3) := ⟨_, rfl⟩
  obtain ⟨z4, e4⟩ : ∃ z, z = xs (k * 5 + 4) := ⟨_, rfl⟩
  by_cases hz : inB z1 (nI 0) (nI 1) = true
  · skip
    obtain ⟨j, -, hj, rfl⟩ := inB_t (by omega) (by omega) hz
    rcases (show j = 0 ∨ j = 1 by omega) with rfl | rfl
    · skip
      obtain ⟨⟨fs, hfs⟩, hlc⟩ := CW_hd hc
      obtain ⟨⟨gs, hgs⟩, hlm⟩ := MW_hd hm
      have hcd : (wc ++ wm)[0]? = some (x, .inr (4, fs)) := by rw [List.getElem?_append_left (by omega)]; exact hfs
      refine x_aload_n ok 2 dL_law_874 rfl rfl ?_
      refine x_aload_n ok 3 dL_law_875 rfl rfl ?_
      refine x_iload_n ok 0 dL_law_876 rfl rfl ?_
      refine x_iconst ok (nI 1) dL_law_877 (by decide) ?_
      refine x_iadd ok (nI (k * 5 + 1)) dL_law_878 (nN (nI_add _ _) (by omega)) ?_
      refine x_sld ok hX hN (k * 5 + 1) (by omega) dL_law_879 ?_
      rw [← e1]
      refine qL_122 ok (As := [.int (nI 0)]) (st := []) 0 hcd (P_keepA l D cI cZ cS hc hS hn) rfl (Nat.le_of_ble_eq_true rfl) (Nat.le_of_ble_eq_true rfl) (Nat.le_of_ble_eq_true rfl) dL_law_880 (List.range 44) (by decide) (law_hC1 hlc) (ws' := fun u => u.1 ++ wm) (st' := fun u => .int (nI L.length) :: []) (fun u => u.2) (fun u => law_hw1 hlc ((LW_len u).trans hlc)) (fun _ => rfl) (fun u hu => ?_)
      have hlu : u.1.length = 44 := (LW_len u).trans hlc
      have hmd : (u.1 ++ wm)[44]? = some (y, .inr (5, gs)) := by rw [List.getElem?_append_right (by omega), show 44 - u.1.length = 0 by omega]; exact hgs
      refine x_aload_n ok 1 dL_law_883 rfl rfl ?_
      refine x_aload_n ok 3 dL_law_884 rfl rfl ?_
      refine x_iload_n ok 0 dL_law_885 rfl rfl ?_
      refine x_iconst ok (nI 1) dL_law_886 (by decide) ?_
      refine x_iadd ok (nI (k * 5 + 1)) dL_law_887 (nN (nI_add _ _) (by omega)) ?_
      refine x_sld ok hX hN (k * 5 + 1) (by omega) dL_law_888 ?_
      rw [← e1]
      refine qL_125 ok (As := [.int (nI 0)]) (st := [.int (nI L.length)]) 44 hmd (E_keepA l D cI cZ cS hm hS hn) rfl (Nat.le_of_ble_eq_true rfl) (Nat.le_of_ble_eq_true rfl) (Nat.le_of_ble_eq_true rfl) dL_law_889 (List.range' 44 18) (by decide) (law_hC2 hlu hlm) (ws' := fun v => u.1 ++ v.1) (st' := fun v => [.int (nI L.length), .int (nI L.length)]) (fun v => v.2) (fun v => law_hw2 hlu hlm ((LW_len v).trans hlm)) (fun _ => rfl) (fun v hv => ?_)
      refine x_icmp_eq ok 920 dL_law_892 (by decide) (fun _ => ?_) (fun c => absurd rfl c)
      exact law_nx ok ih (oks_keep0 hS) hu hv
    · skip
      obtain ⟨⟨fs, hfs⟩, hlc⟩ := CW_hd hc
      obtain ⟨⟨gs, hgs⟩, hlm⟩ := MW_hd hm
      have hcd : (wc ++ wm)[0]? = some (x, .inr (4, fs)) := by rw [List.getElem?_append_left (by omega)]; exact hfs
      refine x_aload_n ok 2 dL_law_874 rfl rfl ?_
      refine x_aload_n ok 3 dL_law_875 rfl rfl ?_
      refine x_iload_n ok 0 dL_law_876 rfl rfl ?_
      refine x_iconst ok (nI 1) dL_law_877 (by decide) ?_
      refine x_iadd ok (nI (k * 5 + 1)) dL_law_878 (nN (nI_add _ _) (by omega)) ?_
      refine x_sld ok hX hN (k * 5 + 1) (by omega) dL_law_879 ?_
      rw [← e1]
      refine qL_122 ok (As := [.int (nI 1)]) (st := []) 0 hcd (P_keepB l D cI cZ cS hc hS hn) rfl (Nat.le_of_ble_eq_true rfl) (Nat.le_of_ble_eq_true rfl) (Nat.le_of_ble_eq_true rfl) dL_law_880 (List.range 44) (by decide) (law_hC1 hlc) (ws' := fun u => u.1 ++ wm) (st' := fun u => .int (nI L.length) :: []) (fun u => u.2) (fun u => law_hw1 hlc ((LW_len u).trans hlc)) (fun _ => rfl) (fun u hu => ?_)
      have hlu : u.1.length = 44 := (LW_len u).trans hlc
      have hmd : (u.1 ++ wm)[44]? = some (y, .inr (5, gs)) := by rw [List.getElem?_append_right (by omega), show 44 - u.1.length = 0 by omega]; exact hgs
      refine x_aload_n ok 1 dL_law_883 rfl rfl ?_
      refine x_aload_n ok 3 dL_law_884 rfl rfl ?_
      refine x_iload_n ok 0 dL_law_885 rfl rfl ?_
      refine x_iconst ok (nI 1) dL_law_886 (by decide) ?_
      refine x_iadd ok (nI (k * 5 + 1)) dL_law_887 (nN (nI_add _ _) (by omega)) ?_
      refine x_sld ok hX hN (k * 5 + 1) (by omega) dL_law_888 ?_
      rw [← e1]
      refine qL_125 ok (As := [.int (nI 1)]) (st := [.int (nI L.length)]) 44 hmd (E_keepB l D cI cZ cS hm hS hn) rfl (Nat.le_of_ble_eq_true rfl) (Nat.le_of_ble_eq_true rfl) (Nat.le_of_ble_eq_true rfl) dL_law_889 (List.range' 44 18) (by decide) (law_hC2 hlu hlm) (ws' := fun v => u.1 ++ v.1) (st' := fun v => [.int (nI L.length), .int (nI L.length)]) (fun v => v.2) (fun v => law_hw2 hlu hlm ((LW_len v).trans hlm)) (fun _ => rfl) (fun v hv => ?_)
      refine x_icmp_eq ok 920 dL_law_892 (by decide) (fun _ => ?_) (fun c => absurd rfl c)
      exact law_nx ok ih (oks_keep1 hS) hu hv
  · skip
    obtain ⟨⟨fs, hfs⟩, hlc⟩ := CW_hd hc
    obtain ⟨⟨gs, hgs⟩, hlm⟩ := MW_hd hm
    have hcd : (wc ++ wm)[0]? = some (x, .inr (4, fs)) := by rw [List.getElem?_append_left (by omega)]; exact hfs
    refine x_aload_n ok 2 dL_law_874 rfl rfl ?_
    refine x_aload_n ok 3 dL_law_875 rfl rfl ?_
    refine x_iload_n ok 0 dL_law_876 rfl rfl ?_
    refine x_iconst ok (nI 1) dL_law_877 (by decide) ?_
    refine x_iadd ok (nI (k * 5 + 1)) dL_law_878 (nN (nI_add _ _) (by omega)) ?_
    refine x_sld ok hX hN (k * 5 + 1) (by omega) dL_law_879 ?_
    rw [← e1]
    refine qL_122 ok (As := [.int z1]) (st := []) 0 hcd (P_keep0 l D cI cZ cS hc hS hn hz) rfl (Nat.le_of_ble_eq_true rfl) (Nat.le_of_ble_eq_true rfl) (Nat.le_of_ble_eq_true rfl) dL_law_880 (List.range 44) (by decide) (law_hC1 hlc) (ws' := fun u => u.1 ++ wm) (st' := fun u => .int (-1) :: []) (fun u => u.2) (fun u => law_hw1 hlc ((LW_len u).trans hlc)) (fun _ => rfl) (fun u hu => ?_)
    have hlu : u.1.length = 44 := (LW_len u).trans hlc
    have hmd : (u.1 ++ wm)[44]? = some (y, .inr (5, gs)) := by rw [List.getElem?_append_right (by omega), show 44 - u.1.length = 0 by omega]; exact hgs
    refine x_aload_n ok 1 dL_law_883 rfl rfl ?_
    refine x_aload_n ok 3 dL_law_884 rfl rfl ?_
    refine x_iload_n ok 0 dL_law_885 rfl rfl ?_
    refine x_iconst ok (nI 1) dL_law_886 (by decide) ?_
    refine x_iadd ok (nI (k * 5 + 1)) dL_law_887 (nN (nI_add _ _) (by omega)) ?_
    refine x_sld ok hX hN (k * 5 + 1) (by omega) dL_law_888 ?_
    rw [← e1]
    refine qL_125 ok (As := [.int z1]) (st := [.int (-1)]) 44 hmd (E_keep0 l D cI cZ cS hm hS hn hz) rfl (Nat.le_of_ble_eq_true rfl) (Nat.le_of_ble_eq_true rfl) (Nat.le_of_ble_eq_true rfl) dL_law_889 (List.range' 44 18) (by decide) (law_hC2 hlu hlm) (ws' := fun v => u.1 ++ v.1) (st' := fun v => [.int (-1), .int (-1)]) (fun v => v.2) (fun v => law_hw2 hlu hlm ((LW_len v).trans hlm)) (fun _ => rfl) (fun v hv => ?_)
    refine x_icmp_eq ok 920 dL_law_892 (by decide) (fun _ => ?_) (fun c => absurd rfl c)
    exact law_nx ok ih (oks_0 hS) hu hv
set_option maxHeartbeats 4000000 in
set_option maxRecDepth 100000 in
theorem law_26 {K : KA × KB} {l : Launch} {D : va_G} {cI cZ cS : ClassId} {x y b k N : Nat} {xs : Nat → Int32} (ok : OKX K l D (TY cI cZ cS) cL_law RL 4 9 375 0 0) (hX : KXs K b N xs) (hN : N ≤ 2560) (h5 : k * 5 + 5 ≤ N) (ih : LI K cI cZ cS x y b (k + 1)) {T : List Nat} {Ws : List (Nat × Nat)} {ll : Nat} {L : List Sg} {li : Nat} {ye : Int32} {br : Int32} {As : List SS} {sk : Nat} {s0 : SS} {s1 : SS} {sd : Int64} {wc wm : va_W} (hS : OKS k T Ws L li As sk s0 s1) (hc : CW cI cS x T Ws ll L li ye br As sk s0 s1 sd wc) (hm : MW cI cZ y T Ws ll L li ye br As sk s0 s1 sd wm) : XX K (wc ++ wm) [(3, .int (nI (k * 5))), (2, .ref y), (1, .ref x), (0, .ref b)] 897 [] := by
  have hn : k ≤ 600 := by omega
  have hW4 := hS.2.1.1
  have h8 := hS.2.2.1.1
  obtain ⟨z1, e1⟩ : ∃ z, z = xs (k * 5 + 1) := ⟨_, rfl⟩
  obtain ⟨z2, e2⟩ : ∃ z, z = xs (k * 5 + 2) := ⟨_, rfl⟩
  obtain ⟨z3, e3⟩ : ∃ z, z = xs (k * 5 + 3) := ⟨_, rfl⟩
  obtain ⟨z4, e4⟩ : ∃ z, z = xs (k * 5 + 4) := ⟨_, rfl⟩
  by_cases hz : inB z1 (nI 0) (nI 1) = true
  · skip
    obtain ⟨j, -, hj, rfl⟩ := inB_t (by omega) (by omega) hz
    rcases (show j = 0 ∨ j = 1 by omega) with rfl | rfl
    · skip
      by_cases hb : sk.testBit 0 = true
      · skip
        obtain ⟨⟨fs, hfs⟩, hlc⟩ := CW_hd hc
        obtain ⟨⟨gs, hgs⟩, hlm⟩ := MW_hd hm
        have hcd : (wc ++ wm)[0]? = some (x, .inr (4, fs)) := by rw [List.getElem?_append_left (by omega)]; exact hfs
        refine x_aload_n ok 2 dL_law_897 rfl rfl ?_
        refine x_aload_n ok 3 dL_law_898 rfl rfl ?_
        refine x_iload_n ok 0 dL_law_899 rfl rfl ?_
        refine x_iconst ok (nI 1) dL_law_900 (by decide) ?_
        refine x_iadd ok (nI (k * 5 + 1)) dL_law_901 (nN (nI_add _ _) (by omega)) ?_
        refine x_sld ok hX hN (k * 5 + 1) (by omega) dL_law_902 ?_
        rw [← e1]
        refine qL_126 ok (As := [.int (nI 0)]) (st := []) 0 hcd (P_againA l D cI cZ cS hc hS hn hb) rfl (Nat.le_of_ble_eq_true rfl) (Nat.le_of_ble_eq_true rfl) (Nat.le_of_ble_eq_true rfl) dL_law_903 (List.range 44) (by decide) (law_hC1 hlc) (ws' := fun u => u.1 ++ wm) (st' := fun u => .int (nI s0.1.length) :: []) (fun u => u.2) (fun u => law_hw1 hlc ((LW_len u).trans hlc)) (fun _ => rfl) (fun u hu => ?_)
        have hlu : u.1.length = 44 := (LW_len u).trans hlc
        have hmd : (u.1 ++ wm)[44]? = some (y, .inr (5, gs)) := by rw [List.getElem?_append_right (by omega), show 44 - u.1.length = 0 by omega]; exact hgs
        refine x_aload_n ok 1 dL_law_906 rfl rfl ?_
        refine x_aload_n ok 3 dL_law_907 rfl rfl ?_
        refine x_iload_n ok 0 dL_law_908 rfl rfl ?_
        refine x_iconst ok (nI 1) dL_law_909 (by decide) ?_
        refine x_iadd ok (nI (k * 5 + 1)) dL_law_910 (nN (nI_add _ _) (by omega)) ?_
        refine x_sld ok hX hN (k * 5 + 1) (by omega) dL_law_911 ?_
        rw [← e1]
        refine qL_129 ok (As := [.int (nI 0)]) (st := [.int (nI s0.1.length)]) 44 hmd (E_againA l D cI cZ cS hm hS hn hb) rfl (Nat.le_of_ble_eq_true rfl) (Nat.le_of_ble_eq_true rfl) (Nat.le_of_ble_eq_true rfl) dL_law_912 (List.range' 44 18) (by decide) (law_hC2 hlu hlm) (ws' := fun v => u.1 ++ v.1) (st' := fun v => [.int (nI s0.1.length), .int (nI s0.1.length)]) (fun v => v.2) (fun v => law_hw2 hlu hlm ((LW_len v).trans hlm)) (fun _ => rfl) (fun v hv => ?_)
        refine x_icmp_eq ok 920 dL_law_915 (by decide) (fun _ => ?_) (fun c => absurd rfl c)
        exact law_nx ok ih (oks_again hS (hS.2.2.2.2.2.2.2.1 hb)) hu hv
      · skip
        obtain ⟨⟨fs, hfs⟩, hlc⟩ := CW_hd hc
        obtain ⟨⟨gs, hgs⟩, hlm⟩ := MW_hd hm
        have hcd : (wc ++ wm)[0]? = some (x, .inr (4, fs)) := by rw [List.getElem?_append_left (by omega)]; exact hfs
        refine x_aload_n ok 2 dL_law_897 rfl rfl ?_
        refine x_aload_n ok 3 dL_law_898 rfl rfl ?_
        refine x_iload_n ok 0 dL_law_899 rfl rfl ?_
        refine x_iconst ok (nI 1) dL_law_900 (by decide) ?_
        refine x_iadd ok (nI (k * 5 + 1)) dL_law_901 (nN (nI_add _ _) (by omega)) ?_
        refine x_sld ok hX hN (k * 5 + 1) (by omega) dL_law_902 ?_
        rw [← e1]
        refine qL_126 ok (As := [.int (nI 0)]) (st := []) 0 hcd (P_againNA l D cI cZ cS hc hS hn (by simpa using hb)) rfl (Nat.le_of_ble_eq_true rfl) (Nat.le_of_ble_eq_true rfl) (Nat.le_of_ble_eq_true rfl) dL_law_903 (List.range 44) (by decide) (law_hC1 hlc) (ws' := fun u => u.1 ++ wm) (st' := fun u => .int (-3) :: []) (fun u => u.2) (fun u => law_hw1 hlc ((LW_len u).trans hlc)) (fun _ => rfl) (fun u hu => ?_)
        have hlu : u.1.length = 44 := (LW_len u).trans hlc
        have hmd : (u.1 ++ wm)[44]? = some (y, .inr (5, gs)) := by rw [List.getElem?_append_right (by omega), show 44 - u.1.length = 0 by omega]; exact hgs
        refine x_aload_n ok 1 dL_law_906 rfl rfl ?_
        refine x_aload_n ok 3 dL_law_907 rfl rfl ?_
        refine x_iload_n ok 0 dL_law_908 rfl rfl ?_
        refine x_iconst ok (nI 1) dL_law_909 (by decide) ?_
        refine x_iadd ok (nI (k * 5 + 1)) dL_law_910 (nN (nI_add _ _) (by omega)) ?_
        refine x_sld ok hX hN (k * 5 + 1) (by omega) dL_law_911 ?_
        rw [← e1]
        refine qL_129 ok (As := [.int (nI 0)]) (st := [.int (-3)]) 44 hmd (E_againNA l D cI cZ cS hm hS hn (by simpa using hb)) rfl (Nat.le_of_ble_eq_true rfl) (Nat.le_of_ble_eq_true rfl) (Nat.le_of_ble_eq_true rfl) dL_law_912 (List.range' 44 18) (by decide) (law_hC2 hlu hlm) (ws' := fun v => u.1 ++ v.1) (st' := fun v => [.int (-3), .int (-3)]) (fun v => v.2) (fun v => law_hw2 hlu hlm ((LW_len v).trans hlm)) (fun _ => rfl) (fun v hv => ?_)
        refine x_icmp_eq ok 920 dL_law_915 (by decide) (fun _ => ?_) (fun c => absurd rfl c)
        exact law_nx ok ih (oks_0 hS) hu hv
    · skip
      by_cases hb : sk.testBit 1 = true
      · skip
        obtain ⟨⟨fs, hfs⟩, hlc⟩ := CW_hd hc
        obtain ⟨⟨gs, hgs⟩, hlm⟩ := MW_hd hm
        have hcd : (wc ++ wm)[0]? = some (x, .inr (4, fs)) := by rw [List.getElem?_append_left (by omega)]; exact hfs
        refine x_aload_n ok 2 dL_law_897 rfl rfl ?_
        refine x_aload_n ok 3 dL_law_898 rfl rfl ?_
        refine x_iload_n ok 0 dL_law_899 rfl rfl ?_
        refine x_iconst ok (nI 1) dL_law_900 (by decide) ?_
        refine x_iadd ok (nI (k * 5 + 1)) dL_law_901 (nN (nI_add _ _) (by omega)) ?_
        refine x_sld ok hX hN (k * 5 + 1) (by omega) dL_law_902 ?_
        rw [← e1]
        refine qL_126 ok (As := [.int (nI 1)]) (st := []) 0 hcd (P_againB l D cI cZ cS hc hS hn hb) rfl (Nat.le_of_ble_eq_true rfl) (Nat.le_of_ble_eq_true rfl) (Nat.le_of_ble_eq_true rfl) dL_law_903 (List.range 44) (by decide) (law_hC1 hlc) (ws' := fun u => u.1 ++ wm) (st' := fun u => .int (nI s1.1.length) :: []) (fun u => u.2) (fun u => law_hw1 hlc ((LW_len u).trans hlc)) (fun _ => rfl) (fun u hu => ?_)
        have hlu : u.1.length = 44 := (LW_len u).trans hlc
        have hmd : (u.1 ++ wm)[44]? = some (y, .inr (5, gs)) := by rw [List.getElem?_append_right (by omega), show 44 - u.1.length = 0 by omega]; exact hgs
        refine x_aload_n ok 1 dL_law_906 rfl rfl ?_
        refine x_aload_n ok 3 dL_law_907 rfl rfl ?_
        refine x_iload_n ok 0 dL_law_908 rfl rfl ?_
        refine x_iconst ok (nI 1) dL_law_909 (by decide) ?_
        refine x_iadd ok (nI (k * 5 + 1)) dL_law_910 (nN (nI_add _ _) (by omega)) ?_
        refine x_sld ok hX hN (k * 5 + 1) (by omega) dL_law_911 ?_
        rw [← e1]
        refine qL_129 ok (As := [.int (nI 1)]) (st := [.int (nI s1.1.length)]) 44 hmd (E_againB l D cI cZ cS hm hS hn hb) rfl (Nat.le_of_ble_eq_true rfl) (Nat.le_of_ble_eq_true rfl) (Nat.le_of_ble_eq_true rfl) dL_law_912 (List.range' 44 18) (by decide) (law_hC2 hlu hlm) (ws' := fun v => u.1 ++ v.1) (st' := fun v => [.int (nI s1.1.length), .int (nI s1.1.length)]) (fun v => v.2) (fun v => law_hw2 hlu hlm ((LW_len v).trans hlm)) (fun _ => rfl) (fun v hv => ?_)
        refine x_icmp_eq ok 920 dL_law_915 (by decide) (fun _ => ?_) (fun c => absurd rfl c)
        exact law_nx ok ih (oks_again hS (hS.2.2.2.2.2.2.2.2 hb)) hu hv
      · skip
        obtain ⟨⟨fs, hfs⟩, hlc⟩ := CW_hd hc
        obtain ⟨⟨gs, hgs⟩, hlm⟩ := MW_hd hm
        have hcd : (wc ++ wm)[0]? = some (x, .inr (4, fs)) := by rw [List.getElem?_append_left (by omega)]; exact hfs
        refine x_aload_n ok 2 dL_law_897 rfl rfl ?_
        refine x_aload_n ok 3 dL_law_898 rfl rfl ?_
        refine x_iload_n ok 0 dL_law_899 rfl rfl ?_
        refine x_iconst ok (nI 1) dL_law_900 (by decide) ?_
        refine x_iadd ok (nI (k * 5 + 1)) dL_law_901 (nN (nI_add _ _) (by omega)) ?_
        refine x_sld ok hX hN (k * 5 + 1) (by omega) dL_law_902 ?_
        rw [← e1]
        refine qL_126 ok (As := [.int (nI 1)]) (st := []) 0 hcd (P_againNB l D cI cZ cS hc hS hn (by simpa using hb)) rfl (Nat.le_of_ble_eq_true rfl) (Nat.le_of_ble_eq_true rfl) (Nat.le_of_ble_eq_true rfl) dL_law_903 (List.range 44) (by decide) (law_hC1 hlc) (ws' := fun u => u.1 ++ wm) (st' := fun u => .int (-3) :: []) (fun u => u.2) (fun u => law_hw1 hlc ((LW_len u).trans hlc)) (fun _ => rfl) (fun u hu => ?_)
        have hlu : u.1.length = 44 := (LW_len u).trans hlc
        have hmd : (u.1 ++ wm)[44]? = some (y, .inr (5, gs)) := by rw [List.getElem?_append_right (by omega), show 44 - u.1.length = 0 by omega]; exact hgs
        refine x_aload_n ok 1 dL_law_906 rfl rfl ?_
        refine x_aload_n ok 3 dL_law_907 rfl rfl ?_
        refine x_iload_n ok 0 dL_law_908 rfl rfl ?_
        refine x_iconst ok (nI 1) dL_law_909 (by decide) ?_
        refine x_iadd ok (nI (k * 5 + 1)) dL_law_910 (nN (nI_add _ _) (by omega)) ?_
        refine x_sld ok hX hN (k * 5 + 1) (by omega) dL_law_911 ?_
        rw [← e1]
        refine qL_129 ok (As := [.int (nI 1)]) (st := [.int (-3)]) 44 hmd (E_againNB l D cI cZ cS hm hS hn (by simpa using hb)) rfl (Nat.le_of_ble_eq_true rfl) (Nat.le_of_ble_eq_true rfl) (Nat.le_of_ble_eq_true rfl) dL_law_912 (List.range' 44 18) (by decide) (law_hC2 hlu hlm) (ws' := fun v => u.1 ++ v.1) (st' := fun v => [.int (-3), .int (-3)]) (fun v => v.2) (fun v => law_hw2 hlu hlm ((LW_len v).trans hlm)) (fun _ => rfl) (fun v hv => ?_)
        refine x_icmp_eq ok 920 dL_law_915 (by decide) (fun _ => ?_) (fun c => absurd rfl c)
        exact law_nx ok ih (oks_0 hS) hu hv
  · skip
    obtain ⟨⟨fs, hfs⟩, hlc⟩ := CW_hd hc
    obtain ⟨⟨gs, hgs⟩, hlm⟩ := MW_hd hm
    have hcd : (wc ++ wm)[0]? = some (x, .inr (4, fs)) := by rw [List.getElem?_append_left (by omega)]; exact hfs
    refine x_aload_n ok 2 dL_law_897 rfl rfl ?_
    refine x_aload_n ok 3 dL_law_898 rfl rfl ?_
    refine x_iload_n ok 0 dL_law_899 rfl rfl ?_
    refine x_iconst ok (nI 1) dL_law_900 (by decide) ?_
    refine x_iadd ok (nI (k * 5 + 1)) dL_law_901 (nN (nI_add _ _) (by omega)) ?_
    refine x_sld ok hX hN (k * 5 + 1) (by omega) dL_law_902 ?_
    rw [← e1]
    refine qL_126 ok (As := [.int z1]) (st := []) 0 hcd (P_again0 l D cI cZ cS hc hS hn hz) rfl (Nat.le_of_ble_eq_true rfl) (Nat.le_of_ble_eq_true rfl) (Nat.le_of_ble_eq_true rfl) dL_law_903 (List.range 44) (by decide) (law_hC1 hlc) (ws' := fun u => u.1 ++ wm) (st' := fun u => .int (-1) :: []) (fun u => u.2) (fun u => law_hw1 hlc ((LW_len u).trans hlc)) (fun _ => rfl) (fun u hu => ?_)
    have hlu : u.1.length = 44 := (LW_len u).trans hlc
    have hmd : (u.1 ++ wm)[44]? = some (y, .inr (5, gs)) := by rw [List.getElem?_append_right (by omega), show 44 - u.1.length = 0 by omega]; exact hgs
    refine x_aload_n ok 1 dL_law_906 rfl rfl ?_
    refine x_aload_n ok 3 dL_law_907 rfl rfl ?_
    refine x_iload_n ok 0 dL_law_908 rfl rfl ?_
    refine x_iconst ok (nI 1) dL_law_909 (by decide) ?_
    refine x_iadd ok (nI (k * 5 + 1)) dL_law_910 (nN (nI_add _ _) (by omega)) ?_
    refine x_sld ok hX hN (k * 5 + 1) (by omega) dL_law_911 ?_
    rw [← e1]
    refine qL_129 ok (As := [.int z1]) (st := [.int (-1)]) 44 hmd (E_again0 l D cI cZ cS hm hS hn hz) rfl (Nat.le_of_ble_eq_true rfl) (Nat.le_of_ble_eq_true rfl) (Nat.le_of_ble_eq_true rfl) dL_law_912 (List.range' 44 18) (by decide) (law_hC2 hlu hlm) (ws' := fun v => u.1 ++ v.1) (st' := fun v => [.int (-1), .int (-1)]) (fun v => v.2) (fun v => law_hw2 hlu hlm ((LW_len v).trans hlm)) (fun _ => rfl) (fun v hv => ?_)
    refine x_icmp_eq ok 920 dL_law_915 (by decide) (fun _ => ?_) (fun c => absurd rfl c)
    exact law_nx ok ih (oks_0 hS) hu hv
