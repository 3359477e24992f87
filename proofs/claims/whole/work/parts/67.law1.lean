set_option maxHeartbeats 4000000 in
set_option maxRecDepth 100000 in
theorem law_0 {K : KA × KB} {l : Launch} {D : va_G} {cI cZ cS : ClassId} {x y b k N : Nat} {xs : Nat → Int32} (ok : OKX K l D (TY cI cZ cS) cL_law RL 4 9 375 0 0) (hX : KXs K b N xs) (hN : N ≤ 2560) (h5 : k * 5 + 5 ≤ N) (ih : LI K cI cZ cS x y b (k + 1)) {T : List Nat} {Ws : List (Nat × Nat)} {ll : Nat} {L : List Sg} {li : Nat} {ye : Int32} {br : Int32} {As : List SS} {sk : Nat} {s0 : SS} {s1 : SS} {sd : Int64} {wc wm : va_W} (hS : OKS k T Ws L li As sk s0 s1) (hc : CW cI cS x T Ws ll L li ye br As sk s0 s1 sd wc) (hm : MW cI cZ y T Ws ll L li ye br As sk s0 s1 sd wm) : XX K (wc ++ wm) [(3, .int (nI (k * 5))), (2, .ref y), (1, .ref x), (0, .ref b)] 156 [] := by
  have hn : k ≤ 600 := by omega
  have hW4 := hS.2.1.1
  have h8 := hS.2.2.1.1
  obtain ⟨z1, e1⟩ : ∃ z, z = xs (k * 5 + 1) := ⟨_, rfl⟩
  obtain ⟨z2, e2⟩ : ∃ z, z = xs (k * 5 + 2) := ⟨_, rfl⟩
  obtain ⟨z3, e3⟩ : ∃ z, z = xs (k * 5 + 3) := ⟨_, rfl⟩
  obtain ⟨z4, e4⟩ : ∃ z, z = xs (k * 5 + 4) := ⟨_, rfl⟩
  by_cases hz : inB z1 (nI 0) (nI 255) = true
  · skip
    obtain ⟨j, -, hj, rfl⟩ := inB_t (by omega) (by omega) hz
    obtain ⟨⟨fs, hfs⟩, hlc⟩ := CW_hd hc
    obtain ⟨⟨gs, hgs⟩, hlm⟩ := MW_hd hm
    have hcd : (wc ++ wm)[0]? = some (x, .inr (4, fs)) := by rw [List.getElem?_append_left (by omega)]; exact hfs
    refine x_aload_n ok 2 dL_law_156 rfl rfl ?_
    refine x_aload_n ok 3 dL_law_157 rfl rfl ?_
    refine x_iload_n ok 0 dL_law_158 rfl rfl ?_
    refine x_iconst ok (nI 1) dL_law_159 (by decide) ?_
    refine x_iadd ok (nI (k * 5 + 1)) dL_law_160 (nN (nI_add _ _) (by omega)) ?_
    refine x_sld ok hX hN (k * 5 + 1) (by omega) dL_law_161 ?_
    rw [← e1]
    refine qL_13 ok (As := [.int (nI j)]) (st := []) 0 hcd (P_write1 l D cI cZ cS hc hS hn hj) rfl (Nat.le_of_ble_eq_true rfl) (Nat.le_of_ble_eq_true rfl) (Nat.le_of_ble_eq_true rfl) dL_law_162 (List.range 44) (by decide) (law_hC1 hlc) (ws' := fun u => u.1 ++ wm) (st' := fun u => .int (wrC T (nI j)) :: []) (fun u => u.2) (fun u => law_hw1 hlc ((LW_len u).trans hlc)) (fun _ => rfl) (fun u hu => ?_)
    have hlu : u.1.length = 44 := (LW_len u).trans hlc
    have hmd : (u.1 ++ wm)[44]? = some (y, .inr (5, gs)) := by rw [List.getElem?_append_right (by omega), show 44 - u.1.length = 0 by omega]; exact hgs
    refine x_aload_n ok 1 dL_law_165 rfl rfl ?_
    refine x_aload_n ok 3 dL_law_166 rfl rfl ?_
    refine x_iload_n ok 0 dL_law_167 rfl rfl ?_
    refine x_iconst ok (nI 1) dL_law_168 (by decide) ?_
    refine x_iadd ok (nI (k * 5 + 1)) dL_law_169 (nN (nI_add _ _) (by omega)) ?_
    refine x_sld ok hX hN (k * 5 + 1) (by omega) dL_law_170 ?_
    rw [← e1]
    refine qL_17 ok (As := [.int (nI j)]) (st := [.int (wrC T (nI j))]) 44 hmd (E_write1 l D cI cZ cS hm hS hn hj) rfl (Nat.le_of_ble_eq_true rfl) (Nat.le_of_ble_eq_true rfl) (Nat.le_of_ble_eq_true rfl) dL_law_171 (List.range' 44 18) (by decide) (law_hC2 hlu hlm) (ws' := fun v => u.1 ++ v.1) (st' := fun v => [.int (wrC T (nI j)), .int (wrC T (nI j))]) (fun v => v.2) (fun v => law_hw2 hlu hlm ((LW_len v).trans hlm)) (fun _ => rfl) (fun v hv => ?_)
    refine x_icmp_eq ok 920 dL_law_174 (by decide) (fun _ => ?_) (fun c => absurd rfl c)
    exact law_nx ok ih (oks_T hS (okT_app hS.1 (by omega))) hu hv
  · skip
    obtain ⟨⟨fs, hfs⟩, hlc⟩ := CW_hd hc
    obtain ⟨⟨gs, hgs⟩, hlm⟩ := MW_hd hm
    have hcd : (wc ++ wm)[0]? = some (x, .inr (4, fs)) := by rw [List.getElem?_append_left (by omega)]; exact hfs
    refine x_aload_n ok 2 dL_law_156 rfl rfl ?_
    refine x_aload_n ok 3 dL_law_157 rfl rfl ?_
    refine x_iload_n ok 0 dL_law_158 rfl rfl ?_
    refine x_iconst ok (nI 1) dL_law_159 (by decide) ?_
    refine x_iadd ok (nI (k * 5 + 1)) dL_law_160 (nN (nI_add _ _) (by omega)) ?_
    refine x_sld ok hX hN (k * 5 + 1) (by omega) dL_law_161 ?_
    rw [← e1]
    refine qL_13 ok (As := [.int z1]) (st := []) 0 hcd (P_write0 l D cI cZ cS hc hS hn hz) rfl (Nat.le_of_ble_eq_true rfl) (Nat.le_of_ble_eq_true rfl) (Nat.le_of_ble_eq_true rfl) dL_law_162 (List.range 44) (by decide) (law_hC1 hlc) (ws' := fun u => u.1 ++ wm) (st' := fun u => .int (wrC T z1) :: []) (fun u => u.2) (fun u => law_hw1 hlc ((LW_len u).trans hlc)) (fun _ => rfl) (fun u hu => ?_)
    have hlu : u.1.length = 44 := (LW_len u).trans hlc
    have hmd : (u.1 ++ wm)[44]? = some (y, .inr (5, gs)) := by rw [List.getElem?_append_right (by omega), show 44 - u.1.length = 0 by omega]; exact hgs
    refine x_aload_n ok 1 dL_law_165 rfl rfl ?_
    refine x_aload_n ok 3 dL_law_166 rfl rfl ?_
    refine x_iload_n ok 0 dL_law_167 rfl rfl ?_
    refine x_iconst ok (nI 1) dL_law_168 (by decide) ?_
    refine x_iadd ok (nI (k * 5 + 1)) dL_law_169 (nN (nI_add _ _) (by omega)) ?_
    refine x_sld ok hX hN (k * 5 + 1) (by omega) dL_law_170 ?_
    rw [← e1]
    refine qL_17 ok (As := [.int z1]) (st := [.int (wrC T z1)]) 44 hmd (E_write0 l D cI cZ cS hm hS hn hz) rfl (Nat.le_of_ble_eq_true rfl) (Nat.le_of_ble_eq_true rfl) (Nat.le_of_ble_eq_true rfl) dL_law_171 (List.range' 44 18) (by decide) (law_hC2 hlu hlm) (ws' := fun v => u.1 ++ v.1) (st' := fun v => [.int (wrC T z1), .int (wrC T z1)]) (fun v => v.2) (fun v => law_hw2 hlu hlm ((LW_len v).trans hlm)) (fun _ => rfl) (fun v hv => ?_)
    refine x_icmp_eq ok 920 dL_law_174 (by decide) (fun _ => ?_) (fun c => absurd rfl c)
    exact law_nx ok ih (oks_0 hS) hu hv
set_option maxHeartbeats 4000000 in
set_option maxRecDepth 100000 in
theorem law_1 {K : KA × KB} {l : Launch} {D : va_G} {cI cZ cS : ClassId} {x y b k N : Nat} {xs : Nat → Int32} (ok : OKX K l D (TY cI cZ cS) cL_law RL 4 9 375 0 0) (hX : KXs K b N xs) (hN : N ≤ 2560) (h5 : k * 5 + 5 ≤ N) (ih : LI K cI cZ cS x y b (k + 1)) {T : List Nat} {Ws : List (Nat × Nat)} {ll : Nat} {L : List Sg} {li : Nat} {ye : Int32} {br : Int32} {As : List SS} {sk : Nat} {s0 : SS} {s1 : SS} {sd : Int64} {wc wm : va_W} (hS : OKS k T Ws L li As sk s0 s1) (hc : CW cI cS x T Ws ll L li ye br As sk s0 s1 sd wc) (hm : MW cI cZ y T Ws ll L li ye br As sk s0 s1 sd wm) : XX K (wc ++ wm) [(3, .int (nI (k * 5))), (2, .ref y), (1, .ref x), (0, .ref b)] 179 [] := by
  have hn : k ≤ 600 := by omega
  have hW4 := hS.2.1.1
  have h8 := hS.2.2.1.1
  obtain ⟨z1, e1⟩ : ∃ z, z = xs (k * 5 + 1) := ⟨_, rfl⟩
  obtain ⟨z2, e2⟩ : ∃ z, z = xs (k * 5 + 2) := ⟨_, rfl⟩
  obtain ⟨z3, e3⟩ : ∃ z, z = xs (k * 5 + 3) := ⟨_, rfl⟩
  obtain ⟨z4, e4⟩ : ∃ z, z = xs (k * 5 + 4) := ⟨_, rfl⟩
  obtain ⟨⟨fs, hfs⟩, hlc⟩ := CW_hd hc
  obtain ⟨⟨gs, hgs⟩, hlm⟩ := MW_hd hm
  have hcd : (wc ++ wm)[0]? = some (x, .inr (4, fs)) := by rw [List.getElem?_append_left (by omega)]; exact hfs
  refine x_aload_n ok 2 dL_law_179 rfl rfl ?_
  refine qL_18 ok (As := []) (st := []) 0 hcd (P_wipe l D cI cZ cS hc hS hn) rfl (Nat.le_of_ble_eq_true rfl) (Nat.le_of_ble_eq_true rfl) (Nat.le_of_ble_eq_true rfl) dL_law_180 (List.range 44) (by decide) (law_hC1 hlc) (ws' := fun u => u.1 ++ wm) (st' := fun u => .int (nI T.length) :: []) (fun u => u.2) (fun u => law_hw1 hlc ((LW_len u).trans hlc)) (fun _ => rfl) (fun u hu => ?_)
  have hlu : u.1.length = 44 := (LW_len u).trans hlc
  have hmd : (u.1 ++ wm)[44]? = some (y, .inr (5, gs)) := by rw [List.getElem?_append_right (by omega), show 44 - u.1.length = 0 by omega]; exact hgs
  refine x_aload_n ok 1 dL_law_183 rfl rfl ?_
  refine qL_22 ok (As := []) (st := [.int (nI T.length)]) 44 hmd (E_wipe l D cI cZ cS hm hS hn) rfl (Nat.le_of_ble_eq_true rfl) (Nat.le_of_ble_eq_true rfl) (Nat.le_of_ble_eq_true rfl) dL_law_184 (List.range' 44 18) (by decide) (law_hC2 hlu hlm) (ws' := fun v => u.1 ++ v.1) (st' := fun v => [.int (nI T.length), .int (nI T.length)]) (fun v => v.2) (fun v => law_hw2 hlu hlm ((LW_len v).trans hlm)) (fun _ => rfl) (fun v hv => ?_)
  refine x_icmp_eq ok 920 dL_law_187 (by decide) (fun _ => ?_) (fun c => absurd rfl c)
  exact law_nx ok ih (oks_T (T2 := []) hS ⟨Nat.zero_le _, fun j hj => absurd hj (Nat.not_lt_zero j)⟩) hu hv
set_option maxHeartbeats 4000000 in
set_option maxRecDepth 100000 in
theorem law_2 {K : KA × KB} {l : Launch} {D : va_G} {cI cZ cS : ClassId} {x y b k N : Nat} {xs : Nat → Int32} (ok : OKX K l D (TY cI cZ cS) cL_law RL 4 9 375 0 0) (hX : KXs K b N xs) (hN : N ≤ 2560) (h5 : k * 5 + 5 ≤ N) (ih : LI K cI cZ cS x y b (k + 1)) {T : List Nat} {Ws : List (Nat × Nat)} {ll : Nat} {L : List Sg} {li : Nat} {ye : Int32} {br : Int32} {As : List SS} {sk : Nat} {s0 : SS} {s1 : SS} {sd : Int64} {wc wm : va_W} (hS : OKS k T Ws L li As sk s0 s1) (hc : CW cI cS x T Ws ll L li ye br As sk s0 s1 sd wc) (hm : MW cI cZ y T Ws ll L li ye br As sk s0 s1 sd wm) : XX K (wc ++ wm) [(3, .int (nI (k * 5))), (2, .ref y), (1, .ref x), (0, .ref b)] 192 [] := by
  have hn : k ≤ 600 := by omega
  have hW4 := hS.2.1.1
  have h8 := hS.2.2.1.1
  obtain ⟨z1, e1⟩ : ∃ z, z = xs (k * 5 + 1) := ⟨_, rfl⟩
  obtain ⟨z2, e2⟩ : ∃ z, z = xs (k * 5 + 2) := ⟨_, rfl⟩
  obtain ⟨z3, e3⟩ : ∃ z, z = xs (k * 5 + 3) := ⟨_, rfl⟩
  obtain ⟨z4, e4⟩ : ∃ z, z = xs (k * 5 + 4) := ⟨_, rfl⟩
  obtain ⟨⟨fs, hfs⟩, hlc⟩ := CW_hd hc
  obtain ⟨⟨gs, hgs⟩, hlm⟩ := MW_hd hm
  have hcd : (wc ++ wm)[0]? = some (x, .inr (4, fs)) := by rw [List.getElem?_append_left (by omega)]; exact hfs
  refine x_aload_n ok 2 dL_law_192 rfl rfl ?_
  refine qL_23 ok (As := []) (st := []) 0 hcd (P_fault l D cI cZ cS hc hS hn) rfl (Nat.le_of_ble_eq_true rfl) (Nat.le_of_ble_eq_true rfl) (Nat.le_of_ble_eq_true rfl) dL_law_193 (List.range 44) (by decide) (law_hC1 hlc) (ws' := fun u => u.1 ++ wm) (st' := fun u => .int ((landP T).1) :: []) (fun u => u.2) (fun u => law_hw1 hlc ((LW_len u).trans hlc)) (fun _ => rfl) (fun u hu => ?_)
  have hlu : u.1.length = 44 := (LW_len u).trans hlc
  have hmd : (u.1 ++ wm)[44]? = some (y, .inr (5, gs)) := by rw [List.getElem?_append_right (by omega), show 44 - u.1.length = 0 by omega]; exact hgs
  refine x_aload_n ok 1 dL_law_196 rfl rfl ?_
  refine qL_26 ok (As := []) (st := [.int ((landP T).1)]) 44 hmd (E_fault l D cI cZ cS hm hS hn) rfl (Nat.le_of_ble_eq_true rfl) (Nat.le_of_ble_eq_true rfl) (Nat.le_of_ble_eq_true rfl) dL_law_197 (List.range' 44 18) (by decide) (law_hC2 hlu hlm) (ws' := fun v => u.1 ++ v.1) (st' := fun v => [.int ((landP T).1), .int ((landP T).1)]) (fun v => v.2) (fun v => law_hw2 hlu hlm ((LW_len v).trans hlm)) (fun _ => rfl) (fun v hv => ?_)
  refine x_icmp_eq ok 920 dL_law_200 (by decide) (fun _ => ?_) (fun c => absurd rfl c)
  exact law_nx ok ih (oks_0 hS) hu hv
set_option maxHeartbeats 4000000 in
set_option maxRecDepth 100000 in
theorem law_3 {K : KA × KB} {l : Launch} {D : va_G} {cI cZ cS : ClassId} {x y b k N : Nat} {xs : Nat → Int32} (ok : OKX K l D (TY cI cZ cS) cL_law RL 4 9 375 0 0) (hX : KXs K b N xs) (hN : N ≤ 2560) (h5 : k * 5 + 5 ≤ N) (ih : LI K cI cZ cS x y b (k + 1)) {T : List Nat} {Ws : List (Nat × Nat)} {ll : Nat} {L : List Sg} {li : Nat} {ye : Int32} {br : Int32} {As : List SS} {sk : Nat} {s0 : SS} {s1 : SS} {sd : Int64} {wc wm : va_W} (hS : OKS k T Ws L li As sk s0 s1) (hc : CW cI cS x T Ws ll L li ye br As sk s0 s1 sd wc) (hm : MW cI cZ y T Ws ll L li ye br As sk s0 s1 sd wm) : XX K (wc ++ wm) [(3, .int (nI (k * 5))), (2, .ref y), (1, .ref x), (0, .ref b)] 205 [] := by
  have hn : k ≤ 600 := by omega
  have hW4 := hS.2.1.1
  have h8 := hS.2.2.1.1
  obtain ⟨z1, e1⟩ : ∃ z, z = xs (k * 5 + 1) := ⟨_, rfl⟩
  obtain ⟨z2, e2⟩ : ∃ z, z = xs (k * 5 + 2) := ⟨_, rfl⟩
  obtain ⟨z3, e3⟩ : ∃ z, z = xs (k * 5 + 3) := ⟨_, rfl⟩
  obtain ⟨z4, e4⟩ : ∃ z, z = xs (k * 5 + 4) := ⟨_, rfl⟩
  by_cases h9 : (landP T).1 = -9
  · skip
    obtain ⟨⟨fs, hfs⟩, hlc⟩ := CW_hd hc
    obtain ⟨⟨gs, hgs⟩, hlm⟩ := MW_hd hm
    have hcd : (wc ++ wm)[0]? = some (x, .inr (4, fs)) := by rw [List.getElem?_append_left (by omega)]; exact hfs
    refine x_aload_n ok 2 dL_law_205 rfl rfl ?_
    refine qL_27 ok (As := []) (st := []) 0 hcd (P_land1 l D cI cZ cS hc hS hn h9) rfl (Nat.le_of_ble_eq_true rfl) (Nat.le_of_ble_eq_true rfl) (Nat.le_of_ble_eq_true rfl) dL_law_206 (List.range 44) (by decide) (law_hC1 hlc) (ws' := fun u => u.1 ++ wm) (st' := fun u => .int (nI (10 * (landP T).2.1.length + (landP T).2.2.length)) :: []) (fun u => u.2) (fun u => law_hw1 hlc ((LW_len u).trans hlc)) (fun _ => rfl) (fun u hu => ?_)
    have hlu : u.1.length = 44 := (LW_len u).trans hlc
    have hmd : (u.1 ++ wm)[44]? = some (y, .inr (5, gs)) := by rw [List.getElem?_append_right (by omega), show 44 - u.1.length = 0 by omega]; exact hgs
    refine x_aload_n ok 1 dL_law_209 rfl rfl ?_
    refine qL_30 ok (As := []) (st := [.int (nI (10 * (landP T).2.1.length + (landP T).2.2.length))]) 44 hmd (E_land1 l D cI cZ cS hm hS hn h9) rfl (Nat.le_of_ble_eq_true rfl) (Nat.le_of_ble_eq_true rfl) (Nat.le_of_ble_eq_true rfl) dL_law_210 (List.range' 44 18) (by decide) (law_hC2 hlu hlm) (ws' := fun v => u.1 ++ v.1) (st' := fun v => [.int (nI (10 * (landP T).2.1.length + (landP T).2.2.length)), .int (nI (10 * (landP T).2.1.length + (landP T).2.2.length))]) (fun v => v.2) (fun v => law_hw2 hlu hlm ((LW_len v).trans hlm)) (fun _ => rfl) (fun v hv => ?_)
    refine x_icmp_eq ok 920 dL_law_213 (by decide) (fun _ => ?_) (fun c => absurd rfl c)
    exact law_nx ok ih (oks_land hS h9) hu hv
  · skip
    obtain ⟨⟨fs, hfs⟩, hlc⟩ := CW_hd hc
    obtain ⟨⟨gs, hgs⟩, hlm⟩ := MW_hd hm
    have hcd : (wc ++ wm)[0]? = some (x, .inr (4, fs)) := by rw [List.getElem?_append_left (by omega)]; exact hfs
    refine x_aload_n ok 2 dL_law_205 rfl rfl ?_
    refine qL_27 ok (As := []) (st := []) 0 hcd (P_land0 l D cI cZ cS hc hS hn h9) rfl (Nat.le_of_ble_eq_true rfl) (Nat.le_of_ble_eq_true rfl) (Nat.le_of_ble_eq_true rfl) dL_law_206 (List.range 44) (by decide) (law_hC1 hlc) (ws' := fun u => u.1 ++ wm) (st' := fun u => .int (-3) :: []) (fun u => u.2) (fun u => law_hw1 hlc ((LW_len u).trans hlc)) (fun _ => rfl) (fun u hu => ?_)
    have hlu : u.1.length = 44 := (LW_len u).trans hlc
    have hmd : (u.1 ++ wm)[44]? = some (y, .inr (5, gs)) := by rw [List.getElem?_append_right (by omega), show 44 - u.1.length = 0 by omega]; exact hgs
    refine x_aload_n ok 1 dL_law_209 rfl rfl ?_
    refine qL_30 ok (As := []) (st := [.int (-3)]) 44 hmd (E_land0 l D cI cZ cS hm hS hn h9) rfl (Nat.le_of_ble_eq_true rfl) (Nat.le_of_ble_eq_true rfl) (Nat.le_of_ble_eq_true rfl) dL_law_210 (List.range' 44 18) (by decide) (law_hC2 hlu hlm) (ws' := fun v => u.1 ++ v.1) (st' := fun v => [.int (-3), .int (-3)]) (fun v => v.2) (fun v => law_hw2 hlu hlm ((LW_len v).trans hlm)) (fun _ => rfl) (fun v hv => ?_)
    refine x_icmp_eq ok 920 dL_law_213 (by decide) (fun _ => ?_) (fun c => absurd rfl c)
    exact law_nx ok ih (oks_0 hS) hu hv
set_option maxHeartbeats 4000000 in
set_option maxRecDepth 100000 in
theorem law_4 {K : KA × KB} {l : Launch} {D : va_G} {cI cZ cS : ClassId} {x y b k N : Nat} {xs : Nat → Int32} (ok : OKX K l D (TY cI cZ cS) cL_law RL 4 9 375 0 0) (hX : KXs K b N xs) (hN : N ≤ 2560) (h5 : k * 5 + 5 ≤ N) (ih : LI K cI cZ cS x y b (k + 1)) {T : List Nat} {Ws : List (Nat × Nat)} {ll : Nat} {L : List Sg} {li : Nat} {ye : Int32} {br : Int32} {As : List SS} {sk : Nat} {s0 : SS} {s1 : SS} {sd : Int64} {wc wm : va_W} (hS : OKS k T Ws L li As sk s0 s1) (hc : CW cI cS x T Ws ll L li ye br As sk s0 s1 sd wc) (hm : MW cI cZ y T Ws ll L li ye br As sk s0 s1 sd wm) : XX K (wc ++ wm) [(3, .int (nI (k * 5))), (2, .ref y), (1, .ref x), (0, .ref b)] 218 [] := by
  have hn : k ≤ 600 := by omega
  have hW4 := hS.2.1.1
  have h8 := hS.2.2.1.1
  obtain ⟨z1, e1⟩ : ∃ z, z = xs (k * 5 + 1) := ⟨_, rfl⟩
  obtain ⟨z2, e2⟩ : ∃ z, z = xs (k * 5 + 2) := ⟨_, rfl⟩
  obtain ⟨z3, e3⟩ : ∃ z, z = xs (k * 5 + 3) := ⟨_, rfl⟩
  obtain ⟨z4, e4⟩ : ∃ z, z = xs (k * 5 + 4) := ⟨_, rfl⟩
  obtain ⟨⟨fs, hfs⟩, hlc⟩ := CW_hd hc
  obtain ⟨⟨gs, hgs⟩, hlm⟩ := MW_hd hm
  have hcd : (wc ++ wm)[0]? = some (x, .inr (4, fs)) := by rw [List.getElem?_append_left (by omega)]; exact hfs
  refine x_aload_n ok 2 dL_law_218 rfl rfl ?_
  refine x_aload_n ok 3 dL_law_219 rfl rfl ?_
  refine x_iload_n ok 0 dL_law_220 rfl rfl ?_
  refine x_iconst ok (nI 1) dL_law_221 (by decide) ?_
  refine x_iadd ok (nI (k * 5 + 1)) dL_law_222 (nN (nI_add _ _) (by omega)) ?_
  refine x_sld ok hX hN (k * 5 + 1) (by omega) dL_law_223 ?_
  rw [← e1]
  refine qL_31 ok (As := [.int z1]) (st := []) 0 hcd (P_about l D cI cZ cS hc hS hn) rfl (Nat.le_of_ble_eq_true rfl) (Nat.le_of_ble_eq_true rfl) (Nat.le_of_ble_eq_true rfl) dL_law_224 (List.range 44) (by decide) (law_hC1 hlc) (ws' := fun u => u.1 ++ wm) (st' := fun u => .int (aboutI Ws.length L.length ye br li ll (lawsN L) As.length T.length z1) :: []) (fun u => u.2) (fun u => law_hw1 hlc ((LW_len u).trans hlc)) (fun _ => rfl) (fun u hu => ?_)
  have hlu : u.1.length = 44 := (LW_len u).trans hlc
  have hmd : (u.1 ++ wm)[44]? = some (y, .inr (5, gs)) := by rw [List.getElem?_append_right (by omega), show 44 - u.1.length = 0 by omega]; exact hgs
  refine x_aload_n ok 1 dL_law_227 rfl rfl ?_
  refine x_aload_n ok 3 dL_law_228 rfl rfl ?_
  refine x_iload_n ok 0 dL_law_229 rfl rfl ?_
  refine x_iconst ok (nI 1) dL_law_230 (by decide) ?_
  refine x_iadd ok (nI (k * 5 + 1)) dL_law_231 (nN (nI_add _ _) (by omega)) ?_
  refine x_sld ok hX hN (k * 5 + 1) (by omega) dL_law_232 ?_
  rw [← e1]
  refine qL_34 ok (As := [.int z1]) (st := [.int (aboutI Ws.length L.length ye br li ll (lawsN L) As.length T.length z1)]) 44 hmd (E_about l D cI cZ cS hm hS hn) rfl (Nat.le_of_ble_eq_true rfl) (Nat.le_of_ble_eq_true rfl) (Nat.le_of_ble_eq_true rfl) dL_law_233 (List.range' 44 18) (by decide) (law_hC2 hlu hlm) (ws' := fun v => u.1 ++ v.1) (st' := fun v => [.int (aboutI Ws.length L.length ye br li ll (lawsN L) As.length T.length z1), .int (aboutI Ws.length L.length ye br li ll (lawsN L) As.length T.length z1)]) (fun v => v.2) (fun v => law_hw2 hlu hlm ((LW_len v).trans hlm)) (fun _ => rfl) (fun v hv => ?_)
  refine x_icmp_eq ok 920 dL_law_236 (by decide) (fun _ => ?_) (fun c => absurd rfl c)
  exact law_nx ok ih (oks_0 hS) hu hv
set_option maxHeartbeats 4000000 in
set_option maxRecDepth 100000 in
theorem law_5 {K : KA × KB} {l : Launch} {D : va_G} {cI cZ cS : ClassId} {x y b k N : Nat} {xs : Nat → Int32} (ok : OKX K l D (TY cI cZ cS) cL_law RL 4 9 375 0 0) (hX : KXs K b N xs) (hN : N ≤ 2560) (h5 : k * 5 + 5 ≤ N) (ih : LI K cI cZ cS x y b (k + 1)) {T : List Nat} {Ws : List (Nat × Nat)} {ll : Nat} {L : List Sg} {li : Nat} {ye : Int32} {br : Int32} {As : List SS} {sk : Nat} {s0 : SS} {s1 : SS} {sd : Int64} {wc wm : va_W} (hS : OKS k T Ws L li As sk s0 s1) (hc : CW cI cS x T Ws ll L li ye br As sk s0 s1 sd wc) (hm : MW cI cZ y T Ws ll L li ye br As sk s0 s1 sd wm) : XX K (wc ++ wm) [(3, .int (nI (k * 5))), (2, .ref y), (1, .ref x), (0, .ref b)] 241 [] := by
  have hn : k ≤ 600 := by omega
  have hW4 := hS.2.1.1
  have h8 := hS.2.2.1.1
  obtain ⟨z1, e1⟩ : ∃ z, z = xs (k * 5 + 1) := ⟨_, rfl⟩
  obtain ⟨z2, e2⟩ : ∃ z, z = xs (k * 5 + 2) := ⟨_, rfl⟩
  obtain ⟨z3, e3⟩ : ∃ z, z = xs (k * 5 + 3) := ⟨_, rfl⟩
  obtain ⟨z4, e4⟩ : ∃ z, z = xs (k * 5 + 4) := ⟨_, rfl⟩
  obtain ⟨⟨fs, hfs⟩, hlc⟩ := CW_hd hc
  obtain ⟨⟨gs, hgs⟩, hlm⟩ := MW_hd hm
  have hcd : (wc ++ wm)[0]? = some (x, .inr (4, fs)) := by rw [List.getElem?_append_left (by omega)]; exact hfs
  refine x_aload_n ok 2 dL_law_241 rfl rfl ?_
  refine x_aload_n ok 3 dL_law_242 rfl rfl ?_
  refine x_iload_n ok 0 dL_law_243 rfl rfl ?_
  refine x_iconst ok (nI 1) dL_law_244 (by decide) ?_
  refine x_iadd ok (nI (k * 5 + 1)) dL_law_245 (nN (nI_add _ _) (by omega)) ?_
  refine x_sld ok hX hN (k * 5 + 1) (by omega) dL_law_246 ?_
  rw [← e1]
  refine x_aload_n ok 3 dL_law_247 rfl rfl ?_
  refine x_iload_n ok 0 dL_law_248 rfl rfl ?_
  refine x_iconst ok (nI 2) dL_law_249 (by decide) ?_
  refine x_iadd ok (nI (k * 5 + 2)) dL_law_250 (nN (nI_add _ _) (by omega)) ?_
  refine x_sld ok hX hN (k * 5 + 2) (by omega) dL_law_251 ?_
  rw [← e2]
  refine qL_35 ok (As := [.int z1, .int z2]) (st := []) 0 hcd (P_well l D cI cZ cS hc hS hn) rfl (Nat.le_of_ble_eq_true rfl) (Nat.le_of_ble_eq_true rfl) (Nat.le_of_ble_eq_true rfl) dL_law_252 (List.range 44) (by decide) (law_hC1 hlc) (ws' := fun u => u.1 ++ wm) (st' := fun u => .int (wellI Ws.length (dpF Ws) (stF Ws) li L z1 z2) :: []) (fun u => u.2) (fun u => law_hw1 hlc ((LW_len u).trans hlc)) (fun _ => rfl) (fun u hu => ?_)
  have hlu : u.1.length = 44 := (LW_len u).trans hlc
  have hmd : (u.1 ++ wm)[44]? = some (y, .inr (5, gs)) := by rw [List.getElem?_append_right (by omega), show 44 - u.1.length = 0 by omega]; exact hgs
  refine x_aload_n ok 1 dL_law_255 rfl rfl ?_
  refine x_aload_n ok 3 dL_law_256 rfl rfl ?_
  refine x_iload_n ok 0 dL_law_257 rfl rfl ?_
  refine x_iconst ok (nI 1) dL_law_258 (by decide) ?_
  refine x_iadd ok (nI (k * 5 + 1)) dL_law_259 (nN (nI_add _ _) (by omega)) ?_
  refine x_sld ok hX hN (k * 5 + 1) (by omega) dL_law_260 ?_
  rw [← e1]
  refine x_aload_n ok 3 dL_law_261 rfl rfl ?_
  refine x_iload_n ok 0 dL_law_262 rfl rfl ?_
  refine x_iconst ok (nI 2) dL_law_263 (by decide) ?_
  refine x_iadd ok (nI (k * 5 + 2)) dL_law_264 (nN (nI_add _ _) (by omega)) ?_
  refine x_sld ok hX hN (k * 5 + 2) (by omega) dL_law_265 ?_
  rw [← e2]
  refine qL_39 ok (As := [.int z1, .int z2]) (st := [.int (wellI Ws.length (dpF Ws) (stF Ws) li L z1 z2)]) 44 hmd (E_well l D cI cZ cS hm hS hn) rfl (Nat.le_of_ble_eq_true rfl) (Nat.le_of_ble_eq_true rfl) (Nat.le_of_ble_eq_true rfl) dL_law_266 (List.range' 44 18) (by decide) (law_hC2 hlu hlm) (ws' := fun v => u.1 ++ v.1) (st' := fun v => [.int (wellI Ws.length (dpF Ws) (stF Ws) li L z1 z2), .int (wellI Ws.length (dpF Ws) (stF Ws) li L z1 z2)]) (fun v => v.2) (fun v => law_hw2 hlu hlm ((LW_len v).trans hlm)) (fun _ => rfl) (fun v hv => ?_)
  refine x_icmp_eq ok 920 dL_law_269 (by decide) (fun _ => ?_) (fun c => absurd rfl c)
  exact law_nx ok ih (oks_0 hS) hu hv
set_option maxHeartbeats 4000000 in
set_option maxRecDepth 100000 in
theorem law_6 {K : KA × KB} {l : Launch} {D : va_G} {cI cZ cS : ClassId} {x y b k N : Nat} {xs : Nat → Int32} (ok : OKX K l D (TY cI cZ cS) cL_law RL 4 9 375 0 0) (hX : KXs K b N xs) (hN : N ≤ 2560) (h5 : k * 5 + 5 ≤ N) (ih : LI K cI cZ cS x y b (k + 1)) {T : List Nat} {Ws : List (Nat × Nat)} {ll : Nat} {L : List Sg} {li : Nat} {ye : Int32} {br : Int32} {As : List SS} {sk : Nat} {s0 : SS} {s1 : SS} {sd : Int64} {wc wm : va_W} (hS : OKS k T Ws L li As sk s0 s1) (hc : CW cI cS x T Ws ll L li ye br As sk s0 s1 sd wc) (hm : MW cI cZ y T Ws ll L li ye br As sk s0 s1 sd wm) : XX K (wc ++ wm) [(3, .int (nI (k * 5))), (2, .ref y), (1, .ref x), (0, .ref b)] 274 [] := by
  have hn : k ≤ 600 := by omega
  have hW4 := hS.2.1.1
  have h8 := hS.2.2.1.1
  obtain ⟨z1, e1⟩ : ∃ z, z = xs (k * 5 + 1) := ⟨_, rfl⟩
  obtain ⟨z2, e2⟩ : ∃ z, z = xs (k * 5 + 2) := ⟨_, rfl⟩
  obtain ⟨z3, e3⟩ : ∃ z, z = xs (k * 5 + 3) := ⟨_, rfl⟩
  obtain ⟨z4, e4⟩ : ∃ z, z = xs (k * 5 + 4) := ⟨_, rfl⟩
  obtain ⟨⟨fs, hfs⟩, hlc⟩ := CW_hd hc
  obtain ⟨⟨gs, hgs⟩, hlm⟩ := MW_hd hm
  have hcd : (wc ++ wm)[0]? = some (x, .inr (4, fs)) := by rw [List.getElem?_append_left (by omega)]; exact hfs
  refine x_aload_n ok 2 dL_law_274 rfl rfl ?_
  refine x_aload_n ok 3 dL_law_275 rfl rfl ?_
  refine x_iload_n ok 0 dL_law_276 rfl rfl ?_
  refine x_iconst ok (nI 1) dL_law_277 (by decide) ?_
  refine x_iadd ok (nI (k * 5 + 1)) dL_law_278 (nN (nI_add _ _) (by omega)) ?_
  refine x_sld ok hX hN (k * 5 + 1) (by omega) dL_law_279 ?_
  rw [← e1]
  refine x_aload_n ok 3 dL_law_280 rfl rfl ?_
  refine x_iload_n ok 0 dL_law_281 rfl rfl ?_
  refine x_iconst ok (nI 2) dL_law_282 (by decide) ?_
  refine x_iadd ok (nI (k * 5 + 2)) dL_law_283 (nN (nI_add _ _) (by omega)) ?_
  refine x_sld ok hX hN (k * 5 + 2) (by omega) dL_law_284 ?_
  rw [← e2]
  refine qL_40 ok (As := [.int z1, .int z2]) (st := []) 0 hcd (P_song l D cI cZ cS hc hS hn) rfl (Nat.le_of_ble_eq_true rfl) (Nat.le_of_ble_eq_true rfl) (Nat.le_of_ble_eq_true rfl) dL_law_285 (List.range 44) (by decide) (law_hC1 hlc) (ws' := fun u => u.1 ++ wm) (st' := fun u => .int (songI L z1 z2) :: []) (fun u => u.2) (fun u => law_hw1 hlc ((LW_len u).trans hlc)) (fun _ => rfl) (fun u hu => ?_)
  have hlu : u.1.length = 44 := (LW_len u).trans hlc
  have hmd : (u.1 ++ wm)[44]? = some (y, .inr (5, gs)) := by rw [List.getElem?_append_right (by omega), show 44 - u.1.length = 0 by omega]; exact hgs
  refine x_aload_n ok 1 dL_law_288 rfl rfl ?_
  refine x_aload_n ok 3 dL_law_289 rfl rfl ?_
  refine x_iload_n ok 0 dL_law_290 rfl rfl ?_
  refine x_iconst ok (nI 1) dL_law_291 (by decide) ?_
  refine x_iadd ok (nI (k * 5 + 1)) dL_law_292 (nN (nI_add _ _) (by omega)) ?_
  refine x_sld ok hX hN (k * 5 + 1) (by omega) dL_law_293 ?_
  rw [← e1]
  refine x_aload_n ok 3 dL_law_294 rfl rfl ?_
  refine x_iload_n ok 0 dL_law_295 rfl rfl ?_
  refine x_iconst ok (nI 2) dL_law_296 (by decide) ?_
  refine x_iadd ok (nI (k * 5 + 2)) dL_law_297 (nN (nI_add _ _) (by omega)) ?_
  refine x_sld ok hX hN (k * 5 + 2) (by omega) dL_law_298 ?_
  rw [← e2]
  refine qL_43 ok (As := [.int z1, .int z2]) (st := [.int (songI L z1 z2)]) 44 hmd (E_song l D cI cZ cS hm hS hn) rfl (Nat.le_of_ble_eq_true rfl) (Nat.le_of_ble_eq_true rfl) (Nat.le_of_ble_eq_true rfl) dL_law_299 (List.range' 44 18) (by decide) (law_hC2 hlu hlm) (ws' := fun v => u.1 ++ v.1) (st' := fun v => [.int (songI L z1 z2), .int (songI L z1 z2)]) (fun v => v.2) (fun v => law_hw2 hlu hlm ((LW_len v).trans hlm)) (fun _ => rfl) (fun v hv => ?_)
  refine x_icmp_eq ok 920 dL_law_302 (by decide) (fun _ => ?_) (fun c => absurd rfl c)
  exact law_nx ok ih (oks_0 hS) hu hv
set_option maxHeartbeats 4000000 in
set_option maxRecDepth 100000 in
theorem law_7 {K : KA × KB} {l : Launch} {D : va_G} {cI cZ cS : ClassId} {x y b k N : Nat} {xs : Nat → Int32} (ok : OKX K l D (TY cI cZ cS) cL_law RL 4 9 375 0 0) (hX : KXs K b N xs) (hN : N ≤ 2560) (h5 : k * 5 + 5 ≤ N) (ih : LI K cI cZ cS x y b (k + 1)) {T : List Nat} {Ws : List (Nat × Nat)} {ll : Nat} {L : List Sg} {li : Nat} {ye : Int32} {br : Int32} {As : List SS} {sk : Nat} {s0 : SS} {s1 : SS} {sd : Int64} {wc wm : va_W} (hS : OKS k T Ws L li As sk s0 s1) (hc : CW cI cS x T Ws ll L li ye br As sk s0 s1 sd wc) (hm : MW cI cZ y T Ws ll L li ye br As sk s0 s1 sd wm) : XX K (wc ++ wm) [(3, .int (nI (k * 5))), (2, .ref y), (1, .ref x), (0, .ref b)] 307 [] := by
  have hn : k ≤ 600 := by omega
  have hW4 := hS.2.1.1
  have h8 := hS.2.2.1.1
  obtain ⟨z1, e1⟩ : ∃ z, z = xs (k * 5 + 1) := ⟨_, rfl⟩
  obtain ⟨z2, e2⟩ : ∃ z, z = xs (k * 5 + 2) := ⟨_, rfl⟩
  obtain ⟨z3, e3⟩ : ∃ z, z = xs (k * 5 + 3) := ⟨_, rfl⟩
  obtain ⟨z4, e4⟩ : ∃ z, z = xs (k * 5 + 4) := ⟨_, rfl⟩
  obtain ⟨⟨fs, hfs⟩, hlc⟩ := CW_hd hc
  obtain ⟨⟨gs, hgs⟩, hlm⟩ := MW_hd hm
  have hcd : (wc ++ wm)[0]? = some (x, .inr (4, fs)) := by rw [List.getElem?_append_left (by omega)]; exact hfs
  refine x_aload_n ok 2 dL_law_307 rfl rfl ?_
  refine qL_44 ok (As := []) (st := []) 0 hcd (P_year l D cI cZ cS hc hS hn) rfl (Nat.le_of_ble_eq_true rfl) (Nat.le_of_ble_eq_true rfl) (Nat.le_of_ble_eq_true rfl) dL_law_308 (List.range 44) (by decide) (law_hC1 hlc) (ws' := fun u => u.1 ++ wm) (st' := fun u => .int (nI (L.length - (yearL (stF Ws) li L).length)) :: []) (fun u => u.2) (fun u => law_hw1 hlc ((LW_len u).trans hlc)) (fun _ => rfl) (fun u hu => ?_)
  have hlu : u.1.length = 44 := (LW_len u).trans hlc
  have hmd : (u.1 ++ wm)[44]? = some (y, .inr (5, gs)) := by rw [List.getElem?_append_right (by omega), show 44 - u.1.length = 0 by omega]; exact hgs
  refine x_aload_n ok 1 dL_law_311 rfl rfl ?_
  refine qL_47 ok (As := []) (st := [.int (nI (L.length - (yearL (stF Ws) li L).length))]) 44 hmd (E_year l D cI cZ cS hm hS hn) rfl (Nat.le_of_ble_eq_true rfl) (Nat.le_of_ble_eq_true rfl) (Nat.le_of_ble_eq_true rfl) dL_law_312 (List.range' 44 18) (by decide) (law_hC2 hlu hlm) (ws' := fun v => u.1 ++ v.1) (st' := fun v => [.int (nI (L.length - (yearL (stF Ws) li L).length)), .int (nI (L.length - (yearL (stF Ws) li L).length))]) (fun v => v.2) (fun v => law_hw2 hlu hlm ((LW_len v).trans hlm)) (fun _ => rfl) (fun v hv => ?_)
  refine x_icmp_eq ok 920 dL_law_315 (by decide) (fun _ => ?_) (fun c => absurd rfl c)
  exact law_nx ok ih (oks_year hS) hu hv
set_option maxHeartbeats 4000000 in
set_option maxRecDepth 100000 in
theorem law_8 {K : KA × KB} {l : Launch} {D : va_G} {cI cZ cS : ClassId} {x y b k N : Nat} {xs : Nat → Int32} (ok : OKX K l D (TY cI cZ cS) cL_law RL 4 9 375 0 0) (hX : KXs K b N xs) (hN : N ≤ 2560) (h5 : k * 5 + 5 ≤ N) (ih : LI K cI cZ cS x y b (k + 1)) {T : List Nat} {Ws : List (Nat × Nat)} {ll : Nat} {L : List Sg} {li : Nat} {ye : Int32} {br : Int32} {As : List SS} {sk : Nat} {s0 : SS} {s1 : SS} {sd : Int64} {wc wm : va_W} (hS : OKS k T Ws L li As sk s0 s1) (hc : CW cI cS x T Ws ll L li ye br As sk s0 s1 sd wc) (hm : MW cI cZ y T Ws ll L li ye br As sk s0 s1 sd wm) : XX K (wc ++ wm) [(3, .int (nI (k * 5))), (2, .ref y), (1, .ref x), (0, .ref b)] 320 [] := by
  have hn : k ≤ 600 := by omega
  have hW4 := hS.2.1.1
  have h8 := hS.2.2.1.1
  obtain ⟨z1, e1⟩ : ∃ z, z = xs (k * 5 + 1) := ⟨_, rfl⟩
  obtain ⟨z2, e2⟩ : ∃ z, z = xs (k * 5 + 2) := ⟨_, rfl⟩
  obtain ⟨z3, e3⟩ : ∃ z, z = xs (k * 5 + 3) := ⟨_, rfl⟩
  obtain ⟨z4, e4⟩ : ∃ z, z = xs (k * 5 + 4) := ⟨_, rfl⟩
  by_cases hz : singC Ws.length li L z1 z2 z3 z4 = 0
  · skip
    obtain ⟨s, d, v, p, rfl, rfl, rfl, rfl, hs1, hd, hv0, hv9, hp3, hway, h7⟩ := singC_0 h8 hz
    obtain ⟨⟨fs, hfs⟩, hlc⟩ := CW_hd hc
    obtain ⟨⟨gs, hgs⟩, hlm⟩ := MW_hd hm
    have hcd : (wc ++ wm)[0]? = some (x, .inr (4, fs)) := by rw [List.getElem?_append_left (by omega)]; exact hfs
    refine x_aload_n ok 2 dL_law_320 rfl rfl ?_
    refine x_aload_n ok 3 dL_law_321 rfl rfl ?_
    refine x_iload_n ok 0 dL_law_322 rfl rfl ?_
    refine x_iconst ok (nI 1) dL_law_323 (by decide) ?_
    refine x_iadd ok (nI (k * 5 + 1)) dL_law_324 (nN (nI_add _ _) (by omega)) ?_
    refine x_sld ok hX hN (k * 5 + 1) (by omega) dL_law_325 ?_
    rw [← e1]
    refine x_aload_n ok 3 dL_law_326 rfl rfl ?_
    refine x_iload_n ok 0 dL_law_327 rfl rfl ?_
    refine x_iconst ok (nI 2) dL_law_328 (by decide) ?_
    refine x_iadd ok (nI (k * 5 + 2)) dL_law_329 (nN (nI_add _ _) (by omega)) ?_
    refine x_sld ok hX hN (k * 5 + 2) (by omega) dL_law_330 ?_
    rw [← e2]
    refine x_aload_n ok 3 dL_law_331 rfl rfl ?_
    refine x_iload_n ok 0 dL_law_332 rfl rfl ?_
    refine x_iconst ok (nI 3) dL_law_333 (by decide) ?_
    refine x_iadd ok (nI (k * 5 + 3)) dL_law_334 (nN (nI_add _ _) (by omega)) ?_
    refine x_sld ok hX hN (k * 5 + 3) (by omega) dL_law_335 ?_
    rw [← e3]
    refine x_aload_n ok 3 dL_law_336 rfl rfl ?_
    refine x_iload_n ok 0 dL_law_337 rfl rfl ?_
    refine x_iconst ok (nI 4) dL_law_338 (by decide) ?_
    refine x_iadd ok (nI (k * 5 + 4)) dL_law_339 (nN (nI_add _ _) (by omega)) ?_
    refine x_sld ok hX hN (k * 5 + 4) (by omega) dL_law_340 ?_
    rw [← e4]
    refine qL_48 ok (As := [.int (nI s), .int (nI d), .int (nI v), .int (nI p)]) (st := []) 0 hcd (P_sing1 l D cI cZ cS hc hS hn hs1 hd hv0 hv9 hp3 hway h7) rfl (Nat.le_of_ble_eq_true rfl) (Nat.le_of_ble_eq_true rfl) (Nat.le_of_ble_eq_true rfl) dL_law_341 (List.range 44) (by decide) (law_hC1 hlc) (ws' := fun u => u.1 ++ wm) (st' := fun u => .int (nI L.length) :: []) (fun u => u.2) (fun u => law_hw1 hlc ((LW_len u).trans hlc)) (fun _ => rfl) (fun u hu => ?_)
    have hlu : u.1.length = 44 := (LW_len u).trans hlc
    have hmd : (u.1 ++ wm)[44]? = some (y, .inr (5, gs)) := by rw [List.getElem?_append_right (by omega), show 44 - u.1.length = 0 by omega]; exact hgs
    refine x_aload_n ok 1 dL_law_344 rfl rfl ?_
    refine x_aload_n ok 3 dL_law_345 rfl rfl ?_
    refine x_iload_n ok 0 dL_law_346 rfl rfl ?_
    refine x_iconst ok (nI 1) dL_law_347 (by decide) ?_
    refine x_iadd ok (nI (k * 5 + 1)) dL_law_348 (nN (nI_add _ _) (by omega)) ?_
    refine x_sld ok hX hN (k * 5 + 1) (by omega) dL_law_349 ?_
    rw [← e1]
    refine x_aload_n ok 3 dL_law_350 rfl rfl ?_
    refine x_iload_n ok 0 dL_law_351 rfl rfl ?_
    refine x_iconst ok (nI 2) dL_law_352 (by decide) ?_
    refine x_iadd ok (nI (k * 5 + 2)) dL_law_353 (nN (nI_add _ _) (by omega)) ?_
    refine x_sld ok hX hN (k * 5 + 2) (by omega) dL_law_354 ?_
    rw [← e2]
    refine x_aload_n ok 3 dL_law_355 rfl rfl ?_
    refine x_iload_n ok 0 dL_law_356 rfl rfl ?_
    refine x_iconst ok (nI 3) dL_law_357 (by decide) ?_
    refine x_iadd ok (nI (k * 5 + 3)) dL_law_358 (nN (nI_add _ _) (by omega)) ?_
    refine x_sld ok hX hN (k * 5 + 3) (by omega) dL_law_359 ?_
    rw [← e3]
    refine x_aload_n ok 3 dL_law_360 rfl rfl ?_
    refine x_iload_n ok 0 dL_law_361 rfl rfl ?_
    refine x_iconst ok (nI 4) dL_law_362 (by decide) ?_
    refine x_iadd ok (nI (k * 5 + 4)) dL_law_363 (nN (nI_add _ _) (by omega)) ?_
    refine x_sld ok hX hN (k * 5 + 4) (by omega) dL_law_364 ?_
    rw [← e4]
    refine qL_52 ok (As := [.int (nI s), .int (nI d), .int (nI v), .int (nI p)]) (st := [.int (nI L.length)]) 44 hmd (E_sing1 l D cI cZ cS hm hS hn hs1 hd hv0 hv9 hp3 hway h7) rfl (Nat.le_of_ble_eq_true rfl) (Nat.le_of_ble_eq_true rfl) (Nat.le_of_ble_eq_true rfl) dL_law_365 (List.range' 44 18) (by decide) (law_hC2 hlu hlm) (ws' := fun v => u.1 ++ v.1) (st' := fun v => [.int (nI L.length), .int (nI L.length)]) (fun v => v.2) (fun v => law_hw2 hlu hlm ((LW_len v).trans hlm)) (fun _ => rfl) (fun v hv => ?_)
    refine x_icmp_eq ok 920 dL_law_368 (by decide) (fun _ => ?_) (fun c => absurd rfl c)
    exact law_nx ok ih (oks_sing hS hs1 hv0 hv9 hp3 hway h7) hu hv
  · skip
    obtain ⟨⟨fs, hfs⟩, hlc⟩ := CW_hd hc
    obtain ⟨⟨gs, hgs⟩, hlm⟩ := MW_hd hm
    have hcd : (wc ++ wm)[0]? = some (x, .inr (4, fs)) := by rw [List.getElem?_append_left (by omega)]; exact hfs
    refine x_aload_n ok 2 dL_law_320 rfl rfl ?_
    refine x_aload_n ok 3 dL_law_321 rfl rfl ?_
    refine x_iload_n ok 0 dL_law_322 rfl rfl ?_
    refine x_iconst ok (nI 1) dL_law_323 (by decide) ?_
    refine x_iadd ok (nI (k * 5 + 1)) dL_law_324 (nN (nI_add _ _) (by omega)) ?_
    refine x_sld ok hX hN (k * 5 + 1) (by omega) dL_law_325 ?_
    rw [← e1]
    refine x_aload_n ok 3 dL_law_326 rfl rfl ?_
    refine x_iload_n ok 0 dL_law_327 rfl rfl ?_
    refine x_iconst ok (nI 2) dL_law_328 (by decide) ?_
    refine x_iadd ok (nI (k * 5 + 2)) dL_law_329 (nN (nI_add _ _) (by omega)) ?_
    refine x_sld ok hX hN (k * 5 + 2) (by omega) dL_law_330 ?_
    rw [← e2]
    refine x_aload_n ok 3 dL_law_331 rfl rfl ?_
    refine x_iload_n ok 0 dL_law_332 rfl rfl ?_
    refine x_iconst ok (nI 3) dL_law_333 (by decide) ?_
    refine x_iadd ok (nI (k * 5 + 3)) dL_law_334 (nN (nI_add _ _) (by omega)) ?_
    refine x_sld ok hX hN (k * 5 + 3) (by omega) dL_law_335 ?_
    rw [← e3]
    refine x_aload_n ok 3 dL_law_336 rfl rfl ?_
    refine x_iload_n ok 0 dL_law_337 rfl rfl ?_
    refine x_iconst ok (nI 4) dL_law_338 (by decide) ?_
    refine x_iadd ok (nI (k * 5 + 4)) dL_law_339 (nN (nI_add _ _) (by omega)) ?_
    refine x_sld ok hX hN (k * 5 + 4) (by omega) dL_law_340 ?_
    rw [← e4]
    refine qL_48 ok (As := [.int z1, .int z2, .int z3, .int z4]) (st := []) 0 hcd (P_sing0 l D cI cZ cS hc hS hn hz) rfl (Nat.le_of_ble_eq_true rfl) (Nat.le_of_ble_eq_true rfl) (Nat.le_of_ble_eq_true rfl) dL_law_341 (List.range 44) (by decide) (law_hC1 hlc) (ws' := fun u => u.1 ++ wm) (st' := fun u => .int (singC Ws.length li L z1 z2 z3 z4) :: []) (fun u => u.2) (fun u => law_hw1 hlc ((LW_len u).trans hlc)) (fun _ => rfl) (fun u hu => ?_)
    have hlu : u.1.length = 44 := (LW_len u).trans hlc
    have hmd : (u.1 ++ wm)[44]? = some (y, .inr (5, gs)) := by rw [List.getElem?_append_right (by omega), show 44 - u.1.length = 0 by omega]; exact hgs
    refine x_aload_n ok 1 dL_law_344 rfl rfl ?_
    refine x_aload_n ok 3 dL_law_345 rfl rfl ?_
    refine x_iload_n ok 0 dL_law_346 rfl rfl ?_
    refine x_iconst ok (nI 1) dL_law_347 (by decide) ?_
    refine x_iadd ok (nI (k * 5 + 1)) dL_law_348 (nN (nI_add _ _) (by omega)) ?_
    refine x_sld ok hX hN (k * 5 + 1) (by omega) dL_law_349 ?_
    rw [← e1]
    refine x_aload_n ok 3 dL_law_350 rfl rfl ?_
    refine x_iload_n ok 0 dL_law_351 rfl rfl ?_
    refine x_iconst ok (nI 2) dL_law_352 (by decide) ?_
    refine x_iadd ok (nI (k * 5 + 2)) dL_law_353 (nN (nI_add _ _) (by omega)) ?_
    refine x_sld ok hX hN (k * 5 + 2) (by omega) dL_law_354 ?_
    rw [← e2]
    refine x_aload_n ok 3 dL_law_355 rfl rfl ?_
    refine x_iload_n ok 0 dL_law_356 rfl rfl ?_
    refine x_iconst ok (nI 3) dL_law_357 (by decide) ?_
    refine x_iadd ok (nI (k * 5 + 3)) dL_law_358 (nN (nI_add _ _) (by omega)) ?_
    refine x_sld ok hX hN (k * 5 + 3) (by omega) dL_law_359 ?_
    rw [← e3]
    refine x_aload_n ok 3 dL_law_360 rfl rfl ?_
    refine x_iload_n ok 0 dL_law_361 rfl rfl ?_
    refine x_iconst ok (nI 4) dL_law_362 (by decide) ?_
    refine x_iadd ok (nI (k * 5 + 4)) dL_law_363 (nN (nI_add _ _) (by omega)) ?_
    refine x_sld ok hX hN (k * 5 + 4) (by omega) dL_law_364 ?_
    rw [← e4]
    refine qL_52 ok (As := [.int z1, .int z2, .int z3, .int z4]) (st := [.int (singC Ws.length li L z1 z2 z3 z4)]) 44 hmd (E_sing0 l D cI cZ cS hm hS hn hz) rfl (Nat.le_of_ble_eq_true rfl) (Nat.le_of_ble_eq_true rfl) (Nat.le_of_ble_eq_true rfl) dL_law_365 (List.range' 44 18) (by decide) (law_hC2 hlu hlm) (ws' := fun v => u.1 ++ v.1) (st' := fun v => [.int (singC Ws.length li L z1 z2 z3 z4), .int (singC Ws.length li L z1 z2 z3 z4)]) (fun v => v.2) (fun v => law_hw2 hlu hlm ((LW_len v).trans hlm)) (fun _ => rfl) (fun v hv => ?_)
    refine x_icmp_eq ok 920 dL_law_368 (by decide) (fun _ => ?_) (fun c => absurd rfl c)
    exact law_nx ok ih (oks_0 hS) hu hv
set_option maxHeartbeats 4000000 in
set_option maxRecDepth 100000 in
theorem law_9 {K : KA × KB} {l : Launch} {D : va_G} {cI cZ cS : ClassId} {x y b k N : Nat} {xs : Nat → Int32} (ok : OKX K l D (TY cI cZ cS) cL_law RL 4 9 375 0 0) (hX : KXs K b N xs) (hN : N ≤ 2560) (h5 : k * 5 + 5 ≤ N) (ih : LI K cI cZ cS x y b (k + 1)) {T : List Nat} {Ws : List (Nat × Nat)} {ll : Nat} {L : List Sg} {li : Nat} {ye : Int32} {br : Int32} {As : List SS} {sk : Nat} {s0 : SS} {s1 : SS} {sd : Int64} {wc wm : va_W} (hS : OKS k T Ws L li As sk s0 s1) (hc : CW cI cS x T Ws ll L li ye br As sk s0 s1 sd wc) (hm : MW cI cZ y T Ws ll L li ye br As sk s0 s1 sd wm) : XX K (wc ++ wm) [(3, .int (nI (k * 5))), (2, .ref y), (1, .ref x), (0, .ref b)] 373 [] := by
  have hn : k ≤ 600 := by omega
  have hW4 := hS.2.1.1
  have h8 := hS.2.2.1.1
  obtain ⟨z1, e1⟩ : ∃ z, z = xs (k * 5 + 1) := ⟨_, rfl⟩
  obtain ⟨z2, e2⟩ : ∃ z, z = xs (k * 5 + 2) := ⟨_, rfl⟩
  obtain ⟨z3, e3⟩ : ∃ z, z = xs (k * 5 + 3) := ⟨_, rfl⟩
  obtain ⟨z4, e4⟩ : ∃ z, z = xs (k * 5 + 4) := ⟨_, rfl⟩
  by_cases hz : hasB z1 Ws.length = true
  · skip
    obtain ⟨j, hj, rfl⟩ := hasB_t (by omega) hz
    obtain ⟨⟨fs, hfs⟩, hlc⟩ := CW_hd hc
    obtain ⟨⟨gs, hgs⟩, hlm⟩ := MW_hd hm
    have hcd : (wc ++ wm)[0]? = some (x, .inr (4, fs)) := by rw [List.getElem?_append_left (by omega)]; exact hfs
    refine x_aload_n ok 2 dL_law_373 rfl rfl ?_
    refine x_aload_n ok 3 dL_law_374 rfl rfl ?_
    refine x_iload_n ok 0 dL_law_375 rfl rfl ?_
    refine x_iconst ok (nI 1) dL_law_376 (by decide) ?_
    refine x_iadd ok (nI (k * 5 + 1)) dL_law_377 (nN (nI_add _ _) (by omega)) ?_
    refine x_sld ok hX hN (k * 5 + 1) (by omega) dL_law_378 ?_
    rw [← e1]
    refine qL_53 ok (As := [.int (nI j)]) (st := []) 0 hcd (P_lid1 l D cI cZ cS hc hS hn hj) rfl (Nat.le_of_ble_eq_true rfl) (Nat.le_of_ble_eq_true rfl) (Nat.le_of_ble_eq_true rfl) dL_law_379 (List.range 44) (by decide) (law_hC1 hlc) (ws' := fun u => u.1 ++ wm) (st' := fun u => .int (nI ((li ^^^ 2 ^ j).testBit j).toNat) :: []) (fun u => u.2) (fun u => law_hw1 hlc ((LW_len u).trans hlc)) (fun _ => rfl) (fun u hu => ?_)
    have hlu : u.1.length = 44 := (LW_len u).trans hlc
    have hmd : (u.1 ++ wm)[44]? = some (y, .inr (5, gs)) := by rw [List.getElem?_append_right (by omega), show 44 - u.1.length = 0 by omega]; exact hgs
    refine x_aload_n ok 1 dL_law_382 rfl rfl ?_
    refine x_aload_n ok 3 dL_law_383 rfl rfl ?_
    refine x_iload_n ok 0 dL_law_384 rfl rfl ?_
    refine x_iconst ok (nI 1) dL_law_385 (by decide) ?_
    refine x_iadd ok (nI (k * 5 + 1)) dL_law_386 (nN (nI_add _ _) (by omega)) ?_
    refine x_sld ok hX hN (k * 5 + 1) (by omega) dL_law_387 ?_
    rw [← e1]
    refine qL_56 ok (As := [.int (nI j)]) (st := [.int (nI ((li ^^^ 2 ^ j).testBit j).toNat)]) 44 hmd (E_lid1 l D cI cZ cS hm hS hn hj) rfl (Nat.le_of_ble_eq_true rfl) (Nat.le_of_ble_eq_true rfl) (Nat.le_of_ble_eq_true rfl) dL_law_388 (List.range' 44 18) (by decide) (law_hC2 hlu hlm) (ws' := fun v => u.1 ++ v.1) (st' := fun v => [.int (nI ((li ^^^ 2 ^ j).testBit j).toNat), .int (nI ((li ^^^ 2 ^ j).testBit j).toNat)]) (fun v => v.2) (fun v => law_hw2 hlu hlm ((LW_len v).trans hlm)) (fun _ => rfl) (fun v hv => ?_)
    refine x_icmp_eq ok 920 dL_law_391 (by decide) (fun _ => ?_) (fun c => absurd rfl c)
    exact law_nx ok ih (oks_lid hS hj) hu hv
  · skip
    obtain ⟨⟨fs, hfs⟩, hlc⟩ := CW_hd hc
    obtain ⟨⟨gs, hgs⟩, hlm⟩ := MW_hd hm
    have hcd : (wc ++ wm)[0]? = some (x, .inr (4, fs)) := by rw [List.getElem?_append_left (by omega)]; exact hfs
    refine x_aload_n ok 2 dL_law_373 rfl rfl ?_
    refine x_aload_n ok 3 dL_law_374 rfl rfl ?_
    refine x_iload_n ok 0 dL_law_375 rfl rfl ?_
    refine x_iconst ok (nI 1) dL_law_376 (by decide) ?_
    refine x_iadd ok (nI (k * 5 + 1)) dL_law_377 (nN (nI_add _ _) (by omega)) ?_
    refine x_sld ok hX hN (k * 5 + 1) (by omega) dL_law_378 ?_
    rw [← e1]
    refine qL_53 ok (As := [.int z1]) (st := []) 0 hcd (P_lid0 l D cI cZ cS hc hS hn hz) rfl (Nat.le_of_ble_eq_true rfl) (Nat.le_of_ble_eq_true rfl) (Nat.le_of_ble_eq_true rfl) dL_law_379 (List.range 44) (by decide) (law_hC1 hlc) (ws' := fun u => u.1 ++ wm) (st' := fun u => .int (-1) :: []) (fun u => u.2) (fun u => law_hw1 hlc ((LW_len u).trans hlc)) (fun _ => rfl) (fun u hu => ?_)
    have hlu : u.1.length = 44 := (LW_len u).trans hlc
    have hmd : (u.1 ++ wm)[44]? = some (y, .inr (5, gs)) := by rw [List.getElem?_append_right (by omega), show 44 - u.1.length = 0 by omega]; exact hgs
    refine x_aload_n ok 1 dL_law_382 rfl rfl ?_
    refine x_aload_n ok 3 dL_law_383 rfl rfl ?_
    refine x_iload_n ok 0 dL_law_384 rfl rfl ?_
    refine x_iconst ok (nI 1) dL_law_385 (by decide) ?_
    refine x_iadd ok (nI (k * 5 + 1)) dL_law_386 (nN (nI_add _ _) (by omega)) ?_
    refine x_sld ok hX hN (k * 5 + 1) (by omega) dL_law_387 ?_
    rw [← e1]
    refine qL_56 ok (As := [.int z1]) (st := [.int (-1)]) 44 hmd (E_lid0 l D cI cZ cS hm hS hn hz) rfl (Nat.le_of_ble_eq_true rfl) (Nat.le_of_ble_eq_true rfl) (Nat.le_of_ble_eq_true rfl) dL_law_388 (List.range' 44 18) (by decide) (law_hC2 hlu hlm) (ws' := fun v => u.1 ++ v.1) (st' := fun v => [.int (-1), .int (-1)]) (fun v => v.2) (fun v => law_hw2 hlu hlm ((LW_len v).trans hlm)) (fun _ => rfl) (fun v hv => ?_)
    refine x_icmp_eq ok 920 dL_law_391 (by decide) (fun _ => ?_) (fun c => absurd rfl c)
    exact law_nx ok ih (oks_0 hS) hu hv
set_option maxHeartbeats 4000000 in
set_option maxRecDepth 100000 in
theorem law_10 {K : KA × KB} {l : Launch} {D : va_G} {cI cZ cS : ClassId} {x y b k N : Nat} {xs : Nat → Int32} (ok : OKX K l D (TY cI cZ cS) cL_law RL 4 9 375 0 0) (hX : KXs K b N xs) (hN : N ≤ 2560) (h5 : k * 5 + 5 ≤ N) (ih : LI K cI cZ cS x y b (k + 1)) {T : List Nat} {Ws : List (Nat × Nat)} {ll : Nat} {L : List Sg} {li : Nat} {ye : Int32} {br : Int32} {As : List SS} {sk : Nat} {s0 : SS} {s1 : SS} {sd : Int64} {wc wm : va_W} (hS : OKS k T Ws L li As sk s0 s1) (hc : CW cI cS x T Ws ll L li ye br As sk s0 s1 sd wc) (hm : MW cI cZ y T Ws ll L li ye br As sk s0 s1 sd wm) : XX K (wc ++ wm) [(3, .int (nI (k * 5))), (2, .ref y), (1, .ref x), (0, .ref b)] 396 [] := by
  have hn : k ≤ 600 := by omega
  have hW4 := hS.2.1.1
  have h8 := hS.2.2.1.1
  obtain ⟨z1, e1⟩ : ∃ z, z = xs (k * 5 + 1) := ⟨_, rfl⟩
  obtain ⟨z2, e2⟩ : ∃ z, z = xs (k * 5 + 2) := ⟨_, rfl⟩
  obtain ⟨z3, e3⟩ : ∃ z, z = xs (k * 5 + 3) := ⟨_, rfl⟩
  obtain ⟨z4, e4⟩ : ∃ z, z = xs (k * 5 + 4) := ⟨_, rfl⟩
  by_cases h0 : 0 < As.length
  · skip
    obtain ⟨⟨fs, hfs⟩, hlc⟩ := CW_hd hc
    obtain ⟨⟨gs, hgs⟩, hlm⟩ := MW_hd hm
    have hcd : (wc ++ wm)[0]? = some (x, .inr (4, fs)) := by rw [List.getElem?_append_left (by omega)]; exact hfs
    refine x_aload_n ok 2 dL_law_396 rfl rfl ?_
    refine qL_57 ok (As := []) (st := []) 0 hcd (P_undo1 l D cI cZ cS hc hS hn h0) rfl (Nat.le_of_ble_eq_true rfl) (Nat.le_of_ble_eq_true rfl) (Nat.le_of_ble_eq_true rfl) dL_law_397 (List.range 44) (by decide) (law_hC1 hlc) (ws' := fun u => u.1 ++ wm) (st' := fun u => .int (nI (As.length - 1)) :: []) (fun u => u.2) (fun u => law_hw1 hlc ((LW_len u).trans hlc)) (fun _ => rfl) (fun u hu => ?_)
    have hlu : u.1.length = 44 := (LW_len u).trans hlc
    have hmd : (u.1 ++ wm)[44]? = some (y, .inr (5, gs)) := by rw [List.getElem?_append_right (by omega), show 44 - u.1.length = 0 by omega]; exact hgs
    refine x_aload_n ok 1 dL_law_400 rfl rfl ?_
    refine qL_60 ok (As := []) (st := [.int (nI (As.length - 1))]) 44 hmd (E_undo1 l D cI cZ cS hm hS hn h0) rfl (Nat.le_of_ble_eq_true rfl) (Nat.le_of_ble_eq_true rfl) (Nat.le_of_ble_eq_true rfl) dL_law_401 (List.range' 44 18) (by decide) (law_hC2 hlu hlm) (ws' := fun v => u.1 ++ v.1) (st' := fun v => [.int (nI (As.length - 1)), .int (nI (As.length - 1))]) (fun v => v.2) (fun v => law_hw2 hlu hlm ((LW_len v).trans hlm)) (fun _ => rfl) (fun v hv => ?_)
    refine x_icmp_eq ok 920 dL_law_404 (by decide) (fun _ => ?_) (fun c => absurd rfl c)
    exact law_nx ok ih (oks_undo hS h0) hu hv
  · skip
    obtain rfl : As = [] := List.length_eq_zero_iff.mp (by omega)
    obtain ⟨⟨fs, hfs⟩, hlc⟩ := CW_hd hc
    obtain ⟨⟨gs, hgs⟩, hlm⟩ := MW_hd hm
    have hcd : (wc ++ wm)[0]? = some (x, .inr (4, fs)) := by rw [List.getElem?_append_left (by omega)]; exact hfs
    refine x_aload_n ok 2 dL_law_396 rfl rfl ?_
    refine qL_57 ok (As := []) (st := []) 0 hcd (P_undo0 l D cI cZ cS hc hS hn) rfl (Nat.le_of_ble_eq_true rfl) (Nat.le_of_ble_eq_true rfl) (Nat.le_of_ble_eq_true rfl) dL_law_397 (List.range 44) (by decide) (law_hC1 hlc) (ws' := fun u => u.1 ++ wm) (st' := fun u => .int (-3) :: []) (fun u => u.2) (fun u => law_hw1 hlc ((LW_len u).trans hlc)) (fun _ => rfl) (fun u hu => ?_)
    have hlu : u.1.length = 44 := (LW_len u).trans hlc
    have hmd : (u.1 ++ wm)[44]? = some (y, .inr (5, gs)) := by rw [List.getElem?_append_right (by omega), show 44 - u.1.length = 0 by omega]; exact hgs
    refine x_aload_n ok 1 dL_law_400 rfl rfl ?_
    refine qL_60 ok (As := []) (st := [.int (-3)]) 44 hmd (E_undo0 l D cI cZ cS hm hS hn) rfl (Nat.le_of_ble_eq_true rfl) (Nat.le_of_ble_eq_true rfl) (Nat.le_of_ble_eq_true rfl) dL_law_401 (List.range' 44 18) (by decide) (law_hC2 hlu hlm) (ws' := fun v => u.1 ++ v.1) (st' := fun v => [.int (-3), .int (-3)]) (fun v => v.2) (fun v => law_hw2 hlu hlm ((LW_len v).trans hlm)) (fun _ => rfl) (fun v hv => ?_)
    refine x_icmp_eq ok 920 dL_law_404 (by decide) (fun _ => ?_) (fun c => absurd rfl c)
    exact law_nx ok ih (oks_0 hS) hu hv
set_option maxHeartbeats 4000000 in
set_option maxRecDepth 100000 in
theorem law_11 {K : KA × KB} {l : Launch} {D : va_G} {cI cZ cS : ClassId} {x y b k N : Nat} {xs : Nat → Int32} (ok : OKX K l D (TY cI cZ cS) cL_law RL 4 9 375 0 0) (hX : KXs K b N xs) (hN : N ≤ 2560) (h5 : k * 5 + 5 ≤ N) (ih : LI K cI cZ cS x y b (k + 1)) {T : List Nat} {Ws : List (Nat × Nat)} {ll : Nat} {L : List Sg} {li : Nat} {ye : Int32} {br : Int32} {As : List SS} {sk : Nat} {s0 : SS} {s1 : SS} {sd : Int64} {wc wm : va_W} (hS : OKS k T Ws L li As sk s0 s1) (hc : CW cI cS x T Ws ll L li ye br As sk s0 s1 sd wc) (hm : MW cI cZ y T Ws ll L li ye br As sk s0 s1 sd wm) : XX K (wc ++ wm) [(3, .int (nI (k * 5))), (2, .ref y), (1, .ref x), (0, .ref b)] 409 [] := by
  have hn : k ≤ 600 := by omega
  have hW4 := hS.2.1.1
  have h8 := hS.2.2.1.1
  obtain ⟨z1, e1⟩ : ∃ z, z = xs (k * 5 + 1) := ⟨_, rfl⟩
  obtain ⟨z2, e2⟩ : ∃ z, z = xs (k * 5 + 2) := ⟨_, rfl⟩
  obtain ⟨z3, e3⟩ : ∃ z, z = xs (k * 5 + 3) := ⟨_, rfl⟩
  obtain ⟨z4, e4⟩ : ∃ z, z = xs (k * 5 + 4) := ⟨_, rfl⟩
  by_cases hb : z3 = 0
  · skip
    obtain ⟨⟨fs, hfs⟩, hlc⟩ := CW_hd hc
    obtain ⟨⟨gs, hgs⟩, hlm⟩ := MW_hd hm
    have hcd : (wc ++ wm)[0]? = some (x, .inr (4, fs)) := by rw [List.getElem?_append_left (by omega)]; exact hfs
    refine x_aload_n ok 2 dL_law_409 rfl rfl ?_
    refine x_aload_n ok 3 dL_law_410 rfl rfl ?_
    refine x_iload_n ok 0 dL_law_411 rfl rfl ?_
    refine x_iconst ok (nI 1) dL_law_412 (by decide) ?_
    refine x_iadd ok (nI (k * 5 + 1)) dL_law_413 (nN (nI_add _ _) (by omega)) ?_
    refine x_sld ok hX hN (k * 5 + 1) (by omega) dL_law_414 ?_
    rw [← e1]
    refine x_aload_n ok 3 dL_law_415 rfl rfl ?_
    refine x_iload_n ok 0 dL_law_416 rfl rfl ?_
    refine x_iconst ok (nI 2) dL_law_417 (by decide) ?_
    refine x_iadd ok (nI (k * 5 + 2)) dL_law_418 (nN (nI_add _ _) (by omega)) ?_
    refine x_sld ok hX hN (k * 5 + 2) (by omega) dL_law_419 ?_
    rw [← e2]
    refine x_aload_n ok 3 dL_law_420 rfl rfl ?_
    refine x_iload_n ok 0 dL_law_421 rfl rfl ?_
    refine x_iconst ok (nI 3) dL_law_422 (by decide) ?_
    refine x_iadd ok (nI (k * 5 + 3)) dL_law_423 (nN (nI_add _ _) (by omega)) ?_
    refine x_sld ok hX hN (k * 5 + 3) (by omega) dL_law_424 ?_
    rw [← e3]
    refine x_if_eq ok 432 dL_law_425 (by decide) (fun c_425 => ?_) (fun c_425 => absurd c_425 (fun q => q hb))
    refine x_iconst ok (nI 0) dL_law_432 (by decide) ?_
    refine qL_61 ok (As := [.int z1, .int z2, .int (nI 0)]) (st := []) 0 hcd (P_heard (noon := false) l D cI cZ cS hc hS hn) rfl (Nat.le_of_ble_eq_true rfl) (Nat.le_of_ble_eq_true rfl) (Nat.le_of_ble_eq_true rfl) dL_law_433 (List.range 44) (by decide) (law_hC1 hlc) (ws' := fun u => u.1 ++ wm) (st' := fun u => .int (heardI Ws.length (dpF Ws) li L z1 z2 false) :: []) (fun u => u.2) (fun u => law_hw1 hlc ((LW_len u).trans hlc)) (fun _ => rfl) (fun u hu => ?_)
    have hlu : u.1.length = 44 := (LW_len u).trans hlc
    have hmd : (u.1 ++ wm)[44]? = some (y, .inr (5, gs)) := by rw [List.getElem?_append_right (by omega), show 44 - u.1.length = 0 by omega]; exact hgs
    refine x_aload_n ok 1 dL_law_436 rfl rfl ?_
    refine x_aload_n ok 3 dL_law_437 rfl rfl ?_
    refine x_iload_n ok 0 dL_law_438 rfl rfl ?_
    refine x_iconst ok (nI 1) dL_law_439 (by decide) ?_
    refine x_iadd ok (nI (k * 5 + 1)) dL_law_440 (nN (nI_add _ _) (by omega)) ?_
    refine x_sld ok hX hN (k * 5 + 1) (by omega) dL_law_441 ?_
    rw [← e1]
    refine x_aload_n ok 3 dL_law_442 rfl rfl ?_
    refine x_iload_n ok 0 dL_law_443 rfl rfl ?_
    refine x_iconst ok (nI 2) dL_law_444 (by decide) ?_
    refine x_iadd ok (nI (k * 5 + 2)) dL_law_445 (nN (nI_add _ _) (by omega)) ?_
    refine x_sld ok hX hN (k * 5 + 2) (by omega) dL_law_446 ?_
    rw [← e2]
    refine x_aload_n ok 3 dL_law_447 rfl rfl ?_
    refine x_iload_n ok 0 dL_law_448 rfl rfl ?_
    refine x_iconst ok (nI 3) dL_law_449 (by decide) ?_
    refine x_iadd ok (nI (k * 5 + 3)) dL_law_450 (nN (nI_add _ _) (by omega)) ?_
    refine x_sld ok hX hN (k * 5 + 3) (by omega) dL_law_451 ?_
    rw [← e3]
    refine x_if_eq ok 459 dL_law_452 (by decide) (fun c_452 => ?_) (fun c_452 => absurd c_452 (fun q => q hb))
    refine x_iconst ok (nI 0) dL_law_459 (by decide) ?_
    refine qL_65 ok (As := [.int z1, .int z2, .int (nI 0)]) (st := [.int (heardI Ws.length (dpF Ws) li L z1 z2 false)]) 44 hmd (E_heard (noon := false) l D cI cZ cS hm hS hn) rfl (Nat.le_of_ble_eq_true rfl) (Nat.le_of_ble_eq_true rfl) (Nat.le_of_ble_eq_true rfl) dL_law_460 (List.range' 44 18) (by decide) (law_hC2 hlu hlm) (ws' := fun v => u.1 ++ v.1) (st' := fun v => [.int (heardI Ws.length (dpF Ws) li L z1 z2 false), .int (heardI Ws.length (dpF Ws) li L z1 z2 false)]) (fun v => v.2) (fun v => law_hw2 hlu hlm ((LW_len v).trans hlm)) (fun _ => rfl) (fun v hv => ?_)
    refine x_icmp_eq ok 920 dL_law_463 (by decide) (fun _ => ?_) (fun c => absurd rfl c)
    exact law_nx ok ih (oks_0 hS) hu hv
  · skip
    obtain ⟨⟨fs, hfs⟩, hlc⟩ := CW_hd hc
    obtain ⟨⟨gs, hgs⟩, hlm⟩ := MW_hd hm
    have hcd : (wc ++ wm)[0]? = some (x, .inr (4, fs)) := by rw [List.getElem?_append_left (by omega)]; exact hfs
    refine x_aload_n ok 2 dL_law_409 rfl rfl ?_
    refine x_aload_n ok 3 dL_law_410 rfl rfl ?_
    refine x_iload_n ok 0 dL_law_411 rfl rfl ?_
    refine x_iconst ok (nI 1) dL_law_412 (by decide) ?_
    refine x_iadd ok (nI (k * 5 + 1)) dL_law_413 (nN (nI_add _ _) (by omega)) ?_
    refine x_sld ok hX hN (k * 5 + 1) (by omega) dL_law_414 ?_
    rw [← e1]
    refine x_aload_n ok 3 dL_law_415 rfl rfl ?_
    refine x_iload_n ok 0 dL_law_416 rfl rfl ?_
    refine x_iconst ok (nI 2) dL_law_417 (by decide) ?_
    refine x_iadd ok (nI (k * 5 + 2)) dL_law_418 (nN (nI_add _ _) (by omega)) ?_
    refine x_sld ok hX hN (k * 5 + 2) (by omega) dL_law_419 ?_
    rw [← e2]
    refine x_aload_n ok 3 dL_law_420 rfl rfl ?_
    refine x_iload_n ok 0 dL_law_421 rfl rfl ?_
    refine x_iconst ok (nI 3) dL_law_422 (by decide) ?_
    refine x_iadd ok (nI (k * 5 + 3)) dL_law_423 (nN (nI_add _ _) (by omega)) ?_
    refine x_sld ok hX hN (k * 5 + 3) (by omega) dL_law_424 ?_
    rw [← e3]
    refine x_if_eq ok 432 dL_law_425 (by decide) (fun c_425 => absurd c_425 (hb)) (fun c_425 => ?_)
    refine x_iconst ok (nI 1) dL_law_428 (by decide) ?_
    refine x_goto ok 433 dL_law_429 (by decide) ?_
    refine qL_61 ok (As := [.int z1, .int z2, .int (nI 1)]) (st := []) 0 hcd (P_heard (noon := true) l D cI cZ cS hc hS hn) rfl (Nat.le_of_ble_eq_true rfl) (Nat.le_of_ble_eq_true rfl) (Nat.le_of_ble_eq_true rfl) dL_law_433 (List.range 44) (by decide) (law_hC1 hlc) (ws' := fun u => u.1 ++ wm) (st' := fun u => .int (heardI Ws.length (dpF Ws) li L z1 z2 true) :: []) (fun u => u.2) (fun u => law_hw1 hlc ((LW_len u).trans hlc)) (fun _ => rfl) (fun u hu => ?_)
    have hlu : u.1.length = 44 := (LW_len u).trans hlc
    have hmd : (u.1 ++ wm)[44]? = some (y, .inr (5, gs)) := by rw [List.getElem?_append_right (by omega), show 44 - u.1.length = 0 by omega]; exact hgs
    refine x_aload_n ok 1 dL_law_436 rfl rfl ?_
    refine x_aload_n ok 3 dL_law_437 rfl rfl ?_
    refine x_iload_n ok 0 dL_law_438 rfl rfl ?_
    refine x_iconst ok (nI 1) dL_law_439 (by decide) ?_
    refine x_iadd ok (nI (k * 5 + 1)) dL_law_440 (nN (nI_add _ _) (by omega)) ?_
    refine x_sld ok hX hN (k * 5 + 1) (by omega) dL_law_441 ?_
    rw [← e1]
    refine x_aload_n ok 3 dL_law_442 rfl rfl ?_
    refine x_iload_n ok 0 dL_law_443 rfl rfl ?_
    refine x_iconst ok (nI 2) dL_law_444 (by decide) ?_
    refine x_iadd ok (nI (k * 5 + 2)) dL_law_445 (nN (nI_add _ _) (by omega)) ?_
    refine x_sld ok hX hN (k * 5 + 2) (by omega) dL_law_446 ?_
    rw [← e2]
    refine x_aload_n ok 3 dL_law_447 rfl rfl ?_
    refine x_iload_n ok 0 dL_law_448 rfl rfl ?_
    refine x_iconst ok (nI 3) dL_law_449 (by decide) ?_
    refine x_iadd ok (nI (k * 5 + 3)) dL_law_450 (nN (nI_add _ _) (by omega)) ?_
    refine x_sld ok hX hN (k * 5 + 3) (by omega) dL_law_451 ?_
    rw [← e3]
    refine x_if_eq ok 459 dL_law_452 (by decide) (fun c_452 => absurd c_452 (hb)) (fun c_452 => ?_)
    refine x_iconst ok (nI 1) dL_law_455 (by decide) ?_
    refine x_goto ok 460 dL_law_456 (by decide) ?_
    refine qL_65 ok (As := [.int z1, .int z2, .int (nI 1)]) (st := [.int (heardI Ws.length (dpF Ws) li L z1 z2 true)]) 44 hmd (E_heard (noon := true) l D cI cZ cS hm hS hn) rfl (Nat.le_of_ble_eq_true rfl) (Nat.le_of_ble_eq_true rfl) (Nat.le_of_ble_eq_true rfl) dL_law_460 (List.range' 44 18) (by decide) (law_hC2 hlu hlm) (ws' := fun v => u.1 ++ v.1) (st' := fun v => [.int (heardI Ws.length (dpF Ws) li L z1 z2 true), .int (heardI Ws.length (dpF Ws) li L z1 z2 true)]) (fun v => v.2) (fun v => law_hw2 hlu hlm ((LW_len v).trans hlm)) (fun _ => rfl) (fun v hv => ?_)
    refine x_icmp_eq ok 920 dL_law_463 (by decide) (fun _ => ?_) (fun c => absurd rfl c)
    exact law_nx ok ih (oks_0 hS) hu hv
set_option maxHeartbeats 4000000 in
set_option maxRecDepth 100000 in
theorem law_12 {K : KA × KB} {l : Launch} {D : va_G} {cI cZ cS : ClassId} {x y b k N : Nat} {xs : Nat → Int32} (ok : OKX K l D (TY cI cZ cS) cL_law RL 4 9 375 0 0) (hX : KXs K b N xs) (hN : N ≤ 2560) (h5 : k * 5 + 5 ≤ N) (ih : LI K cI cZ cS x y b (k + 1)) {T : List Nat} {Ws : List (Nat × Nat)} {ll : Nat} {L : List Sg} {li : Nat} {ye : Int32} {br : Int32} {As : List SS} {sk : Nat} {s0 : SS} {s1 : SS} {sd : Int64} {wc wm : va_W} (hS : OKS k T Ws L li As sk s0 s1) (hc : CW cI cS x T Ws ll L li ye br As sk s0 s1 sd wc) (hm : MW cI cZ y T Ws ll L li ye br As sk s0 s1 sd wm) : XX K (wc ++ wm) [(3, .int (nI (k * 5))), (2, .ref y), (1, .ref x), (0, .ref b)] 468 [] := by
  have hn : k ≤ 600 := by omega
  have hW4 := hS.2.1.1
  have h8 := hS.2.2.1.1
  obtain ⟨z1, e1⟩ : ∃ z, z = xs (k * 5 + 1) := ⟨_, rfl⟩
  obtain ⟨z2, e2⟩ : ∃ z, z = xs (k * 5 + 2) := ⟨_, rfl⟩
  obtain ⟨z3, e3⟩ : ∃ z, z = xs (k * 5 + 3) := ⟨_, rfl⟩
  obtain ⟨z4, e4⟩ : ∃ z, z = xs (k * 5 + 4) := ⟨_, rfl⟩
  obtain ⟨⟨fs, hfs⟩, hlc⟩ := CW_hd hc
  obtain ⟨⟨gs, hgs⟩, hlm⟩ := MW_hd hm
  have hcd : (wc ++ wm)[0]? = some (x, .inr (4, fs)) := by rw [List.getElem?_append_left (by omega)]; exact hfs
  refine x_aload_n ok 2 dL_law_468 rfl rfl ?_
  refine x_aload_n ok 3 dL_law_469 rfl rfl ?_
  refine x_iload_n ok 0 dL_law_470 rfl rfl ?_
  refine x_iconst ok (nI 1) dL_law_471 (by decide) ?_
  refine x_iadd ok (nI (k * 5 + 1)) dL_law_472 (nN (nI_add _ _) (by omega)) ?_
  refine x_sld ok hX hN (k * 5 + 1) (by omega) dL_law_473 ?_
  rw [← e1]
  refine qL_66 ok (As := [.int z1]) (st := []) 0 hcd (P_songLasts l D cI cZ cS hc hS hn) rfl (Nat.le_of_ble_eq_true rfl) (Nat.le_of_ble_eq_true rfl) (Nat.le_of_ble_eq_true rfl) dL_law_474 (List.range 44) (by decide) (law_hC1 hlc) (ws' := fun u => u.1 ++ wm) (st' := fun u => .int (songLastsI (stF Ws) li L z1) :: []) (fun u => u.2) (fun u => law_hw1 hlc ((LW_len u).trans hlc)) (fun _ => rfl) (fun u hu => ?_)
  have hlu : u.1.length = 44 := (LW_len u).trans hlc
  have hmd : (u.1 ++ wm)[44]? = some (y, .inr (5, gs)) := by rw [List.getElem?_append_right (by omega), show 44 - u.1.length = 0 by omega]; exact hgs
  refine x_aload_n ok 1 dL_law_477 rfl rfl ?_
  refine x_aload_n ok 3 dL_law_478 rfl rfl ?_
  refine x_iload_n ok 0 dL_law_479 rfl rfl ?_
  refine x_iconst ok (nI 1) dL_law_480 (by decide) ?_
  refine x_iadd ok (nI (k * 5 + 1)) dL_law_481 (nN (nI_add _ _) (by omega)) ?_
  refine x_sld ok hX hN (k * 5 + 1) (by omega) dL_law_482 ?_
  rw [← e1]
  refine qL_69 ok (As := [.int z1]) (st := [.int (songLastsI (stF Ws) li L z1)]) 44 hmd (E_songLasts l D cI cZ cS hm hS hn) rfl (Nat.le_of_ble_eq_true rfl) (Nat.le_of_ble_eq_true rfl) (Nat.le_of_ble_eq_true rfl) dL_law_483 (List.range' 44 18) (by decide) (law_hC2 hlu hlm) (ws' := fun v => u.1 ++ v.1) (st' := fun v => [.int (songLastsI (stF Ws) li L z1), .int (songLastsI (stF Ws) li L z1)]) (fun v => v.2) (fun v => law_hw2 hlu hlm ((LW_len v).trans hlm)) (fun _ => rfl) (fun v hv => ?_)
  refine x_icmp_eq ok 920 dL_law_486 (by decide) (fun _ => ?_) (fun c => absurd rfl c)
  exact law_nx ok ih (oks_0 hS) hu hv
set_option maxHeartbeats 4000000 in
set_option maxRecDepth 100000 in
theorem law_13 {K : KA × KB} {l : Launch} {D : va_G} {cI cZ cS : ClassId} {x y b k N : Nat} {xs : Nat → Int32} (ok : OKX K l D (TY cI cZ cS) cL_law RL 4 9 375 0 0) (hX : KXs K b N xs) (hN : N ≤ 2560) (h5 : k * 5 + 5 ≤ N) (ih : LI K cI cZ cS x y b (k + 1)) {T : List Nat} {Ws : List (Nat × Nat)} {ll : Nat} {L : List Sg} {li : Nat} {ye : Int32} {br : Int32} {As : List SS} {sk : Nat} {s0 : SS} {s1 : SS} {sd : Int64} {wc wm : va_W} (hS : OKS k T Ws L li As sk s0 s1) (hc : CW cI cS x T Ws ll L li ye br As sk s0 s1 sd wc) (hm : MW cI cZ y T Ws ll L li ye br As sk s0 s1 sd wm) : XX K (wc ++ wm) [(3, .int (nI (k * 5))), (2, .ref y), (1, .ref x), (0, .ref b)] 491 [] := by
  have hn : k ≤ 600 := by omega
  have hW4 := hS.2.1.1
  have h8 := hS.2.2.1.1
  obtain ⟨z1, e1⟩ : ∃ z, z = xs (k * 5 + 1) := ⟨_, rfl⟩
  obtain ⟨z2, e2⟩ : ∃ z, z = xs (k * 5 + 2) := ⟨_, rfl⟩
  obtain ⟨z3, e3⟩ : ∃ z, z = xs (k * 5 + 3) := ⟨_, rfl⟩
  obtain ⟨z4, e4⟩ : ∃ z, z = xs (k * 5 + 4) := ⟨_, rfl⟩
  obtain ⟨⟨fs, hfs⟩, hlc⟩ := CW_hd hc
  obtain ⟨⟨gs, hgs⟩, hlm⟩ := MW_hd hm
  have hcd : (wc ++ wm)[0]? = some (x, .inr (4, fs)) := by rw [List.getElem?_append_left (by omega)]; exact hfs
  refine x_aload_n ok 2 dL_law_491 rfl rfl ?_
  refine x_aload_n ok 3 dL_law_492 rfl rfl ?_
  refine x_iload_n ok 0 dL_law_493 rfl rfl ?_
  refine x_iconst ok (nI 1) dL_law_494 (by decide) ?_
  refine x_iadd ok (nI (k * 5 + 1)) dL_law_495 (nN (nI_add _ _) (by omega)) ?_
  refine x_sld ok hX hN (k * 5 + 1) (by omega) dL_law_496 ?_
  rw [← e1]
  refine qL_70 ok (As := [.int z1]) (st := []) 0 hcd (P_lawLasts l D cI cZ cS hc hS hn) rfl (Nat.le_of_ble_eq_true rfl) (Nat.le_of_ble_eq_true rfl) (Nat.le_of_ble_eq_true rfl) dL_law_497 (List.range 44) (by decide) (law_hC1 hlc) (ws' := fun u => u.1 ++ wm) (st' := fun u => .int (lawLastsI (stF Ws) li L z1) :: []) (fun u => u.2) (fun u => law_hw1 hlc ((LW_len u).trans hlc)) (fun _ => rfl) (fun u hu => ?_)
  have hlu : u.1.length = 44 := (LW_len u).trans hlc
  have hmd : (u.1 ++ wm)[44]? = some (y, .inr (5, gs)) := by rw [List.getElem?_append_right (by omega), show 44 - u.1.length = 0 by omega]; exact hgs
  refine x_aload_n ok 1 dL_law_500 rfl rfl ?_
  refine x_aload_n ok 3 dL_law_501 rfl rfl ?_
  refine x_iload_n ok 0 dL_law_502 rfl rfl ?_
  refine x_iconst ok (nI 1) dL_law_503 (by decide) ?_
  refine x_iadd ok (nI (k * 5 + 1)) dL_law_504 (nN (nI_add _ _) (by omega)) ?_
  refine x_sld ok hX hN (k * 5 + 1) (by omega) dL_law_505 ?_
  rw [← e1]
  refine qL_73 ok (As := [.int z1]) (st := [.int (lawLastsI (stF Ws) li L z1)]) 44 hmd (E_lawLasts l D cI cZ cS hm hS hn) rfl (Nat.le_of_ble_eq_true rfl) (Nat.le_of_ble_eq_true rfl) (Nat.le_of_ble_eq_true rfl) dL_law_506 (List.range' 44 18) (by decide) (law_hC2 hlu hlm) (ws' := fun v => u.1 ++ v.1) (st' := fun v => [.int (lawLastsI (stF Ws) li L z1), .int (lawLastsI (stF Ws) li L z1)]) (fun v => v.2) (fun v => law_hw2 hlu hlm ((LW_len v).trans hlm)) (fun _ => rfl) (fun v hv => ?_)
  refine x_icmp_eq ok 920 dL_law_509 (by decide) (fun _ => ?_) (fun c => absurd rfl c)
  exact law_nx ok ih (oks_0 hS) hu hv
