set_option maxHeartbeats 4000000 in
set_option maxRecDepth 100000 in
theorem c3_has (l : Launch) (D : va_G) (cI cZ cS : ClassId) (w : Nat) (d : Nat) (t : Nat) (W : Nat) (x : Int32)  : CO l D (TY cI cZ cS) yX3_has cX3_has 2 (some .boolean) 0 0 0 0 [.ref w, .int x] [(w, .inr (3, [.ref d, .ref t, .int (nI W)]))] (σ := Unit) (fun u => some (.int (bz (hasB x W)))) (fun u => [(w, .inr (3, [.ref d, .ref t, .int (nI W)]))]) (fun u => True) := by
  refine CO_mkz (by decide +kernel) (Nat.le_of_ble_eq_true rfl) (fun K ok ret => ?_)
  show XX K [(w, .inr (3, [.ref d, .ref t, .int (nI W)]))] [(0, .ref w), (1, .int x)] 0 []
  refine x_iload_n ok 1 dX3_has_0 rfl rfl ?_
  refine x_if_lt ok 16 dX3_has_1 (by decide) (fun c_1 => ?_) (fun c_1 => ?_)
  · skip
    refine x_iconst ok (nI 0) dX3_has_16 (by decide) ?_
    exact ret () _ _ _ (false) dX3_has_17 (rfl) (by simp [hasB, c_1]) (trivial)
  · skip
    refine x_iload_n ok 1 dX3_has_4 rfl rfl ?_
    refine x_aload_n ok 0 dX3_has_5 rfl rfl ?_
    refine gX3_18 ok dX3_has_6 0 rfl rfl ?_
    refine x_icmp_ge ok 16 dX3_has_9 (by decide) (fun c_9 => ?_) (fun c_9 => ?_)
    · skip
      refine x_iconst ok (nI 0) dX3_has_16 (by decide) ?_
      exact ret () _ _ _ (false) dX3_has_17 (rfl) (by simp [hasB, c_1, c_9]) (trivial)
    · skip
      refine x_iconst ok (nI 1) dX3_has_12 (by decide) ?_
      refine x_goto ok 17 dX3_has_13 (by decide) ?_
      exact ret () _ _ _ (true) dX3_has_17 (rfl) (by simp [hasB, c_1, c_9]) (trivial)

set_option maxHeartbeats 4000000 in
set_option maxRecDepth 100000 in
theorem c3_depthOf (l : Launch) (D : va_G) (cI cZ cS : ClassId) (w : Nat) (d : Nat) (t : Nat) (W : Nat) (df : Nat → Int32) (k : Nat) (hk : k < 4) : CO l D (TY cI cZ cS) yX3_depthOf cX3_depthOf 2 (some .int) 0 0 0 0 [.ref w, .int (nI k)] [(w, .inr (3, [.ref d, .ref t, .int (nI W)])), (d, .inl (cI, 4, .inl df))] (σ := Unit) (fun u => some (.int (df k))) (fun u => [(w, .inr (3, [.ref d, .ref t, .int (nI W)])), (d, .inl (cI, 4, .inl df))]) (fun u => True) := by
  refine CO_mki (by decide +kernel) (Nat.le_of_ble_eq_true rfl) (fun K ok ret => ?_)
  show XX K [(w, .inr (3, [.ref d, .ref t, .int (nI W)])), (d, .inl (cI, 4, .inl df))] [(0, .ref w), (1, .int (nI k))] 0 []
  refine x_iload_n ok 1 dX3_depthOf_0 rfl rfl ?_
  refine x_if_ltN ok dX3_depthOf_1 (by omega) (by decide) ?_
  refine x_iload_n ok 1 dX3_depthOf_4 rfl rfl ?_
  refine x_aload_n ok 0 dX3_depthOf_5 rfl rfl ?_
  refine gX3_9 ok dX3_depthOf_6 0 rfl rfl ?_
  refine x_alen ok 1 0 (nI 4) dX3_depthOf_9 rfl rfl rfl ?_
  refine x_icmp_geN ok 22 dX3_depthOf_10 (by decide) (by omega) (by omega) (fun c_10 => absurd c_10 (by omega)) (fun c_10 => ?_)
  refine x_aload_n ok 0 dX3_depthOf_13 rfl rfl ?_
  refine gX3_9 ok dX3_depthOf_14 0 rfl rfl ?_
  refine x_iload_n ok 1 dX3_depthOf_17 rfl rfl ?_
  refine x_iald ok 1 0 k dX3_depthOf_18 rfl rfl (rfl) (by omega) (by decide) ((df k)) (rfl) ?_
  refine x_goto ok 23 dX3_depthOf_19 (by decide) ?_
  exact ret () _ _ _ ((df k)) dX3_depthOf_23 (rfl) (rfl) (trivial)

set_option maxHeartbeats 4000000 in
set_option maxRecDepth 100000 in
theorem c3_stoneOf (l : Launch) (D : va_G) (cI cZ cS : ClassId) (w : Nat) (d : Nat) (t : Nat) (W : Nat) (tf : Nat → Int32) (k : Nat) (hk : k < 4) : CO l D (TY cI cZ cS) yX3_stoneOf cX3_stoneOf 2 (some .int) 0 0 0 0 [.ref w, .int (nI k)] [(w, .inr (3, [.ref d, .ref t, .int (nI W)])), (t, .inl (cI, 4, .inl tf))] (σ := Unit) (fun u => some (.int (tf k))) (fun u => [(w, .inr (3, [.ref d, .ref t, .int (nI W)])), (t, .inl (cI, 4, .inl tf))]) (fun u => True) := by
  refine CO_mki (by decide +kernel) (Nat.le_of_ble_eq_true rfl) (fun K ok ret => ?_)
  show XX K [(w, .inr (3, [.ref d, .ref t, .int (nI W)])), (t, .inl (cI, 4, .inl tf))] [(0, .ref w), (1, .int (nI k))] 0 []
  refine x_iload_n ok 1 dX3_stoneOf_0 rfl rfl ?_
  refine x_if_ltN ok dX3_stoneOf_1 (by omega) (by decide) ?_
  refine x_iload_n ok 1 dX3_stoneOf_4 rfl rfl ?_
  refine x_aload_n ok 0 dX3_stoneOf_5 rfl rfl ?_
  refine gX3_15 ok dX3_stoneOf_6 0 rfl rfl ?_
  refine x_alen ok 1 0 (nI 4) dX3_stoneOf_9 rfl rfl rfl ?_
  refine x_icmp_geN ok 22 dX3_stoneOf_10 (by decide) (by omega) (by omega) (fun c_10 => absurd c_10 (by omega)) (fun c_10 => ?_)
  refine x_aload_n ok 0 dX3_stoneOf_13 rfl rfl ?_
  refine gX3_15 ok dX3_stoneOf_14 0 rfl rfl ?_
  refine x_iload_n ok 1 dX3_stoneOf_17 rfl rfl ?_
  refine x_iald ok 1 0 k dX3_stoneOf_18 rfl rfl (rfl) (by omega) (by decide) ((tf k)) (rfl) ?_
  refine x_goto ok 23 dX3_stoneOf_19 (by decide) ?_
  exact ret () _ _ _ ((tf k)) dX3_stoneOf_23 (rfl) (rfl) (trivial)

set_option maxHeartbeats 4000000 in
set_option maxRecDepth 100000 in
theorem c3_wearIn (l : Launch) (D : va_G) (cI cZ cS : ClassId) (w : Nat) (d : Nat) (t : Nat) (W : Nat) (tf : Nat → Int32) (k : Nat) (lid : Bool) (v : Nat) (hk : k < 4) (hv : tf k = nI v) : CO l D (TY cI cZ cS) yX3_wearIn cX3_wearIn 3 (some .int) 1 21 0 0 [.ref w, .int (nI k), .int (bz lid)] [(w, .inr (3, [.ref d, .ref t, .int (nI W)])), (t, .inl (cI, 4, .inl tf))] (σ := Unit) (fun u => some (.int (nI (v + (if lid = true then 0 else 1))))) (fun u => [(w, .inr (3, [.ref d, .ref t, .int (nI W)])), (t, .inl (cI, 4, .inl tf))]) (fun u => True) := by
  refine CO_mki (by decide +kernel) (Nat.le_of_ble_eq_true rfl) (fun K ok ret => ?_)
  show XX K [(w, .inr (3, [.ref d, .ref t, .int (nI W)])), (t, .inl (cI, 4, .inl tf))] [(0, .ref w), (1, .int (nI k)), (2, .int (bz lid))] 0 []
  refine x_aload_n ok 0 dX3_wearIn_0 rfl rfl ?_
  refine x_iload_n ok 1 dX3_wearIn_1 rfl rfl ?_
  refine qX3_22 ok (As := [.int (nI k)]) (st := []) 0 rfl (c3_stoneOf l D cI cZ cS w d t W tf k (by first | assumption | omega)) rfl (Nat.le_of_ble_eq_true rfl) (Nat.le_of_ble_eq_true rfl) (Nat.le_of_ble_eq_true rfl) dX3_wearIn_2 [0, 1] (by decide) rfl (ws' := fun u => [(w, .inr (3, [.ref d, .ref t, .int (nI W)])), (t, .inl (cI, 4, .inl tf))]) (st' := fun u => [.int (tf k)]) (fun _ => rfl) (fun _ => rfl) (fun _ => rfl) (fun _ _ => ?_)
  refine x_eq (st' := [.int (nI v)]) rfl rfl (by rw [hv]) ?_
  refine x_iload_n ok 2 dX3_wearIn_5 rfl rfl ?_
  refine x_if_eqB ok 13 dX3_wearIn_6 (by decide) (fun c_6 => ?_) (fun c_6 => ?_)
  · skip
    refine x_iconst ok (nI 1) dX3_wearIn_13 (by decide) ?_
    refine x_iadd ok (nI (v + 1)) dX3_wearIn_14 (nN (nI_add _ _) (by omega)) ?_
    exact ret () _ _ _ (nI (v + 1)) dX3_wearIn_15 (rfl) (by simp [c_6]) (trivial)
  · skip
    refine x_iconst ok (nI 0) dX3_wearIn_9 (by decide) ?_
    refine x_goto ok 14 dX3_wearIn_10 (by decide) ?_
    refine x_iadd ok (nI v) dX3_wearIn_14 (nN (nI_add _ _) (by omega)) ?_
    exact ret () _ _ _ (nI v) dX3_wearIn_15 (rfl) (by simp [c_6]) (trivial)

set_option maxHeartbeats 4000000 in
set_option maxRecDepth 100000 in
theorem c1_has (l : Launch) (D : va_G) (cI cZ cS : ClassId) (h : Nat) (c : Nat) (n : Nat) (li : Nat) (ye : Int32) (br : Int32) (x : Int32)  : CO l D (TY cI cZ cS) yX1_has cX1_has 2 (some .boolean) 0 0 0 0 [.ref h, .int x] [(h, .inr (1, [.ref c, .int (nI n), .int (nI li), .int ye, .int br]))] (σ := Unit) (fun u => some (.int (bz (hasB x n)))) (fun u => [(h, .inr (1, [.ref c, .int (nI n), .int (nI li), .int ye, .int br]))]) (fun u => True) := by
  refine CO_mkz (by decide +kernel) (Nat.le_of_ble_eq_true rfl) (fun K ok ret => ?_)
  show XX K [(h, .inr (1, [.ref c, .int (nI n), .int (nI li), .int ye, .int br]))] [(0, .ref h), (1, .int x)] 0 []
  refine x_iload_n ok 1 dX1_has_0 rfl rfl ?_
  refine x_if_lt ok 16 dX1_has_1 (by decide) (fun c_1 => ?_) (fun c_1 => ?_)
  · skip
    refine x_iconst ok (nI 0) dX1_has_16 (by decide) ?_
    exact ret () _ _ _ (false) dX1_has_17 (rfl) (by simp [hasB, c_1]) (trivial)
  · skip
    refine x_iload_n ok 1 dX1_has_4 rfl rfl ?_
    refine x_aload_n ok 0 dX1_has_5 rfl rfl ?_
    refine gX1_15 ok dX1_has_6 0 rfl rfl ?_
    refine x_icmp_ge ok 16 dX1_has_9 (by decide) (fun c_9 => ?_) (fun c_9 => ?_)
    · skip
      refine x_iconst ok (nI 0) dX1_has_16 (by decide) ?_
      exact ret () _ _ _ (false) dX1_has_17 (rfl) (by simp [hasB, c_1, c_9]) (trivial)
    · skip
      refine x_iconst ok (nI 1) dX1_has_12 (by decide) ?_
      refine x_goto ok 17 dX1_has_13 (by decide) ?_
      exact ret () _ _ _ (true) dX1_has_17 (rfl) (by simp [hasB, c_1, c_9]) (trivial)

set_option maxHeartbeats 4000000 in
set_option maxRecDepth 100000 in
theorem c1_get (l : Launch) (D : va_G) (cI cZ cS : ClassId) (h : Nat) (c : Nat) (n : Nat) (li : Nat) (ye : Int32) (br : Int32) (f : Nat → Int32) (s : Nat) (t : Nat) (hk : s * 6 + t < 48) : CO l D (TY cI cZ cS) yX1_get cX1_get 4 (some .int) 0 0 0 0 [.ref h, .int (nI s), .int (nI t)] [(h, .inr (1, [.ref c, .int (nI n), .int (nI li), .int ye, .int br])), (c, .inl (cI, 48, .inl f))] (σ := Unit) (fun u => some (.int (f (s * 6 + t)))) (fun u => [(h, .inr (1, [.ref c, .int (nI n), .int (nI li), .int ye, .int br])), (c, .inl (cI, 48, .inl f))]) (fun u => True) := by
  refine CO_mki (by decide +kernel) (Nat.le_of_ble_eq_true rfl) (fun K ok ret => ?_)
  show XX K [(h, .inr (1, [.ref c, .int (nI n), .int (nI li), .int ye, .int br])), (c, .inl (cI, 48, .inl f))] [(0, .ref h), (1, .int (nI s)), (2, .int (nI t))] 0 []
  refine x_iload_n ok 1 dX1_get_0 rfl rfl ?_
  refine x_bipush ok (nI 6) dX1_get_1 (by decide) ?_
  refine x_imul ok (nI (s * 6)) dX1_get_3 (nN (pk_mul _ _) (by omega)) ?_
  refine x_iload_n ok 2 dX1_get_4 rfl rfl ?_
  refine x_iadd ok (nI (s * 6 + t)) dX1_get_5 (nN (nI_add _ _) (by omega)) ?_
  refine x_istore_n ok (lv' := [(3, .int (nI (s * 6 + t))), (0, .ref h), (1, .int (nI s)), (2, .int (nI t))]) dX1_get_6 rfl (by decide) rfl ?_
  refine x_iload_n ok 0 dX1_get_7 rfl rfl ?_
  refine x_if_ltN ok dX1_get_8 (by omega) (by decide) ?_
  refine x_iload_n ok 0 dX1_get_11 rfl rfl ?_
  refine x_aload_n ok 1 dX1_get_12 rfl rfl ?_
  refine gX1_9 ok dX1_get_13 0 rfl rfl ?_
  refine x_alen ok 1 0 (nI 48) dX1_get_16 rfl rfl rfl ?_
  refine x_icmp_geN ok 29 dX1_get_17 (by decide) (by omega) (by omega) (fun c_17 => absurd c_17 (by omega)) (fun c_17 => ?_)
  refine x_aload_n ok 1 dX1_get_20 rfl rfl ?_
  refine gX1_9 ok dX1_get_21 0 rfl rfl ?_
  refine x_iload_n ok 0 dX1_get_24 rfl rfl ?_
  refine x_iald ok 1 0 (s * 6 + t) dX1_get_25 rfl rfl (rfl) (by omega) (by decide) ((f (s * 6 + t))) (rfl) ?_
  refine x_goto ok 30 dX1_get_26 (by decide) ?_
  exact ret () _ _ _ ((f (s * 6 + t))) dX1_get_30 (rfl) (rfl) (trivial)

set_option maxHeartbeats 4000000 in
set_option maxRecDepth 100000 in
theorem c1_set (l : Launch) (D : va_G) (cI cZ cS : ClassId) (h : Nat) (c : Nat) (n : Nat) (li : Nat) (ye : Int32) (br : Int32) (f : Nat → Int32) (s : Nat) (t : Nat) (v : Int32) (hk : s * 6 + t < 48) : CO l D (TY cI cZ cS) yX1_set cX1_set 5 none 0 0 0 0 [.ref h, .int (nI s), .int (nI t), .int v] [(h, .inr (1, [.ref c, .int (nI n), .int (nI li), .int ye, .int br])), (c, .inl (cI, 48, .inl f))] (σ := Unit) (fun u => none) (fun u => [(h, .inr (1, [.ref c, .int (nI n), .int (nI li), .int ye, .int br])), (c, .inl (cI, 48, .inl (upd f (s * 6 + t) v)))]) (fun u => True) := by
  refine CO_mkv (by decide +kernel) (Nat.le_of_ble_eq_true rfl) (fun K ok ret => ?_)
  show XX K [(h, .inr (1, [.ref c, .int (nI n), .int (nI li), .int ye, .int br])), (c, .inl (cI, 48, .inl f))] [(0, .ref h), (1, .int (nI s)), (2, .int (nI t)), (3, .int v)] 0 []
  refine x_iload_n ok 1 dX1_set_0 rfl rfl ?_
  refine x_bipush ok (nI 6) dX1_set_1 (by decide) ?_
  refine x_imul ok (nI (s * 6)) dX1_set_3 (nN (pk_mul _ _) (by omega)) ?_
  refine x_iload_n ok 2 dX1_set_4 rfl rfl ?_
  refine x_iadd ok (nI (s * 6 + t)) dX1_set_5 (nN (nI_add _ _) (by omega)) ?_
  refine x_istore ok (lv' := [(4, .int (nI (s * 6 + t))), (0, .ref h), (1, .int (nI s)), (2, .int (nI t)), (3, .int v)]) dX1_set_6 (by decide) rfl ?_
  refine x_iload ok 0 dX1_set_8 rfl ?_
  refine x_if_ltN ok dX1_set_10 (by omega) (by decide) ?_
  refine x_iload ok 0 dX1_set_13 rfl ?_
  refine x_aload_n ok 1 dX1_set_15 rfl rfl ?_
  refine gX1_9 ok dX1_set_16 0 rfl rfl ?_
  refine x_alen ok 1 0 (nI 48) dX1_set_19 rfl rfl rfl ?_
  refine x_icmp_geN ok 31 dX1_set_20 (by decide) (by omega) (by omega) (fun c_20 => absurd c_20 (by omega)) (fun c_20 => ?_)
  refine x_aload_n ok 1 dX1_set_23 rfl rfl ?_
  refine gX1_9 ok dX1_set_24 0 rfl rfl ?_
  refine x_iload ok 0 dX1_set_27 rfl ?_
  refine x_iload_n ok 4 dX1_set_29 rfl rfl ?_
  refine x_iast ok 1 0 (s * 6 + t) (ws' := [(h, .inr (1, [.ref c, .int (nI n), .int (nI li), .int ye, .int br])), (c, .inl (cI, 48, .inl (upd f (s * 6 + t) v)))]) dX1_set_30 rfl rfl (rfl) (by omega) (by decide) (rfl) rfl ?_
  exact ret () _ _ _ dX1_set_31 (rfl) (trivial)

set_option maxHeartbeats 4000000 in
set_option maxRecDepth 100000 in
theorem c1_hasLid (l : Launch) (D : va_G) (cI cZ cS : ClassId) (h : Nat) (c : Nat) (n : Nat) (li : Nat) (ye : Int32) (br : Int32) (w : Nat) (hli : li < 256) (hw : w < 8) : CO l D (TY cI cZ cS) yX1_hasLid cX1_hasLid 2 (some .boolean) 0 0 0 0 [.ref h, .int (nI w)] [(h, .inr (1, [.ref c, .int (nI n), .int (nI li), .int ye, .int br]))] (σ := Unit) (fun u => some (.int (bz (li.testBit w)))) (fun u => [(h, .inr (1, [.ref c, .int (nI n), .int (nI li), .int ye, .int br]))]) (fun u => True) := by
  refine CO_mkz (by decide +kernel) (Nat.le_of_ble_eq_true rfl) (fun K ok ret => ?_)
  show XX K [(h, .inr (1, [.ref c, .int (nI n), .int (nI li), .int ye, .int br]))] [(0, .ref h), (1, .int (nI w))] 0 []
  refine x_aload_n ok 0 dX1_hasLid_0 rfl rfl ?_
  refine gX1_19 ok dX1_hasLid_1 0 rfl rfl ?_
  refine x_iload_n ok 1 dX1_hasLid_4 rfl rfl ?_
  refine x_ishr ok (((nI li) >>> ((nI w) &&& 31))) dX1_hasLid_5 (rfl) ?_
  refine x_iconst ok (nI 1) dX1_hasLid_6 (by decide) ?_
  refine x_iand ok (nI ((li.testBit w).toNat)) dX1_hasLid_7 (tb0 li hli w hw) ?_
  refine x_iconst ok (nI 1) dX1_hasLid_8 (by decide) ?_
  refine x_icmp_neN ok 16 dX1_hasLid_9 (by decide) (by first | omega | (have := (li.testBit w).toNat_le; omega)) (by first | omega | (have := (li.testBit w).toNat_le; omega)) (fun c_9 => ?_) (fun c_9 => ?_)
  · skip
    refine x_iconst ok (nI 0) dX1_hasLid_16 (by decide) ?_
    exact ret () _ _ _ (false) dX1_hasLid_17 (rfl) (by revert c_9; cases li.testBit w <;> simp) (trivial)
  · skip
    refine x_iconst ok (nI 1) dX1_hasLid_12 (by decide) ?_
    refine x_goto ok 17 dX1_hasLid_13 (by decide) ?_
    exact ret () _ _ _ (true) dX1_hasLid_17 (rfl) (by revert c_9; cases li.testBit w <;> simp) (trivial)
