set_option maxHeartbeats 4000000 in
set_option maxRecDepth 100000 in
theorem c1_getL (l : Launch) (D : va_G) (cI cZ cS : ClassId) (h : Nat) (c : Nat) (L : List Sg) (li : Nat) (ye : Int32) (br : Int32) (f : Nat → Int32) (s : Nat) (t : Nat) (hf : hs f L) (hs1 : s < L.length) (ht : t < 6) (h8 : L.length ≤ 8) : CO l D (TY cI cZ cS) yX1_get cX1_get 4 (some .int) 0 0 0 0 [.ref h, .int (nI s), .int (nI t)] [(h, .inr (1, [.ref c, .int (nI L.length), .int (nI li), .int ye, .int br])), (c, .inl (cI, 48, .inl f))] (σ := Unit) (fun u => some (.int (nI (sg L s t)))) (fun u => [(h, .inr (1, [.ref c, .int (nI L.length), .int (nI li), .int ye, .int br])), (c, .inl (cI, 48, .inl f))]) (fun u => True) := by
  have q := c1_get l D cI cZ cS h c L.length li ye br f s t (by omega)
  rw [hf s t hs1 ht] at q
  exact q

set_option maxHeartbeats 4000000 in
set_option maxRecDepth 100000 in
theorem c1_clear (l : Launch) (D : va_G) (cI cZ cS : ClassId) (h : Nat) (c : Nat) (n : Nat) (li : Nat) (ye : Int32) (br : Int32)  : CO l D (TY cI cZ cS) yX1_clear cX1_clear 1 none 0 0 0 0 [.ref h] [(h, .inr (1, [.ref c, .int (nI n), .int (nI li), .int ye, .int br]))] (σ := Unit) (fun u => none) (fun u => [(h, .inr (1, [.ref c, .int (nI 0), .int (nI 0), .int (nI 0), .int (nI 0)]))]) (fun u => True) := by
  refine CO_mkv (by decide +kernel) (Nat.le_of_ble_eq_true rfl) (fun K ok ret => ?_)
  show XX K [(h, .inr (1, [.ref c, .int (nI n), .int (nI li), .int ye, .int br]))] [(0, .ref h)] 0 []
  refine x_aload_n ok 0 dX1_clear_0 rfl rfl ?_
  refine x_iconst ok (nI 0) dX1_clear_1 (by decide) ?_
  refine pX1_15 ok dX1_clear_2 0 rfl rfl rfl (Nat.le_of_ble_eq_true rfl) (ws' := [(h, .inr (1, [.ref c, .int (nI 0), .int (nI li), .int ye, .int br]))]) rfl ?_
  refine x_aload_n ok 0 dX1_clear_5 rfl rfl ?_
  refine x_iconst ok (nI 0) dX1_clear_6 (by decide) ?_
  refine pX1_19 ok dX1_clear_7 0 rfl rfl rfl (Nat.le_of_ble_eq_true rfl) (ws' := [(h, .inr (1, [.ref c, .int (nI 0), .int (nI 0), .int ye, .int br]))]) rfl ?_
  refine x_aload_n ok 0 dX1_clear_10 rfl rfl ?_
  refine x_iconst ok (nI 0) dX1_clear_11 (by decide) ?_
  refine pX1_22 ok dX1_clear_12 0 rfl rfl rfl (Nat.le_of_ble_eq_true rfl) (ws' := [(h, .inr (1, [.ref c, .int (nI 0), .int (nI 0), .int (nI 0), .int br]))]) rfl ?_
  refine x_aload_n ok 0 dX1_clear_15 rfl rfl ?_
  refine x_iconst ok (nI 0) dX1_clear_16 (by decide) ?_
  refine pX1_25 ok dX1_clear_17 0 rfl rfl rfl (Nat.le_of_ble_eq_true rfl) (ws' := [(h, .inr (1, [.ref c, .int (nI 0), .int (nI 0), .int (nI 0), .int (nI 0)]))]) rfl ?_
  exact ret () _ _ _ dX1_clear_20 (rfl) (trivial)

set_option maxHeartbeats 4000000 in
set_option maxRecDepth 100000 in
theorem c1_take (l : Launch) (D : va_G) (cI cZ cS : ClassId) (h : Nat) (c : Nat) (n0 : Nat) (li0 : Nat) (ye0 : Int32) (br0 : Int32) (f0 : Nat → Int32) (h2 : Nat) (c2 : Nat) (L : List Sg) (li : Nat) (ye : Int32) (br : Int32) (f : Nat → Int32) (hf : hs f L) (h8 : L.length ≤ 8) : CO l D (TY cI cZ cS) yX1_take cX1_take 4 none 1 14 0 0 [.ref h, .ref h2] [(h, .inr (1, [.ref c, .int (nI n0), .int (nI li0), .int ye0, .int br0])), (c, .inl (cI, 48, .inl f0)), (h2, .inr (1, [.ref c2, .int (nI L.length), .int (nI li), .int ye, .int br])), (c2, .inl (cI, 48, .inl f))] (σ := (Nat → Int32)) (fun u => none) (fun u => [(h, .inr (1, [.ref c, .int (nI L.length), .int (nI li), .int ye, .int br])), (c, .inl (cI, 48, .inl u)), (h2, .inr (1, [.ref c2, .int (nI L.length), .int (nI li), .int ye, .int br])), (c2, .inl (cI, 48, .inl f))]) (fun u => (hs u L)) := by
  refine CO_mkv (by decide +kernel) (Nat.le_of_ble_eq_true rfl) (fun K ok ret => ?_)
  show XX K [(h, .inr (1, [.ref c, .int (nI n0), .int (nI li0), .int ye0, .int br0])), (c, .inl (cI, 48, .inl f0)), (h2, .inr (1, [.ref c2, .int (nI L.length), .int (nI li), .int ye, .int br])), (c2, .inl (cI, 48, .inl f))] [(0, .ref h), (1, .ref h2)] 0 []
  refine x_aload_n ok 1 dX1_take_0 rfl rfl ?_
  refine gX1_15 ok dX1_take_1 2 rfl rfl ?_
  refine x_bipush ok (nI 6) dX1_take_4 (by decide) ?_
  refine x_imul ok (nI (L.length * 6)) dX1_take_6 (nN (pk_mul _ _) (by omega)) ?_
  refine x_aload_n ok 0 dX1_take_7 rfl rfl ?_
  refine gX1_9 ok dX1_take_8 0 rfl rfl ?_
  refine x_alen ok 1 0 (nI 48) dX1_take_11 rfl rfl rfl ?_
  refine x_aload_n ok 1 dX1_take_12 rfl rfl ?_
  refine gX1_9 ok dX1_take_13 2 rfl rfl ?_
  refine x_alen ok 3 0 (nI 48) dX1_take_16 rfl rfl rfl ?_
  refine x_mmin ok LX1_28 H_minT N_Math H_minC (Nat.le_of_ble_eq_true rfl) (Nat.le_of_ble_eq_true rfl) dX1_take_17 (nI 48) (if_neg (by decide)) ?_
  refine x_mmin ok LX1_28 H_minT N_Math H_minC (Nat.le_of_ble_eq_true rfl) (Nat.le_of_ble_eq_true rfl) dX1_take_20 (nI (L.length * 6)) (if_neg (fun q => by have := (nI_ltI (by omega) (by omega)).mp q; omega)) ?_
  refine x_istore_n ok (lv' := [(2, .int (nI (L.length * 6))), (0, .ref h), (1, .ref h2)]) dX1_take_23 rfl (by decide) rfl ?_
  refine x_iconst ok (nI 0) dX1_take_24 (by decide) ?_
  refine x_istore_n ok (lv' := [(3, .int (nI 0)), (2, .int (nI (L.length * 6))), (0, .ref h), (1, .ref h2)]) dX1_take_25 rfl (by decide) rfl ?_
  have L_26 : ∀ (n_26 : Nat) (i : Nat) (g : Nat → Int32), L.length * 6 - i < n_26 → (i ≤ L.length * 6) → (∀ j, j < i → g j = f j) → XX K [(h, .inr (1, [.ref c, .int (nI n0), .int (nI li0), .int ye0, .int br0])), (c, .inl (cI, 48, .inl g)), (h2, .inr (1, [.ref c2, .int (nI L.length), .int (nI li), .int ye, .int br])), (c2, .inl (cI, 48, .inl f))] [(3, .int (nI i)), (2, .int (nI (L.length * 6))), (0, .ref h), (1, .ref h2)] 26 [] := by
    intro n_26
    induction n_26 with
    | zero => intro i g hm; exact absurd hm (Nat.not_lt_zero _)
    | succ n_26 ih_26 =>
      intro i g hm_26 hi hg
      refine x_iload_n ok 0 dX1_take_26 rfl rfl ?_
      refine x_iload_n ok 1 dX1_take_27 rfl rfl ?_
      refine x_icmp_geN ok 49 dX1_take_28 (by decide) (by omega) (by omega) (fun c_28 => ?_) (fun c_28 => ?_)
      · skip
        refine x_aload_n ok 2 dX1_take_49 rfl rfl ?_
        refine x_aload_n ok 3 dX1_take_50 rfl rfl ?_
        refine gX1_15 ok dX1_take_51 2 rfl rfl ?_
        refine pX1_15 ok dX1_take_54 0 rfl rfl rfl (Nat.le_of_ble_eq_true rfl) (ws' := [(h, .inr (1, [.ref c, .int (nI L.length), .int (nI li0), .int ye0, .int br0])), (c, .inl (cI, 48, .inl g)), (h2, .inr (1, [.ref c2, .int (nI L.length), .int (nI li), .int ye, .int br])), (c2, .inl (cI, 48, .inl f))]) rfl ?_
        refine x_aload_n ok 2 dX1_take_57 rfl rfl ?_
        refine x_aload_n ok 3 dX1_take_58 rfl rfl ?_
        refine gX1_19 ok dX1_take_59 2 rfl rfl ?_
        refine pX1_19 ok dX1_take_62 0 rfl rfl rfl (Nat.le_of_ble_eq_true rfl) (ws' := [(h, .inr (1, [.ref c, .int (nI L.length), .int (nI li), .int ye0, .int br0])), (c, .inl (cI, 48, .inl g)), (h2, .inr (1, [.ref c2, .int (nI L.length), .int (nI li), .int ye, .int br])), (c2, .inl (cI, 48, .inl f))]) rfl ?_
        refine x_aload_n ok 2 dX1_take_65 rfl rfl ?_
        refine x_aload_n ok 3 dX1_take_66 rfl rfl ?_
        refine gX1_22 ok dX1_take_67 2 rfl rfl ?_
        refine pX1_22 ok dX1_take_70 0 rfl rfl rfl (Nat.le_of_ble_eq_true rfl) (ws' := [(h, .inr (1, [.ref c, .int (nI L.length), .int (nI li), .int ye, .int br0])), (c, .inl (cI, 48, .inl g)), (h2, .inr (1, [.ref c2, .int (nI L.length), .int (nI li), .int ye, .int br])), (c2, .inl (cI, 48, .inl f))]) rfl ?_
        refine x_aload_n ok 2 dX1_take_73 rfl rfl ?_
        refine x_aload_n ok 3 dX1_take_74 rfl rfl ?_
        refine gX1_25 ok dX1_take_75 2 rfl rfl ?_
        refine pX1_25 ok dX1_take_78 0 rfl rfl rfl (Nat.le_of_ble_eq_true rfl) (ws' := [(h, .inr (1, [.ref c, .int (nI L.length), .int (nI li), .int ye, .int br])), (c, .inl (cI, 48, .inl g)), (h2, .inr (1, [.ref c2, .int (nI L.length), .int (nI li), .int ye, .int br])), (c2, .inl (cI, 48, .inl f))]) rfl ?_
        exact ret g _ _ _ dX1_take_81 (rfl) (fun i1 k hi1 hk => by rw [hg _ (by omega)]; exact hf i1 k hi1 hk)
      · skip
        refine x_aload_n ok 2 dX1_take_31 rfl rfl ?_
        refine gX1_9 ok dX1_take_32 0 rfl rfl ?_
        refine x_iload_n ok 0 dX1_take_35 rfl rfl ?_
        refine x_aload_n ok 3 dX1_take_36 rfl rfl ?_
        refine gX1_9 ok dX1_take_37 2 rfl rfl ?_
        refine x_iload_n ok 0 dX1_take_40 rfl rfl ?_
        refine x_iald ok 3 0 i dX1_take_41 rfl rfl (rfl) (by omega) (by decide) ((f i)) (rfl) ?_
        refine x_iast ok 1 0 i (ws' := [(h, .inr (1, [.ref c, .int (nI n0), .int (nI li0), .int ye0, .int br0])), (c, .inl (cI, 48, .inl (upd g i (f i)))), (h2, .inr (1, [.ref c2, .int (nI L.length), .int (nI li), .int ye, .int br])), (c2, .inl (cI, 48, .inl f))]) dX1_take_42 rfl rfl (rfl) (by omega) (by decide) (rfl) rfl ?_
        refine x_iinc ok (v := nI (i + 1)) (lv' := [(3, .int (nI (i + 1))), (2, .int (nI (L.length * 6))), (0, .ref h), (1, .ref h2)]) dX1_take_43 0 rfl (nN (nI_inc _ 1) (by omega)) (by decide) rfl ?_
        refine x_goto ok 26 dX1_take_46 (by decide) ?_
        exact ih_26 (i + 1) (upd g i (f i)) (by omega) (by first | assumption | omega) (fun j hj => by rcases Nat.lt_or_ge j i with q | q; (rw [upd_n (by omega)]; exact hg j q); (rw [show j = i by omega, upd_s]))
  exact L_26 _ 0 f0 (Nat.lt_succ_self _) (by first | assumption | omega) (fun j hj => absurd hj (Nat.not_lt_zero j))

set_option maxHeartbeats 4000000 in
set_option maxRecDepth 100000 in
theorem c1_add (l : Launch) (D : va_G) (cI cZ cS : ClassId) (h : Nat) (c : Nat) (L : List Sg) (li : Nat) (ye : Int32) (br : Int32) (f : Nat → Int32) (a : Nat) (w : Nat) (v : Nat) (p : Nat) (q : Nat) (hf : hs f L) (h8 : L.length < 8) : CO l D (TY cI cZ cS) yX1_add cX1_add 7 (some .int) 1 24 0 0 [.ref h, .int (nI a), .int (nI w), .int (nI v), .int (nI p), .int (nI q)] [(h, .inr (1, [.ref c, .int (nI L.length), .int (nI li), .int ye, .int br])), (c, .inl (cI, 48, .inl f))] (σ := (Nat → Int32)) (fun u => some (.int (nI L.length))) (fun u => [(h, .inr (1, [.ref c, .int (nI ((L ++ [mkS a w v p q]).length)), .int (nI li), .int ye, .int br])), (c, .inl (cI, 48, .inl u))]) (fun u => (hs u (L ++ [mkS a w v p q]))) := by
  refine CO_mki (by decide +kernel) (Nat.le_of_ble_eq_true rfl) (fun K ok ret => ?_)
  show XX K [(h, .inr (1, [.ref c, .int (nI L.length), .int (nI li), .int ye, .int br])), (c, .inl (cI, 48, .inl f))] [(0, .ref h), (1, .int (nI a)), (2, .int (nI w)), (3, .int (nI v)), (4, .int (nI p)), (5, .int (nI q))] 0 []
  refine x_aload_n ok 0 dX1_add_0 rfl rfl ?_
  refine gX1_15 ok dX1_add_1 0 rfl rfl ?_
  refine x_istore ok (lv' := [(6, .int (nI L.length)), (0, .ref h), (1, .int (nI a)), (2, .int (nI w)), (3, .int (nI v)), (4, .int (nI p)), (5, .int (nI q))]) dX1_add_4 (by decide) rfl ?_
  refine x_iload ok 0 dX1_add_6 rfl ?_
  refine x_bipush ok (nI 8) dX1_add_8 (by decide) ?_
  refine x_icmp_ltN ok 16 dX1_add_10 (by decide) (by omega) (by omega) (fun c_10 => ?_) (fun c_10 => absurd c_10 (by omega))
  refine x_aload_n ok 1 dX1_add_16 rfl rfl ?_
  refine x_iload ok 0 dX1_add_17 rfl ?_
  refine x_iconst ok (nI 0) dX1_add_19 (by decide) ?_
  refine x_iload_n ok 2 dX1_add_20 rfl rfl ?_
  refine qX1_34 ok (As := [.int (nI L.length), .int (nI 0), .int (nI a)]) (st := []) 0 rfl (c1_set l D cI cZ cS h c L.length li ye br f L.length 0 (nI a) (by first | assumption | omega)) rfl (Nat.le_of_ble_eq_true rfl) (Nat.le_of_ble_eq_true rfl) (Nat.le_of_ble_eq_true rfl) dX1_add_21 [0, 1] (by decide) rfl (ws' := fun u => [(h, .inr (1, [.ref c, .int (nI L.length), .int (nI li), .int ye, .int br])), (c, .inl (cI, 48, .inl (upd f (L.length * 6 + 0) (nI a))))]) (st' := fun u => []) (fun _ => rfl) (fun _ => rfl) (fun _ => rfl) (fun _ _ => ?_)
  refine x_aload_n ok 1 dX1_add_24 rfl rfl ?_
  refine x_iload ok 0 dX1_add_25 rfl ?_
  refine x_iconst ok (nI 1) dX1_add_27 (by decide) ?_
  refine x_iload_n ok 3 dX1_add_28 rfl rfl ?_
  refine qX1_34 ok (As := [.int (nI L.length), .int (nI 1), .int (nI w)]) (st := []) 0 rfl (c1_set l D cI cZ cS h c L.length li ye br (upd f (L.length * 6 + 0) (nI a)) L.length 1 (nI w) (by first | assumption | omega)) rfl (Nat.le_of_ble_eq_true rfl) (Nat.le_of_ble_eq_true rfl) (Nat.le_of_ble_eq_true rfl) dX1_add_29 [0, 1] (by decide) rfl (ws' := fun u => [(h, .inr (1, [.ref c, .int (nI L.length), .int (nI li), .int ye, .int br])), (c, .inl (cI, 48, .inl (upd (upd f (L.length * 6 + 0) (nI a)) (L.length * 6 + 1) (nI w))))]) (st' := fun u => []) (fun _ => rfl) (fun _ => rfl) (fun _ => rfl) (fun _ _ => ?_)
  refine x_aload_n ok 1 dX1_add_32 rfl rfl ?_
  refine x_iload ok 0 dX1_add_33 rfl ?_
  refine x_iconst ok (nI 2) dX1_add_35 (by decide) ?_
  refine x_iload_n ok 4 dX1_add_36 rfl rfl ?_
  refine qX1_34 ok (As := [.int (nI L.length), .int (nI 2), .int (nI v)]) (st := []) 0 rfl (c1_set l D cI cZ cS h c L.length li ye br (upd (upd f (L.length * 6 + 0) (nI a)) (L.length * 6 + 1) (nI w)) L.length 2 (nI v) (by first | assumption | omega)) rfl (Nat.le_of_ble_eq_true rfl) (Nat.le_of_ble_eq_true rfl) (Nat.le_of_ble_eq_true rfl) dX1_add_37 [0, 1] (by decide) rfl (ws' := fun u => [(h, .inr (1, [.ref c, .int (nI L.length), .int (nI li), .int ye, .int br])), (c, .inl (cI, 48, .inl (upd (upd (upd f (L.length * 6 + 0) (nI a)) (L.length * 6 + 1) (nI w)) (L.length * 6 + 2) (nI v))))]) (st' := fun u => []) (fun _ => rfl) (fun _ => rfl) (fun _ => rfl) (fun _ _ => ?_)
  refine x_aload_n ok 1 dX1_add_40 rfl rfl ?_
  refine x_iload ok 0 dX1_add_41 rfl ?_
  refine x_iconst ok (nI 3) dX1_add_43 (by decide) ?_
  refine x_iload ok 5 dX1_add_44 rfl ?_
  refine qX1_34 ok (As := [.int (nI L.length), .int (nI 3), .int (nI p)]) (st := []) 0 rfl (c1_set l D cI cZ cS h c L.length li ye br (upd (upd (upd f (L.length * 6 + 0) (nI a)) (L.length * 6 + 1) (nI w)) (L.length * 6 + 2) (nI v)) L.length 3 (nI p) (by first | assumption | omega)) rfl (Nat.le_of_ble_eq_true rfl) (Nat.le_of_ble_eq_true rfl) (Nat.le_of_ble_eq_true rfl) dX1_add_46 [0, 1] (by decide) rfl (ws' := fun u => [(h, .inr (1, [.ref c, .int (nI L.length), .int (nI li), .int ye, .int br])), (c, .inl (cI, 48, .inl (upd (upd (upd (upd f (L.length * 6 + 0) (nI a)) (L.length * 6 + 1) (nI w)) (L.length * 6 + 2) (nI v)) (L.length * 6 + 3) (nI p))))]) (st' := fun u => []) (fun _ => rfl) (fun _ => rfl) (fun _ => rfl) (fun _ _ => ?_)
  refine x_aload_n ok 1 dX1_add_49 rfl rfl ?_
  refine x_iload ok 0 dX1_add_50 rfl ?_
  refine x_iconst ok (nI 4) dX1_add_52 (by decide) ?_
  refine x_iconst ok (nI 0) dX1_add_53 (by decide) ?_
  refine qX1_34 ok (As := [.int (nI L.length), .int (nI 4), .int (nI 0)]) (st := []) 0 rfl (c1_set l D cI cZ cS h c L.length li ye br (upd (upd (upd (upd f (L.length * 6 + 0) (nI a)) (L.length * 6 + 1) (nI w)) (L.length * 6 + 2) (nI v)) (L.length * 6 + 3) (nI p)) L.length 4 (nI 0) (by first | assumption | omega)) rfl (Nat.le_of_ble_eq_true rfl) (Nat.le_of_ble_eq_true rfl) (Nat.le_of_ble_eq_true rfl) dX1_add_54 [0, 1] (by decide) rfl (ws' := fun u => [(h, .inr (1, [.ref c, .int (nI L.length), .int (nI li), .int ye, .int br])), (c, .inl (cI, 48, .inl (upd (upd (upd (upd (upd f (L.length * 6 + 0) (nI a)) (L.length * 6 + 1) (nI w)) (L.length * 6 + 2) (nI v)) (L.length * 6 + 3) (nI p)) (L.length * 6 + 4) (nI 0))))]) (st' := fun u => []) (fun _ => rfl) (fun _ => rfl) (fun _ => rfl) (fun _ _ => ?_)
  refine x_aload_n ok 1 dX1_add_57 rfl rfl ?_
  refine x_iload ok 0 dX1_add_58 rfl ?_
  refine x_iconst ok (nI 5) dX1_add_60 (by decide) ?_
  refine x_iload ok 6 dX1_add_61 rfl ?_
  refine qX1_34 ok (As := [.int (nI L.length), .int (nI 5), .int (nI q)]) (st := []) 0 rfl (c1_set l D cI cZ cS h c L.length li ye br (upd (upd (upd (upd (upd f (L.length * 6 + 0) (nI a)) (L.length * 6 + 1) (nI w)) (L.length * 6 + 2) (nI v)) (L.length * 6 + 3) (nI p)) (L.length * 6 + 4) (nI 0)) L.length 5 (nI q) (by first | assumption | omega)) rfl (Nat.le_of_ble_eq_true rfl) (Nat.le_of_ble_eq_true rfl) (Nat.le_of_ble_eq_true rfl) dX1_add_63 [0, 1] (by decide) rfl (ws' := fun u => [(h, .inr (1, [.ref c, .int (nI L.length), .int (nI li), .int ye, .int br])), (c, .inl (cI, 48, .inl (upd (upd (upd (upd (upd (upd f (L.length * 6 + 0) (nI a)) (L.length * 6 + 1) (nI w)) (L.length * 6 + 2) (nI v)) (L.length * 6 + 3) (nI p)) (L.length * 6 + 4) (nI 0)) (L.length * 6 + 5) (nI q))))]) (st' := fun u => []) (fun _ => rfl) (fun _ => rfl) (fun _ => rfl) (fun _ _ => ?_)
  refine x_aload_n ok 1 dX1_add_66 rfl rfl ?_
  refine x_dup ok dX1_add_67 rfl ?_
  refine gX1_15 ok dX1_add_68 0 rfl rfl ?_
  refine x_iconst ok (nI 1) dX1_add_71 (by decide) ?_
  refine x_iadd ok (nI (L.length + 1)) dX1_add_72 (nN (nI_add _ _) (by omega)) ?_
  refine x_eq (st' := [.int (nI ((L ++ [mkS a w v p q]).length)), .ref h]) rfl rfl (by simp) ?_
  refine pX1_15 ok dX1_add_73 0 rfl rfl rfl (Nat.le_of_ble_eq_true rfl) (ws' := [(h, .inr (1, [.ref c, .int (nI ((L ++ [mkS a w v p q]).length)), .int (nI li), .int ye, .int br])), (c, .inl (cI, 48, .inl (upd (upd (upd (upd (upd (upd f (L.length * 6 + 0) (nI a)) (L.length * 6 + 1) (nI w)) (L.length * 6 + 2) (nI v)) (L.length * 6 + 3) (nI p)) (L.length * 6 + 4) (nI 0)) (L.length * 6 + 5) (nI q))))]) rfl ?_
  refine x_iload ok 0 dX1_add_76 rfl ?_
  exact ret (upd (upd (upd (upd (upd (upd f (L.length * 6 + 0) (nI a)) (L.length * 6 + 1) (nI w)) (L.length * 6 + 2) (nI v)) (L.length * 6 + 3) (nI p)) (L.length * 6 + 4) (nI 0)) (L.length * 6 + 5) (nI q)) _ _ _ (nI L.length) dX1_add_78 (rfl) (rfl) (hs_add hf a w v p q)

set_option maxHeartbeats 4000000 in
set_option maxRecDepth 100000 in
theorem c1_songsIn (l : Launch) (D : va_G) (cI cZ cS : ClassId) (h : Nat) (c : Nat) (L : List Sg) (li : Nat) (ye : Int32) (br : Int32) (f : Nat → Int32) (W : Nat) (A : Nat) (w : Nat) (hf : hs f L) (hv : okL W A L) (hW : W ≤ 4) (hw : w < 8) : CO l D (TY cI cZ cS) yX1_songsIn cX1_songsIn 4 (some .int) 1 23 0 0 [.ref h, .int (nI w)] [(h, .inr (1, [.ref c, .int (nI L.length), .int (nI li), .int ye, .int br])), (c, .inl (cI, 48, .inl f))] (σ := Unit) (fun u => some (.int (nI (orN (sing1 L w) L.length)))) (fun u => [(h, .inr (1, [.ref c, .int (nI L.length), .int (nI li), .int ye, .int br])), (c, .inl (cI, 48, .inl f))]) (fun u => True) := by
  refine CO_mki (by decide +kernel) (Nat.le_of_ble_eq_true rfl) (fun K ok ret => ?_)
  show XX K [(h, .inr (1, [.ref c, .int (nI L.length), .int (nI li), .int ye, .int br])), (c, .inl (cI, 48, .inl f))] [(0, .ref h), (1, .int (nI w))] 0 []
  have h8 := hv.1
  refine x_iconst ok (nI 0) dX1_songsIn_0 (by decide) ?_
  refine x_istore_n ok (lv' := [(2, .int (nI 0)), (0, .ref h), (1, .int (nI w))]) dX1_songsIn_1 rfl (by decide) rfl ?_
  refine x_iconst ok (nI 0) dX1_songsIn_2 (by decide) ?_
  refine x_istore_n ok (lv' := [(3, .int (nI 0)), (2, .int (nI 0)), (0, .ref h), (1, .int (nI w))]) dX1_songsIn_3 rfl (by decide) rfl ?_
  have L_4 : ∀ (n_4 : Nat) (i : Nat), L.length - i < n_4 → (i ≤ L.length) → XX K [(h, .inr (1, [.ref c, .int (nI L.length), .int (nI li), .int ye, .int br])), (c, .inl (cI, 48, .inl f))] [(3, .int (nI i)), (2, .int (nI (orN (sing1 L w) i))), (0, .ref h), (1, .int (nI w))] 4 [] := by
    intro n_4
    induction n_4 with
    | zero => intro i hm; exact absurd hm (Nat.not_lt_zero _)
    | succ n_4 ih_4 =>
      intro i hm_4 hi
      refine x_iload_n ok 0 dX1_songsIn_4 rfl rfl ?_
      refine x_aload_n ok 2 dX1_songsIn_5 rfl rfl ?_
      refine gX1_15 ok dX1_songsIn_6 0 rfl rfl ?_
      refine x_icmp_geN ok 38 dX1_songsIn_9 (by decide) (by omega) (by omega) (fun c_9 => ?_) (fun c_9 => ?_)
      · skip
        have ei : i = L.length := by omega
        refine x_iload_n ok 1 dX1_songsIn_38 rfl rfl ?_
        exact ret () _ _ _ (nI (orN (sing1 L w) i)) dX1_songsIn_39 (rfl) (by rw [ei]) (trivial)
      · skip
        obtain ⟨v0, v1, v2, v2b, v3, v4, v5⟩ := hv.2 i (by omega)
        refine x_iload_n ok 1 dX1_songsIn_12 rfl rfl ?_
        refine x_aload_n ok 2 dX1_songsIn_13 rfl rfl ?_
        refine x_iload_n ok 0 dX1_songsIn_14 rfl rfl ?_
        refine x_iconst ok (nI 1) dX1_songsIn_15 (by decide) ?_
        refine qX1_38 ok (As := [.int (nI i), .int (nI 1)]) (st := [.int (nI (orN (sing1 L w) i))]) 0 rfl (c1_getL l D cI cZ cS h c L li ye br f i 1 (by first | assumption | omega) (by first | assumption | omega) (by first | assumption | omega) (by first | assumption | omega)) rfl (Nat.le_of_ble_eq_true rfl) (Nat.le_of_ble_eq_true rfl) (Nat.le_of_ble_eq_true rfl) dX1_songsIn_16 [0, 1] (by decide) rfl (ws' := fun u => [(h, .inr (1, [.ref c, .int (nI L.length), .int (nI li), .int ye, .int br])), (c, .inl (cI, 48, .inl f))]) (st' := fun u => [.int (nI (sg L i 1)), .int (nI (orN (sing1 L w) i))]) (fun _ => rfl) (fun _ => rfl) (fun _ => rfl) (fun _ _ => ?_)
        refine x_iload_n ok 3 dX1_songsIn_19 rfl rfl ?_
        have J_30 : ∀ (v30_1 : Nat), v30_1 = (if (sg L i 1) = w then 2 ^ i else 0) → XX K [(h, .inr (1, [.ref c, .int (nI L.length), .int (nI li), .int ye, .int br])), (c, .inl (cI, 48, .inl f))] [(3, .int (nI i)), (2, .int (nI (orN (sing1 L w) i))), (0, .ref h), (1, .int (nI w))] 30 [.int (nI v30_1), .int (nI (orN (sing1 L w) i))] := by
          intro v30_1 e_v30_1
          refine x_ior ok (nI (orN (sing1 L w) (i + 1))) dX1_songsIn_30 (by rw [e_v30_1]; exact fa_or _ _) ?_
          refine x_istore_n ok (lv' := [(2, .int (nI (orN (sing1 L w) (i + 1)))), (3, .int (nI i)), (0, .ref h), (1, .int (nI w))]) dX1_songsIn_31 rfl (by decide) rfl ?_
          refine x_iinc ok (v := nI (i + 1)) (lv' := [(3, .int (nI (i + 1))), (2, .int (nI (orN (sing1 L w) (i + 1)))), (0, .ref h), (1, .int (nI w))]) dX1_songsIn_32 1 rfl (nN (nI_inc _ 1) (by omega)) (by decide) rfl ?_
          refine x_goto ok 4 dX1_songsIn_35 (by decide) ?_
          exact ih_4 (i + 1) (by omega) (by first | assumption | omega)
        refine x_icmp_neN ok 29 dX1_songsIn_20 (by decide) (by omega) (by omega) (fun c_20 => ?_) (fun c_20 => ?_)
        · skip
          refine x_iconst ok (nI 0) dX1_songsIn_29 (by decide) ?_
          exact J_30 0 (by first | rfl | (simp only [if_neg c_20]; done) | (simp [c_20]; done))
        · skip
          refine x_iconst ok (nI 1) dX1_songsIn_23 (by decide) ?_
          refine x_iload_n ok 0 dX1_songsIn_24 rfl rfl ?_
          refine x_ishl ok (nI (2 ^ i)) dX1_songsIn_25 (shl1 i (by omega)) ?_
          refine x_goto ok 30 dX1_songsIn_26 (by decide) ?_
          exact J_30 (2 ^ i) (by first | rfl | (simp only [if_pos c_20]; done) | (simp [c_20]; done))
  exact L_4 _ 0 (Nat.lt_succ_self _) (by first | assumption | omega)

set_option maxHeartbeats 4000000 in
set_option maxRecDepth 100000 in
theorem c1_lawsOf (l : Launch) (D : va_G) (cI cZ cS : ClassId) (h : Nat) (c : Nat) (L : List Sg) (li : Nat) (ye : Int32) (br : Int32) (f : Nat → Int32) (W : Nat) (A : Nat) (bits : Nat) (hf : hs f L) (hv : okL W A L) (hb : bits < 256) : CO l D (TY cI cZ cS) yX1_lawsOf cX1_lawsOf 4 (some .int) 1 23 0 0 [.ref h, .int (nI bits)] [(h, .inr (1, [.ref c, .int (nI L.length), .int (nI li), .int ye, .int br])), (c, .inl (cI, 48, .inl f))] (σ := Unit) (fun u => some (.int (nI (orN (bitN L bits) L.length)))) (fun u => [(h, .inr (1, [.ref c, .int (nI L.length), .int (nI li), .int ye, .int br])), (c, .inl (cI, 48, .inl f))]) (fun u => True) := by
  refine CO_mki (by decide +kernel) (Nat.le_of_ble_eq_true rfl) (fun K ok ret => ?_)
  show XX K [(h, .inr (1, [.ref c, .int (nI L.length), .int (nI li), .int ye, .int br])), (c, .inl (cI, 48, .inl f))] [(0, .ref h), (1, .int (nI bits))] 0 []
  have h8 := hv.1
  refine x_iconst ok (nI 0) dX1_lawsOf_0 (by decide) ?_
  refine x_istore_n ok (lv' := [(2, .int (nI 0)), (0, .ref h), (1, .int (nI bits))]) dX1_lawsOf_1 rfl (by decide) rfl ?_
  refine x_iconst ok (nI 0) dX1_lawsOf_2 (by decide) ?_
  refine x_istore_n ok (lv' := [(3, .int (nI 0)), (2, .int (nI 0)), (0, .ref h), (1, .int (nI bits))]) dX1_lawsOf_3 rfl (by decide) rfl ?_
  have L_4 : ∀ (n_4 : Nat) (i : Nat), L.length - i < n_4 → (i ≤ L.length) → XX K [(h, .inr (1, [.ref c, .int (nI L.length), .int (nI li), .int ye, .int br])), (c, .inl (cI, 48, .inl f))] [(3, .int (nI i)), (2, .int (nI (orN (bitN L bits) i))), (0, .ref h), (1, .int (nI bits))] 4 [] := by
    intro n_4
    induction n_4 with
    | zero => intro i hm; exact absurd hm (Nat.not_lt_zero _)
    | succ n_4 ih_4 =>
      intro i hm_4 hi
      refine x_iload_n ok 0 dX1_lawsOf_4 rfl rfl ?_
      refine x_aload_n ok 2 dX1_lawsOf_5 rfl rfl ?_
      refine gX1_15 ok dX1_lawsOf_6 0 rfl rfl ?_
      refine x_icmp_geN ok 42 dX1_lawsOf_9 (by decide) (by omega) (by omega) (fun c_9 => ?_) (fun c_9 => ?_)
      · skip
        have ei : i = L.length := by omega
        refine x_iload_n ok 1 dX1_lawsOf_42 rfl rfl ?_
        exact ret () _ _ _ (nI (orN (bitN L bits) i)) dX1_lawsOf_43 (rfl) (by rw [ei]) (trivial)
      · skip
        obtain ⟨v0, v1, v2, v2b, v3, v4, v5⟩ := hv.2 i (by omega)
        have tb1 := (bits.testBit i).toNat_le
        refine x_iload_n ok 1 dX1_lawsOf_12 rfl rfl ?_
        refine x_iload_n ok 3 dX1_lawsOf_13 rfl rfl ?_
        refine x_iload_n ok 0 dX1_lawsOf_14 rfl rfl ?_
        refine x_ishr ok (((nI bits) >>> ((nI i) &&& 31))) dX1_lawsOf_15 (rfl) ?_
        refine x_iconst ok (nI 1) dX1_lawsOf_16 (by decide) ?_
        refine x_iand ok (nI ((bits.testBit i).toNat)) dX1_lawsOf_17 (tb0 bits hb i (by omega)) ?_
        refine x_iconst ok (nI 1) dX1_lawsOf_18 (by decide) ?_
        have J_34 : ∀ (v34_1 : Nat), v34_1 = (if ((bits.testBit i).toNat) = 1 then 2 ^ sg L i 0 else 0) → XX K [(h, .inr (1, [.ref c, .int (nI L.length), .int (nI li), .int ye, .int br])), (c, .inl (cI, 48, .inl f))] [(3, .int (nI i)), (2, .int (nI (orN (bitN L bits) i))), (0, .ref h), (1, .int (nI bits))] 34 [.int (nI v34_1), .int (nI (orN (bitN L bits) i))] := by
          intro v34_1 e_v34_1
          refine x_ior ok (nI (orN (bitN L bits) (i + 1))) dX1_lawsOf_34 (by rw [e_v34_1]; exact fa_or _ _) ?_
          refine x_istore_n ok (lv' := [(2, .int (nI (orN (bitN L bits) (i + 1)))), (3, .int (nI i)), (0, .ref h), (1, .int (nI bits))]) dX1_lawsOf_35 rfl (by decide) rfl ?_
          refine x_iinc ok (v := nI (i + 1)) (lv' := [(3, .int (nI (i + 1))), (2, .int (nI (orN (bitN L bits) (i + 1)))), (0, .ref h), (1, .int (nI bits))]) dX1_lawsOf_36 1 rfl (nN (nI_inc _ 1) (by omega)) (by decide) rfl ?_
          refine x_goto ok 4 dX1_lawsOf_39 (by decide) ?_
          exact ih_4 (i + 1) (by omega) (by first | assumption | omega)
        refine x_icmp_neN ok 33 dX1_lawsOf_19 (by decide) (by omega) (by omega) (fun c_19 => ?_) (fun c_19 => ?_)
        · skip
          refine x_iconst ok (nI 0) dX1_lawsOf_33 (by decide) ?_
          exact J_34 0 (by first | rfl | (simp only [if_neg c_19]; done) | (simp [c_19]; done))
        · skip
          refine x_iconst ok (nI 1) dX1_lawsOf_22 (by decide) ?_
          refine x_aload_n ok 2 dX1_lawsOf_23 rfl rfl ?_
          refine x_iload_n ok 0 dX1_lawsOf_24 rfl rfl ?_
          refine x_iconst ok (nI 0) dX1_lawsOf_25 (by decide) ?_
          refine qX1_38 ok (As := [.int (nI i), .int (nI 0)]) (st := [.int (nI 1), .int (nI (orN (bitN L bits) i))]) 0 rfl (c1_getL l D cI cZ cS h c L li ye br f i 0 (by first | assumption | omega) (by first | assumption | omega) (by first | assumption | omega) (by first | assumption | omega)) rfl (Nat.le_of_ble_eq_true rfl) (Nat.le_of_ble_eq_true rfl) (Nat.le_of_ble_eq_true rfl) dX1_lawsOf_26 [0, 1] (by decide) rfl (ws' := fun u => [(h, .inr (1, [.ref c, .int (nI L.length), .int (nI li), .int ye, .int br])), (c, .inl (cI, 48, .inl f))]) (st' := fun u => [.int (nI (sg L i 0)), .int (nI 1), .int (nI (orN (bitN L bits) i))]) (fun _ => rfl) (fun _ => rfl) (fun _ => rfl) (fun _ _ => ?_)
          refine x_ishl ok (nI (2 ^ sg L i 0)) dX1_lawsOf_29 (shl1 _ (by omega)) ?_
          refine x_goto ok 34 dX1_lawsOf_30 (by decide) ?_
          exact J_34 (2 ^ sg L i 0) (by first | rfl | (simp only [if_pos c_19]; done) | (simp [c_19]; done))
  exact L_4 _ 0 (Nat.lt_succ_self _) (by first | assumption | omega)

set_option maxHeartbeats 4000000 in
set_option maxRecDepth 100000 in
theorem c1_lawsHad (l : Launch) (D : va_G) (cI cZ cS : ClassId) (h : Nat) (c : Nat) (L : List Sg) (li : Nat) (ye : Int32) (br : Int32) (f : Nat → Int32) (W : Nat) (A : Nat) (hf : hs f L) (hv : okL W A L) : CO l D (TY cI cZ cS) yX1_lawsHad cX1_lawsHad 1 (some .int) 2 46 0 0 [.ref h] [(h, .inr (1, [.ref c, .int (nI L.length), .int (nI li), .int ye, .int br])), (c, .inl (cI, 48, .inl f))] (σ := Unit) (fun u => some (.int (nI (lawsN L)))) (fun u => [(h, .inr (1, [.ref c, .int (nI L.length), .int (nI li), .int ye, .int br])), (c, .inl (cI, 48, .inl f))]) (fun u => True) := by
  refine CO_mki (by decide +kernel) (Nat.le_of_ble_eq_true rfl) (fun K ok ret => ?_)
  show XX K [(h, .inr (1, [.ref c, .int (nI L.length), .int (nI li), .int ye, .int br])), (c, .inl (cI, 48, .inl f))] [(0, .ref h)] 0 []
  have h8 := hv.1
  have hp2 : 2 ^ L.length ≤ 2 ^ 8 := Nat.pow_le_pow_right (by omega) h8
  have hp3 : 0 < 2 ^ L.length := Nat.two_pow_pos _
  refine x_aload_n ok 0 dX1_lawsHad_0 rfl rfl ?_
  refine x_iconst ok (nI 1) dX1_lawsHad_1 (by decide) ?_
  refine x_aload_n ok 0 dX1_lawsHad_2 rfl rfl ?_
  refine gX1_15 ok dX1_lawsHad_3 0 rfl rfl ?_
  refine x_ishl ok (nI (2 ^ L.length)) dX1_lawsHad_6 (shl1 _ (by omega)) ?_
  refine x_iconst ok (nI 1) dX1_lawsHad_7 (by decide) ?_
  refine x_isub ok (nI (2 ^ L.length - 1)) dX1_lawsHad_8 (pk_sub (by omega)) ?_
  refine qX1_41 ok (As := [.int (nI (2 ^ L.length - 1))]) (st := []) 0 rfl (c1_lawsOf l D cI cZ cS h c L li ye br f W A (2 ^ L.length - 1) (by first | assumption | omega) (by first | assumption | omega) (by first | assumption | omega)) rfl (Nat.le_of_ble_eq_true rfl) (Nat.le_of_ble_eq_true rfl) (Nat.le_of_ble_eq_true rfl) dX1_lawsHad_9 [0, 1] (by decide) rfl (ws' := fun u => [(h, .inr (1, [.ref c, .int (nI L.length), .int (nI li), .int ye, .int br])), (c, .inl (cI, 48, .inl f))]) (st' := fun u => [.int (nI (orN (bitN L (2 ^ L.length - 1)) L.length))]) (fun _ => rfl) (fun _ => rfl) (fun _ => rfl) (fun _ _ => ?_)
  exact ret () _ _ _ (nI (orN (bitN L (2 ^ L.length - 1)) L.length)) dX1_lawsHad_12 (rfl) (congrArg nI (lawsOf_all L).symm) (trivial)

set_option maxHeartbeats 4000000 in
set_option maxRecDepth 100000 in
theorem c1_copiesOf (l : Launch) (D : va_G) (cI cZ cS : ClassId) (h : Nat) (c : Nat) (L : List Sg) (li : Nat) (ye : Int32) (br : Int32) (f : Nat → Int32) (W : Nat) (A : Nat) (a : Nat) (p : Nat) (hf : hs f L) (hv : okL W A L) (ha : a < 8) (hp : p < 8) : CO l D (TY cI cZ cS) yX1_copiesOf cX1_copiesOf 5 (some .int) 1 23 0 0 [.ref h, .int (nI a), .int (nI p)] [(h, .inr (1, [.ref c, .int (nI L.length), .int (nI li), .int ye, .int br])), (c, .inl (cI, 48, .inl f))] (σ := Unit) (fun u => some (.int (nI (suN (copy1 L a p) L.length)))) (fun u => [(h, .inr (1, [.ref c, .int (nI L.length), .int (nI li), .int ye, .int br])), (c, .inl (cI, 48, .inl f))]) (fun u => True) := by
  refine CO_mki (by decide +kernel) (Nat.le_of_ble_eq_true rfl) (fun K ok ret => ?_)
  show XX K [(h, .inr (1, [.ref c, .int (nI L.length), .int (nI li), .int ye, .int br])), (c, .inl (cI, 48, .inl f))] [(0, .ref h), (1, .int (nI a)), (2, .int (nI p))] 0 []
  have h8 := hv.1
  refine x_iconst ok (nI 0) dX1_copiesOf_0 (by decide) ?_
  refine x_istore_n ok (lv' := [(3, .int (nI 0)), (0, .ref h), (1, .int (nI a)), (2, .int (nI p))]) dX1_copiesOf_1 rfl (by decide) rfl ?_
  refine x_iconst ok (nI 0) dX1_copiesOf_2 (by decide) ?_
  refine x_istore ok (lv' := [(4, .int (nI 0)), (3, .int (nI 0)), (0, .ref h), (1, .int (nI a)), (2, .int (nI p))]) dX1_copiesOf_3 (by decide) rfl ?_
  have L_5 : ∀ (n_5 : Nat) (i : Nat), L.length - i < n_5 → (i ≤ L.length) → XX K [(h, .inr (1, [.ref c, .int (nI L.length), .int (nI li), .int ye, .int br])), (c, .inl (cI, 48, .inl f))] [(4, .int (nI i)), (3, .int (nI (suN (copy1 L a p) i))), (0, .ref h), (1, .int (nI a)), (2, .int (nI p))] 5 [] := by
    intro n_5
    induction n_5 with
    | zero => intro i hm; exact absurd hm (Nat.not_lt_zero _)
    | succ n_5 ih_5 =>
      intro i hm_5 hi
      refine x_iload ok 0 dX1_copiesOf_5 rfl ?_
      refine x_aload_n ok 2 dX1_copiesOf_7 rfl rfl ?_
      refine gX1_15 ok dX1_copiesOf_8 0 rfl rfl ?_
      refine x_icmp_geN ok 50 dX1_copiesOf_11 (by decide) (by omega) (by omega) (fun c_11 => ?_) (fun c_11 => ?_)
      · skip
        have ei : i = L.length := by omega
        refine x_iload_n ok 1 dX1_copiesOf_50 rfl rfl ?_
        exact ret () _ _ _ (nI (suN (copy1 L a p) i)) dX1_copiesOf_51 (rfl) (by rw [ei]) (trivial)
      · skip
        obtain ⟨v0, v1, v2, v2b, v3, v4, v5⟩ := hv.2 i (by omega)
        refine x_iload_n ok 1 dX1_copiesOf_14 rfl rfl ?_
        refine x_aload_n ok 2 dX1_copiesOf_15 rfl rfl ?_
        refine x_iload ok 0 dX1_copiesOf_16 rfl ?_
        refine x_iconst ok (nI 0) dX1_copiesOf_18 (by decide) ?_
        refine qX1_38 ok (As := [.int (nI i), .int (nI 0)]) (st := [.int (nI (suN (copy1 L a p) i))]) 0 rfl (c1_getL l D cI cZ cS h c L li ye br f i 0 (by first | assumption | omega) (by first | assumption | omega) (by first | assumption | omega) (by first | assumption | omega)) rfl (Nat.le_of_ble_eq_true rfl) (Nat.le_of_ble_eq_true rfl) (Nat.le_of_ble_eq_true rfl) dX1_copiesOf_19 [0, 1] (by decide) rfl (ws' := fun u => [(h, .inr (1, [.ref c, .int (nI L.length), .int (nI li), .int ye, .int br])), (c, .inl (cI, 48, .inl f))]) (st' := fun u => [.int (nI (sg L i 0)), .int (nI (suN (copy1 L a p) i))]) (fun _ => rfl) (fun _ => rfl) (fun _ => rfl) (fun _ _ => ?_)
        refine x_iload_n ok 3 dX1_copiesOf_22 rfl rfl ?_
        have J_42 : ∀ (v42_1 : Nat), v42_1 = (if (sg L i 0) = a then (if (sg L i 3) = p then 1 else 0) else 0) → XX K [(h, .inr (1, [.ref c, .int (nI L.length), .int (nI li), .int ye, .int br])), (c, .inl (cI, 48, .inl f))] [(4, .int (nI i)), (3, .int (nI (suN (copy1 L a p) i))), (0, .ref h), (1, .int (nI a)), (2, .int (nI p))] 42 [.int (nI v42_1), .int (nI (suN (copy1 L a p) i))] := by
          intro v42_1 e_v42_1
          refine x_iadd ok (nI (suN (copy1 L a p) (i + 1))) dX1_copiesOf_42 (by rw [e_v42_1]; exact nI_add _ _) ?_
          refine x_istore_n ok (lv' := [(3, .int (nI (suN (copy1 L a p) (i + 1)))), (4, .int (nI i)), (0, .ref h), (1, .int (nI a)), (2, .int (nI p))]) dX1_copiesOf_43 rfl (by decide) rfl ?_
          refine x_iinc ok (v := nI (i + 1)) (lv' := [(4, .int (nI (i + 1))), (3, .int (nI (suN (copy1 L a p) (i + 1)))), (0, .ref h), (1, .int (nI a)), (2, .int (nI p))]) dX1_copiesOf_44 1 rfl (nN (nI_inc _ 1) (by omega)) (by decide) rfl ?_
          refine x_goto ok 5 dX1_copiesOf_47 (by decide) ?_
          exact ih_5 (i + 1) (by omega) (by first | assumption | omega)
        refine x_icmp_neN ok 41 dX1_copiesOf_23 (by decide) (by omega) (by omega) (fun c_23 => ?_) (fun c_23 => ?_)
        · skip
          refine x_iconst ok (nI 0) dX1_copiesOf_41 (by decide) ?_
          exact J_42 0 (by first | rfl | (simp only [if_neg c_23]; done) | (simp [c_23]; done))
        · skip
          refine x_aload_n ok 2 dX1_copiesOf_26 rfl rfl ?_
          refine x_iload ok 0 dX1_copiesOf_27 rfl ?_
          refine x_iconst ok (nI 3) dX1_copiesOf_29 (by decide) ?_
          refine qX1_38 ok (As := [.int (nI i), .int (nI 3)]) (st := [.int (nI (suN (copy1 L a p) i))]) 0 rfl (c1_getL l D cI cZ cS h c L li ye br f i 3 (by first | assumption | omega) (by first | assumption | omega) (by first | assumption | omega) (by first | assumption | omega)) rfl (Nat.le_of_ble_eq_true rfl) (Nat.le_of_ble_eq_true rfl) (Nat.le_of_ble_eq_true rfl) dX1_copiesOf_30 [0, 1] (by decide) rfl (ws' := fun u => [(h, .inr (1, [.ref c, .int (nI L.length), .int (nI li), .int ye, .int br])), (c, .inl (cI, 48, .inl f))]) (st' := fun u => [.int (nI (sg L i 3)), .int (nI (suN (copy1 L a p) i))]) (fun _ => rfl) (fun _ => rfl) (fun _ => rfl) (fun _ _ => ?_)
          refine x_iload_n ok 4 dX1_copiesOf_33 rfl rfl ?_
          refine x_icmp_neN ok 41 dX1_copiesOf_34 (by decide) (by omega) (by omega) (fun c_34 => ?_) (fun c_34 => ?_)
          · skip
            refine x_iconst ok (nI 0) dX1_copiesOf_41 (by decide) ?_
            exact J_42 0 (by first | rfl | (simp only [if_pos c_23, if_neg c_34]; done) | (simp [c_23, c_34]; done))
          · skip
            refine x_iconst ok (nI 1) dX1_copiesOf_37 (by decide) ?_
            refine x_goto ok 42 dX1_copiesOf_38 (by decide) ?_
            exact J_42 1 (by first | rfl | (simp only [if_pos c_23, if_pos c_34]; done) | (simp [c_23, c_34]; done))
  exact L_5 _ 0 (Nat.lt_succ_self _) (by first | assumption | omega)

set_option maxHeartbeats 4000000 in
set_option maxRecDepth 100000 in
theorem c1_hasLawIn (l : Launch) (D : va_G) (cI cZ cS : ClassId) (h : Nat) (c : Nat) (L : List Sg) (li : Nat) (ye : Int32) (br : Int32) (f : Nat → Int32) (W : Nat) (A : Nat) (a : Nat) (w : Nat) (hf : hs f L) (hv : okL W A L) (hW : W ≤ 4) (hw : w < 8) (ha : a < 8) : CO l D (TY cI cZ cS) yX1_hasLawIn cX1_hasLawIn 3 (some .boolean) 2 46 0 0 [.ref h, .int (nI a), .int (nI w)] [(h, .inr (1, [.ref c, .int (nI L.length), .int (nI li), .int ye, .int br])), (c, .inl (cI, 48, .inl f))] (σ := Unit) (fun u => some (.int (bz ((orN (bitN L (orN (sing1 L w) L.length)) L.length).testBit a)))) (fun u => [(h, .inr (1, [.ref c, .int (nI L.length), .int (nI li), .int ye, .int br])), (c, .inl (cI, 48, .inl f))]) (fun u => True) := by
  refine CO_mkz (by decide +kernel) (Nat.le_of_ble_eq_true rfl) (fun K ok ret => ?_)
  show XX K [(h, .inr (1, [.ref c, .int (nI L.length), .int (nI li), .int ye, .int br])), (c, .inl (cI, 48, .inl f))] [(0, .ref h), (1, .int (nI a)), (2, .int (nI w))] 0 []
  have h8 := hv.1
  have hs8 := sing1_lt (L := L) (w := w) h8
  have hb6 := bitN_lt (bits := orN (sing1 L w) L.length) hv (Nat.le_refl _)
  have tb1 := ((orN (bitN L (orN (sing1 L w) L.length)) L.length).testBit a).toNat_le
  refine x_aload_n ok 0 dX1_hasLawIn_0 rfl rfl ?_
  refine x_aload_n ok 0 dX1_hasLawIn_1 rfl rfl ?_
  refine x_iload_n ok 2 dX1_hasLawIn_2 rfl rfl ?_
  refine qX1_45 ok (As := [.int (nI w)]) (st := [.ref h]) 0 rfl (c1_songsIn l D cI cZ cS h c L li ye br f W A w (by first | assumption | omega) (by first | assumption | omega) (by first | assumption | omega) (by first | assumption | omega)) rfl (Nat.le_of_ble_eq_true rfl) (Nat.le_of_ble_eq_true rfl) (Nat.le_of_ble_eq_true rfl) dX1_hasLawIn_3 [0, 1] (by decide) rfl (ws' := fun u => [(h, .inr (1, [.ref c, .int (nI L.length), .int (nI li), .int ye, .int br])), (c, .inl (cI, 48, .inl f))]) (st' := fun u => [.int (nI (orN (sing1 L w) L.length)), .ref h]) (fun _ => rfl) (fun _ => rfl) (fun _ => rfl) (fun _ _ => ?_)
  refine qX1_41 ok (As := [.int (nI (orN (sing1 L w) L.length))]) (st := []) 0 rfl (c1_lawsOf l D cI cZ cS h c L li ye br f W A (orN (sing1 L w) L.length) (by first | assumption | omega) (by first | assumption | omega) (by first | assumption | omega)) rfl (Nat.le_of_ble_eq_true rfl) (Nat.le_of_ble_eq_true rfl) (Nat.le_of_ble_eq_true rfl) dX1_hasLawIn_6 [0, 1] (by decide) rfl (ws' := fun u => [(h, .inr (1, [.ref c, .int (nI L.length), .int (nI li), .int ye, .int br])), (c, .inl (cI, 48, .inl f))]) (st' := fun u => [.int (nI (orN (bitN L (orN (sing1 L w) L.length)) L.length))]) (fun _ => rfl) (fun _ => rfl) (fun _ => rfl) (fun _ _ => ?_)
  refine x_iload_n ok 1 dX1_hasLawIn_9 rfl rfl ?_
  refine x_ishr ok (((nI (orN (bitN L (orN (sing1 L w) L.length)) L.length)) >>> ((nI a) &&& 31))) dX1_hasLawIn_10 (rfl) ?_
  refine x_iconst ok (nI 1) dX1_hasLawIn_11 (by decide) ?_
  refine x_iand ok (nI (((orN (bitN L (orN (sing1 L w) L.length)) L.length).testBit a).toNat)) dX1_hasLawIn_12 (tb0 _ (by omega) a ha) ?_
  refine x_iconst ok (nI 1) dX1_hasLawIn_13 (by decide) ?_
  refine x_icmp_neN ok 21 dX1_hasLawIn_14 (by decide) (by omega) (by omega) (fun c_14 => ?_) (fun c_14 => ?_)
  · skip
    refine x_iconst ok (nI 0) dX1_hasLawIn_21 (by decide) ?_
    exact ret () _ _ _ (false) dX1_hasLawIn_22 (rfl) (by revert c_14; cases (orN (bitN L (orN (sing1 L w) L.length)) L.length).testBit a <;> simp) (trivial)
  · skip
    refine x_iconst ok (nI 1) dX1_hasLawIn_17 (by decide) ?_
    refine x_goto ok 22 dX1_hasLawIn_18 (by decide) ?_
    exact ret () _ _ _ (true) dX1_hasLawIn_22 (rfl) (by revert c_14; cases (orN (bitN L (orN (sing1 L w) L.length)) L.length).testBit a <;> simp) (trivial)

set_option maxHeartbeats 4000000 in
set_option maxRecDepth 100000 in
theorem c1_isSafe (l : Launch) (D : va_G) (cI cZ cS : ClassId) (h : Nat) (c : Nat) (L : List Sg) (li : Nat) (ye : Int32) (br : Int32) (f : Nat → Int32) (W : Nat) (A : Nat) (a : Nat) (hf : hs f L) (hv : okL W A L) (hW : W ≤ 4) (hl : li < 256) (ha : a < 8) : CO l D (TY cI cZ cS) yX1_isSafe cX1_isSafe 4 (some .boolean) 1 23 0 0 [.ref h, .int (nI a)] [(h, .inr (1, [.ref c, .int (nI L.length), .int (nI li), .int ye, .int br])), (c, .inl (cI, 48, .inl f))] (σ := Unit) (fun u => some (.int (bz (anyN (safeB L li a) L.length)))) (fun u => [(h, .inr (1, [.ref c, .int (nI L.length), .int (nI li), .int ye, .int br])), (c, .inl (cI, 48, .inl f))]) (fun u => True) := by
  refine CO_mkz (by decide +kernel) (Nat.le_of_ble_eq_true rfl) (fun K ok ret => ?_)
  show XX K [(h, .inr (1, [.ref c, .int (nI L.length), .int (nI li), .int ye, .int br])), (c, .inl (cI, 48, .inl f))] [(0, .ref h), (1, .int (nI a))] 0 []
  have h8 := hv.1
  refine x_iconst ok (nI 0) dX1_isSafe_0 (by decide) ?_
  refine x_istore_n ok (lv' := [(2, .int (nI 0)), (0, .ref h), (1, .int (nI a))]) dX1_isSafe_1 rfl (by decide) rfl ?_
  have L_2 : ∀ (n_2 : Nat) (i : Nat), L.length - i < n_2 → (i ≤ L.length) → (anyN (safeB L li a) i = false) → XX K [(h, .inr (1, [.ref c, .int (nI L.length), .int (nI li), .int ye, .int br])), (c, .inl (cI, 48, .inl f))] [(2, .int (nI i)), (0, .ref h), (1, .int (nI a))] 2 [] := by
    intro n_2
    induction n_2 with
    | zero => intro i hm; exact absurd hm (Nat.not_lt_zero _)
    | succ n_2 ih_2 =>
      intro i hm_2 hi hno
      refine x_iload_n ok 0 dX1_isSafe_2 rfl rfl ?_
      refine x_aload_n ok 1 dX1_isSafe_3 rfl rfl ?_
      refine gX1_15 ok dX1_isSafe_4 0 rfl rfl ?_
      refine x_icmp_geN ok 61 dX1_isSafe_7 (by decide) (by omega) (by omega) (fun c_7 => ?_) (fun c_7 => ?_)
      · skip
        have ei : i = L.length := by omega
        refine x_iconst ok (nI 0) dX1_isSafe_61 (by decide) ?_
        exact ret () _ _ _ (false) dX1_isSafe_62 (rfl) (by rw [← ei]; exact hno) (trivial)
      · skip
        obtain ⟨v0, v1, v2, v2b, v3, v4, v5⟩ := hv.2 i (by omega)
        refine x_aload_n ok 1 dX1_isSafe_10 rfl rfl ?_
        refine x_aload_n ok 1 dX1_isSafe_11 rfl rfl ?_
        refine x_iload_n ok 0 dX1_isSafe_12 rfl rfl ?_
        refine x_iconst ok (nI 1) dX1_isSafe_13 (by decide) ?_
        refine qX1_38 ok (As := [.int (nI i), .int (nI 1)]) (st := [.ref h]) 0 rfl (c1_getL l D cI cZ cS h c L li ye br f i 1 (by first | assumption | omega) (by first | assumption | omega) (by first | assumption | omega) (by first | assumption | omega)) rfl (Nat.le_of_ble_eq_true rfl) (Nat.le_of_ble_eq_true rfl) (Nat.le_of_ble_eq_true rfl) dX1_isSafe_14 [0, 1] (by decide) rfl (ws' := fun u => [(h, .inr (1, [.ref c, .int (nI L.length), .int (nI li), .int ye, .int br])), (c, .inl (cI, 48, .inl f))]) (st' := fun u => [.int (nI (sg L i 1)), .ref h]) (fun _ => rfl) (fun _ => rfl) (fun _ => rfl) (fun _ _ => ?_)
        refine qX1_48 ok (As := [.int (nI (sg L i 1))]) (st := []) 0 rfl (c1_hasLid l D cI cZ cS h c L.length li ye br (sg L i 1) (by first | assumption | omega) (by first | assumption | omega)) rfl (Nat.le_of_ble_eq_true rfl) (Nat.le_of_ble_eq_true rfl) (Nat.le_of_ble_eq_true rfl) dX1_isSafe_17 [0] (by decide) rfl (ws' := fun u => [(h, .inr (1, [.ref c, .int (nI L.length), .int (nI li), .int ye, .int br])), (c, .inl (cI, 48, .inl f))]) (st' := fun u => [.int (bz (li.testBit (sg L i 1)))]) (fun _ => rfl) (fun _ => rfl) (fun _ => rfl) (fun _ _ => ?_)
        have J_38 : ∀ (b38_1 : Bool), b38_1 = (if li.testBit (sg L i 1) = true then true else (if (sg L i 2) ≤ 3 then false else true)) → XX K [(h, .inr (1, [.ref c, .int (nI L.length), .int (nI li), .int ye, .int br])), (c, .inl (cI, 48, .inl f))] [(2, .int (nI i)), (0, .ref h), (1, .int (nI a))] 38 [.int (bz b38_1)] := by
          intro b38_1 e_b38_1
          refine x_istore_n ok (lv' := [(3, .int (bz b38_1)), (2, .int (nI i)), (0, .ref h), (1, .int (nI a))]) dX1_isSafe_38 rfl (by decide) rfl ?_
          refine x_aload_n ok 2 dX1_isSafe_39 rfl rfl ?_
          refine x_iload_n ok 1 dX1_isSafe_40 rfl rfl ?_
          refine x_iconst ok (nI 0) dX1_isSafe_41 (by decide) ?_
          refine qX1_38 ok (As := [.int (nI i), .int (nI 0)]) (st := []) 0 rfl (c1_getL l D cI cZ cS h c L li ye br f i 0 (by first | assumption | omega) (by first | assumption | omega) (by first | assumption | omega) (by first | assumption | omega)) rfl (Nat.le_of_ble_eq_true rfl) (Nat.le_of_ble_eq_true rfl) (Nat.le_of_ble_eq_true rfl) dX1_isSafe_42 [0, 1] (by decide) rfl (ws' := fun u => [(h, .inr (1, [.ref c, .int (nI L.length), .int (nI li), .int ye, .int br])), (c, .inl (cI, 48, .inl f))]) (st' := fun u => [.int (nI (sg L i 0))]) (fun _ => rfl) (fun _ => rfl) (fun _ => rfl) (fun _ _ => ?_)
          refine x_iload_n ok 3 dX1_isSafe_45 rfl rfl ?_
          refine x_icmp_neN ok 55 dX1_isSafe_46 (by decide) (by omega) (by omega) (fun c_46 => ?_) (fun c_46 => ?_)
          · skip
            refine x_iinc ok (v := nI (i + 1)) (lv' := [(2, .int (nI (i + 1))), (3, .int (bz b38_1)), (0, .ref h), (1, .int (nI a))]) dX1_isSafe_55 1 rfl (nN (nI_inc _ 1) (by omega)) (by decide) rfl ?_
            refine x_goto ok 2 dX1_isSafe_58 (by decide) ?_
            refine x_loc ok [0, 2, 3] (lv' := [(2, .int (nI (i + 1))), (0, .ref h), (1, .int (nI a))]) rfl ?_
            exact ih_2 (i + 1) (by omega) (by first | assumption | omega) (by rw [anyN, hno, safeB]; simp_all)
          · skip
            refine x_iload_n ok 0 dX1_isSafe_49 rfl rfl ?_
            refine x_if_eqB ok 55 dX1_isSafe_50 (by decide) (fun c_50 => ?_) (fun c_50 => ?_)
            · skip
              refine x_iinc ok (v := nI (i + 1)) (lv' := [(2, .int (nI (i + 1))), (3, .int (bz b38_1)), (0, .ref h), (1, .int (nI a))]) dX1_isSafe_55 1 rfl (nN (nI_inc _ 1) (by omega)) (by decide) rfl ?_
              refine x_goto ok 2 dX1_isSafe_58 (by decide) ?_
              refine x_loc ok [0, 2, 3] (lv' := [(2, .int (nI (i + 1))), (0, .ref h), (1, .int (nI a))]) rfl ?_
              exact ih_2 (i + 1) (by omega) (by first | assumption | omega) (by rw [anyN, hno, safeB]; simp_all)
            · skip
              refine x_iconst ok (nI 1) dX1_isSafe_53 (by decide) ?_
              exact ret () _ _ _ (true) dX1_isSafe_54 (rfl) (anyN_t (i := i) (by rw [safeB]; simp_all) (by omega)) (trivial)
        refine x_if_neB ok 33 dX1_isSafe_20 (by decide) (fun c_20 => ?_) (fun c_20 => ?_)
        · skip
          refine x_iconst ok (nI 1) dX1_isSafe_33 (by decide) ?_
          refine x_goto ok 38 dX1_isSafe_34 (by decide) ?_
          exact J_38 true (by first | rfl | (simp only [if_pos c_20]; done) | (simp [c_20]; done))
        · skip
          refine x_aload_n ok 1 dX1_isSafe_23 rfl rfl ?_
          refine x_iload_n ok 0 dX1_isSafe_24 rfl rfl ?_
          refine x_iconst ok (nI 2) dX1_isSafe_25 (by decide) ?_
          refine qX1_38 ok (As := [.int (nI i), .int (nI 2)]) (st := []) 0 rfl (c1_getL l D cI cZ cS h c L li ye br f i 2 (by first | assumption | omega) (by first | assumption | omega) (by first | assumption | omega) (by first | assumption | omega)) rfl (Nat.le_of_ble_eq_true rfl) (Nat.le_of_ble_eq_true rfl) (Nat.le_of_ble_eq_true rfl) dX1_isSafe_26 [0, 1] (by decide) rfl (ws' := fun u => [(h, .inr (1, [.ref c, .int (nI L.length), .int (nI li), .int ye, .int br])), (c, .inl (cI, 48, .inl f))]) (st' := fun u => [.int (nI (sg L i 2))]) (fun _ => rfl) (fun _ => rfl) (fun _ => rfl) (fun _ _ => ?_)
          refine x_iconst ok (nI 3) dX1_isSafe_29 (by decide) ?_
          refine x_icmp_leN ok 37 dX1_isSafe_30 (by decide) (by omega) (by omega) (fun c_30 => ?_) (fun c_30 => ?_)
          · skip
            refine x_iconst ok (nI 0) dX1_isSafe_37 (by decide) ?_
            exact J_38 false (by first | rfl | (simp only [if_neg c_20, if_pos c_30]; done) | (simp [c_20, c_30]; done))
          · skip
            refine x_iconst ok (nI 1) dX1_isSafe_33 (by decide) ?_
            refine x_goto ok 38 dX1_isSafe_34 (by decide) ?_
            exact J_38 true (by first | rfl | (simp only [if_neg c_20, if_neg c_30]; done) | (simp [c_20, c_30]; done))
  exact L_2 _ 0 (Nat.lt_succ_self _) (by first | assumption | omega) (rfl)

set_option maxHeartbeats 4000000 in
set_option maxRecDepth 100000 in
theorem c1_wellBeside (l : Launch) (D : va_G) (cI cZ cS : ClassId) (w : Nat) (side : Nat) (hs : side < 2) : CO l D (TY cI cZ cS) yX1_wellBeside cX1_wellBeside 2 (some .int) 0 0 0 0 [.int (nI w), .int (nI side)] [] (σ := Unit) (fun u => some (.int (nxt w side))) (fun u => []) (fun u => True) := by
  refine CO_mki (by decide +kernel) (Nat.le_of_ble_eq_true rfl) (fun K ok ret => ?_)
  show XX K [] [(0, .int (nI w)), (1, .int (nI side))] 0 []
  refine x_iload_n ok 1 dX1_wellBeside_0 rfl rfl ?_
  refine x_if_neN ok 10 dX1_wellBeside_1 (by decide) (by omega) (fun c_1 => ?_) (fun c_1 => ?_)
  · skip
    refine x_iload_n ok 0 dX1_wellBeside_10 rfl rfl ?_
    refine x_iconst ok (nI 1) dX1_wellBeside_11 (by decide) ?_
    refine x_iadd ok (nI (w + 1)) dX1_wellBeside_12 (nN (nI_add _ _) (by omega)) ?_
    exact ret () _ _ _ (nI (w + 1)) dX1_wellBeside_13 (rfl) (by simp [nxt, c_1]) (trivial)
  · skip
    refine x_iload_n ok 0 dX1_wellBeside_4 rfl rfl ?_
    refine x_iconst ok (nI 1) dX1_wellBeside_5 (by decide) ?_
    refine x_isub ok (((nI w) - (nI 1))) dX1_wellBeside_6 (rfl) ?_
    refine x_goto ok 13 dX1_wellBeside_7 (by decide) ?_
    exact ret () _ _ _ (((nI w) - (nI 1))) dX1_wellBeside_13 (rfl) (by simp [nxt, c_1]) (trivial)

set_option maxHeartbeats 4000000 in
set_option maxRecDepth 100000 in
theorem c1_isWayOpen (l : Launch) (D : va_G) (cI cZ cS : ClassId) (h : Nat) (c : Nat) (L : List Sg) (li : Nat) (ye : Int32) (br : Int32) (f : Nat → Int32) (x3 : Nat) (xd : Nat) (xt : Nat) (W : Nat) (A : Nat) (s : Nat) (side : Nat) (hf : hs f L) (hv : okL W A L) (hW : W ≤ 4) (hl : li < 256) (hs1 : s < L.length) (hsd : side < 2) : CO l D (TY cI cZ cS) yX1_isWayOpen cX1_isWayOpen 6 (some .boolean) 1 23 0 0 [.ref h, .int (nI s), .int (nI side), .ref x3] [(h, .inr (1, [.ref c, .int (nI L.length), .int (nI li), .int ye, .int br])), (c, .inl (cI, 48, .inl f)), (x3, .inr (3, [.ref xd, .ref xt, .int (nI W)]))] (σ := Unit) (fun u => some (.int (bz (way W li (sg L s 1) side)))) (fun u => [(h, .inr (1, [.ref c, .int (nI L.length), .int (nI li), .int ye, .int br])), (c, .inl (cI, 48, .inl f)), (x3, .inr (3, [.ref xd, .ref xt, .int (nI W)]))]) (fun u => True) := by
  refine CO_mkz (by decide +kernel) (Nat.le_of_ble_eq_true rfl) (fun K ok ret => ?_)
  show XX K [(h, .inr (1, [.ref c, .int (nI L.length), .int (nI li), .int ye, .int br])), (c, .inl (cI, 48, .inl f)), (x3, .inr (3, [.ref xd, .ref xt, .int (nI W)]))] [(0, .ref h), (1, .int (nI s)), (2, .int (nI side)), (3, .ref x3)] 0 []
  have h8 := hv.1
  obtain ⟨v0, v1, v2, v2b, v3, v4, v5⟩ := hv.2 s (by omega)
  refine x_aload_n ok 0 dX1_isWayOpen_0 rfl rfl ?_
  refine x_iload_n ok 1 dX1_isWayOpen_1 rfl rfl ?_
  refine x_iconst ok (nI 1) dX1_isWayOpen_2 (by decide) ?_
  refine qX1_38 ok (As := [.int (nI s), .int (nI 1)]) (st := []) 0 rfl (c1_getL l D cI cZ cS h c L li ye br f s 1 (by first | assumption | omega) (by first | assumption | omega) (by first | assumption | omega) (by first | assumption | omega)) rfl (Nat.le_of_ble_eq_true rfl) (Nat.le_of_ble_eq_true rfl) (Nat.le_of_ble_eq_true rfl) dX1_isWayOpen_3 [0, 1] (by decide) rfl (ws' := fun u => [(h, .inr (1, [.ref c, .int (nI L.length), .int (nI li), .int ye, .int br])), (c, .inl (cI, 48, .inl f)), (x3, .inr (3, [.ref xd, .ref xt, .int (nI W)]))]) (st' := fun u => [.int (nI (sg L s 1))]) (fun _ => rfl) (fun _ => rfl) (fun _ => rfl) (fun _ _ => ?_)
  refine x_istore ok (lv' := [(4, .int (nI (sg L s 1))), (0, .ref h), (1, .int (nI s)), (2, .int (nI side)), (3, .ref x3)]) dX1_isWayOpen_6 (by decide) rfl ?_
  refine x_iload ok 0 dX1_isWayOpen_8 rfl ?_
  refine x_iload_n ok 3 dX1_isWayOpen_10 rfl rfl ?_
  refine qX1_52 ok (As := [.int (nI (sg L s 1)), .int (nI side)]) (st := []) (c1_wellBeside l D cI cZ cS (sg L s 1) side (by first | assumption | omega)) rfl (Nat.le_of_ble_eq_true rfl) (Nat.le_of_ble_eq_true rfl) (Nat.le_of_ble_eq_true rfl) dX1_isWayOpen_11 [] (by decide) rfl (ws' := fun u => [(h, .inr (1, [.ref c, .int (nI L.length), .int (nI li), .int ye, .int br])), (c, .inl (cI, 48, .inl f)), (x3, .inr (3, [.ref xd, .ref xt, .int (nI W)]))]) (st' := fun u => [.int (nxt (sg L s 1) side)]) (fun _ => rfl) (fun _ => rfl) (fun _ => rfl) (fun _ _ => ?_)
  refine x_istore ok (lv' := [(5, .int (nxt (sg L s 1) side)), (4, .int (nI (sg L s 1))), (0, .ref h), (1, .int (nI s)), (2, .int (nI side)), (3, .ref x3)]) dX1_isWayOpen_14 (by decide) rfl ?_
  refine x_aload_n ok 5 dX1_isWayOpen_16 rfl rfl ?_
  refine x_iload ok 0 dX1_isWayOpen_17 rfl ?_
  refine qX1_55 ok (As := [.int (nxt (sg L s 1) side)]) (st := []) 2 rfl (c3_has l D cI cZ cS x3 xd xt W (nxt (sg L s 1) side) ) rfl (Nat.le_of_ble_eq_true rfl) (Nat.le_of_ble_eq_true rfl) (Nat.le_of_ble_eq_true rfl) dX1_isWayOpen_19 [2] (by decide) rfl (ws' := fun u => [(h, .inr (1, [.ref c, .int (nI L.length), .int (nI li), .int ye, .int br])), (c, .inl (cI, 48, .inl f)), (x3, .inr (3, [.ref xd, .ref xt, .int (nI W)]))]) (st' := fun u => [.int (bz (hasB (nxt (sg L s 1) side) W))]) (fun _ => rfl) (fun _ => rfl) (fun _ => rfl) (fun _ _ => ?_)
  refine x_if_eqB ok 47 dX1_isWayOpen_22 (by decide) (fun c_22 => ?_) (fun c_22 => ?_)
  · skip
    refine x_iconst ok (nI 0) dX1_isWayOpen_47 (by decide) ?_
    exact ret () _ _ _ (false) dX1_isWayOpen_48 (rfl) (by first | (simp [way, c_22]; done) | (rw [way, ej, nI_clamp (by omega)]; rw [ej] at c_22; simp [c_22])) (trivial)
  · skip
    obtain ⟨j, hj, ej⟩ := hasB_t (by omega) c_22
    refine x_aload_n ok 2 dX1_isWayOpen_25 rfl rfl ?_
    refine x_iload ok 1 dX1_isWayOpen_26 rfl ?_
    refine qX1_48 ok (As := [.int (nI (sg L s 1))]) (st := []) 0 rfl (c1_hasLid l D cI cZ cS h c L.length li ye br (sg L s 1) (by first | assumption | omega) (by first | assumption | omega)) rfl (Nat.le_of_ble_eq_true rfl) (Nat.le_of_ble_eq_true rfl) (Nat.le_of_ble_eq_true rfl) dX1_isWayOpen_28 [0] (by decide) rfl (ws' := fun u => [(h, .inr (1, [.ref c, .int (nI L.length), .int (nI li), .int ye, .int br])), (c, .inl (cI, 48, .inl f)), (x3, .inr (3, [.ref xd, .ref xt, .int (nI W)]))]) (st' := fun u => [.int (bz (li.testBit (sg L s 1)))]) (fun _ => rfl) (fun _ => rfl) (fun _ => rfl) (fun _ _ => ?_)
    refine x_if_neB ok 47 dX1_isWayOpen_31 (by decide) (fun c_31 => ?_) (fun c_31 => ?_)
    · skip
      refine x_iconst ok (nI 0) dX1_isWayOpen_47 (by decide) ?_
      exact ret () _ _ _ (false) dX1_isWayOpen_48 (rfl) (by first | (simp [way, c_22, c_31]; done) | (rw [way, ej, nI_clamp (by omega)]; rw [ej] at c_22; simp [c_22, c_31])) (trivial)
    · skip
      refine x_aload_n ok 2 dX1_isWayOpen_34 rfl rfl ?_
      refine x_iload ok 0 dX1_isWayOpen_35 rfl ?_
      refine x_eq (st' := [.int (nI j), .ref h]) rfl rfl (by rw [ej]) ?_
      refine qX1_48 ok (As := [.int (nI j)]) (st := []) 0 rfl (c1_hasLid l D cI cZ cS h c L.length li ye br j (by first | assumption | omega) (by first | assumption | omega)) rfl (Nat.le_of_ble_eq_true rfl) (Nat.le_of_ble_eq_true rfl) (Nat.le_of_ble_eq_true rfl) dX1_isWayOpen_37 [0] (by decide) rfl (ws' := fun u => [(h, .inr (1, [.ref c, .int (nI L.length), .int (nI li), .int ye, .int br])), (c, .inl (cI, 48, .inl f)), (x3, .inr (3, [.ref xd, .ref xt, .int (nI W)]))]) (st' := fun u => [.int (bz (li.testBit j))]) (fun _ => rfl) (fun _ => rfl) (fun _ => rfl) (fun _ _ => ?_)
      refine x_if_neB ok 47 dX1_isWayOpen_40 (by decide) (fun c_40 => ?_) (fun c_40 => ?_)
      · skip
        refine x_iconst ok (nI 0) dX1_isWayOpen_47 (by decide) ?_
        exact ret () _ _ _ (false) dX1_isWayOpen_48 (rfl) (by first | (simp [way, c_22, c_31, c_40]; done) | (rw [way, ej, nI_clamp (by omega)]; rw [ej] at c_22; simp [c_22, c_31, c_40])) (trivial)
      · skip
        refine x_iconst ok (nI 1) dX1_isWayOpen_43 (by decide) ?_
        refine x_goto ok 48 dX1_isWayOpen_44 (by decide) ?_
        exact ret () _ _ _ (true) dX1_isWayOpen_48 (rfl) (by first | (simp [way, c_22, c_31, c_40]; done) | (rw [way, ej, nI_clamp (by omega)]; rw [ej] at c_22; simp [c_22, c_31, c_40])) (trivial)
