set_option maxHeartbeats 4000000 in
set_option maxRecDepth 100000 in
theorem c1_singOn (l : Launch) (D : va_G) (cI cZ cS : ClassId) (h : Nat) (c : Nat) (L : List Sg) (li : Nat) (ye : Int32) (br : Int32) (f : Nat → Int32) (x3 : Nat) (xd : Nat) (xt : Nat) (W : Nat) (tf : Nat → Int32) (st : Nat → Nat) (A : Nat) (s : Nat) (side : Nat) (v : Nat) (p : Nat) (j : Nat) (hf : hs f L) (hv : okL W A L) (hW : W ≤ 4) (hst : ∀ w, w < W → tf w = nI (st w)) (hst2 : ∀ w, w < W → st w ≤ 2) (hs1 : s < L.length) (h7 : L.length < 8) (hsd : side < 2) (hj : nxt (sg L s 1) side = nI j) : CO l D (TY cI cZ cS) yX1_singOn cX1_singOn 9 (some .int) 2 50 0 0 [.ref h, .int (nI s), .int (nI side), .int (nI v), .int (nI p), .ref x3] [(h, .inr (1, [.ref c, .int (nI L.length), .int (nI li), .int ye, .int br])), (c, .inl (cI, 48, .inl f)), (x3, .inr (3, [.ref xd, .ref xt, .int (nI W)])), (xt, .inl (cI, 4, .inl tf))] (σ := (Nat → Int32)) (fun u => some (.int (nI L.length))) (fun u => [(h, .inr (1, [.ref c, .int (nI ((sungL st L s j v p).length)), .int (nI li), .int ye, .int (br + nI v)])), (c, .inl (cI, 48, .inl u)), (x3, .inr (3, [.ref xd, .ref xt, .int (nI W)])), (xt, .inl (cI, 4, .inl tf))]) (fun u => (hs u (sungL st L s j v p))) := by
  refine CO_mki (by decide +kernel) (Nat.le_of_ble_eq_true rfl) (fun K ok ret => ?_)
  show XX K [(h, .inr (1, [.ref c, .int (nI L.length), .int (nI li), .int ye, .int br])), (c, .inl (cI, 48, .inl f)), (x3, .inr (3, [.ref xd, .ref xt, .int (nI W)])), (xt, .inl (cI, 4, .inl tf))] [(0, .ref h), (1, .int (nI s)), (2, .int (nI side)), (3, .int (nI v)), (4, .int (nI p)), (5, .ref x3)] 0 []
  have h8 := hv.1
  obtain ⟨v0, v1, v2, v2b, v3, v4, v5⟩ := hv.2 s (by omega)
  refine x_aload_n ok 0 dX1_singOn_0 rfl rfl ?_
  refine x_iload_n ok 1 dX1_singOn_1 rfl rfl ?_
  refine x_iconst ok (nI 1) dX1_singOn_2 (by decide) ?_
  refine qX1_38 ok (As := [.int (nI s), .int (nI 1)]) (st := []) 0 rfl (c1_getL l D cI cZ cS h c L li ye br f s 1 (by first | assumption | omega) (by first | assumption | omega) (by first | assumption | omega) (by first | assumption | omega)) rfl (Nat.le_of_ble_eq_true rfl) (Nat.le_of_ble_eq_true rfl) (Nat.le_of_ble_eq_true rfl) dX1_singOn_3 [0, 1] (by decide) rfl (ws' := fun u => [(h, .inr (1, [.ref c, .int (nI L.length), .int (nI li), .int ye, .int br])), (c, .inl (cI, 48, .inl f)), (x3, .inr (3, [.ref xd, .ref xt, .int (nI W)])), (xt, .inl (cI, 4, .inl tf))]) (st' := fun u => [.int (nI (sg L s 1))]) (fun _ => rfl) (fun _ => rfl) (fun _ => rfl) (fun _ _ => ?_)
  refine x_istore ok (lv' := [(6, .int (nI (sg L s 1))), (0, .ref h), (1, .int (nI s)), (2, .int (nI side)), (3, .int (nI v)), (4, .int (nI p)), (5, .ref x3)]) dX1_singOn_6 (by decide) rfl ?_
  refine x_aload ok 6 dX1_singOn_8 rfl ?_
  refine x_iload ok 0 dX1_singOn_10 rfl ?_
  refine qX1_60 ok (As := [.int (nI (sg L s 1))]) (st := []) 2 rfl (c3_stoneOf l D cI cZ cS x3 xd xt W tf (sg L s 1) (by first | assumption | omega)) rfl (Nat.le_of_ble_eq_true rfl) (Nat.le_of_ble_eq_true rfl) (Nat.le_of_ble_eq_true rfl) dX1_singOn_12 [2, 3] (by decide) rfl (ws' := fun u => [(h, .inr (1, [.ref c, .int (nI L.length), .int (nI li), .int ye, .int br])), (c, .inl (cI, 48, .inl f)), (x3, .inr (3, [.ref xd, .ref xt, .int (nI W)])), (xt, .inl (cI, 4, .inl tf))]) (st' := fun u => [.int (tf (sg L s 1))]) (fun _ => rfl) (fun _ => rfl) (fun _ => rfl) (fun _ _ => ?_)
  refine x_eq (st' := [.int (nI (st (sg L s 1)))]) rfl rfl (by rw [hst _ v1]) ?_
  refine x_iconst ok (nI 2) dX1_singOn_15 (by decide) ?_
  have J_24 : ∀ (v24_1 : Nat), v24_1 = (if (st (sg L s 1)) = 2 then 1 else 0) → XX K [(h, .inr (1, [.ref c, .int (nI L.length), .int (nI li), .int ye, .int br])), (c, .inl (cI, 48, .inl f)), (x3, .inr (3, [.ref xd, .ref xt, .int (nI W)])), (xt, .inl (cI, 4, .inl tf))] [(6, .int (nI (sg L s 1))), (0, .ref h), (1, .int (nI s)), (2, .int (nI side)), (3, .int (nI v)), (4, .int (nI p)), (5, .ref x3)] 24 [.int (nI v24_1)] := by
    intro v24_1 e_v24_1
    refine x_istore ok (lv' := [(7, .int (nI v24_1)), (6, .int (nI (sg L s 1))), (0, .ref h), (1, .int (nI s)), (2, .int (nI side)), (3, .int (nI v)), (4, .int (nI p)), (5, .ref x3)]) dX1_singOn_24 (by decide) rfl ?_
    refine x_aload_n ok 2 dX1_singOn_26 rfl rfl ?_
    refine x_iload_n ok 3 dX1_singOn_27 rfl rfl ?_
    refine x_iconst ok (nI 5) dX1_singOn_28 (by decide) ?_
    refine qX1_38 ok (As := [.int (nI s), .int (nI 5)]) (st := []) 0 rfl (c1_getL l D cI cZ cS h c L li ye br f s 5 (by first | assumption | omega) (by first | assumption | omega) (by first | assumption | omega) (by first | assumption | omega)) rfl (Nat.le_of_ble_eq_true rfl) (Nat.le_of_ble_eq_true rfl) (Nat.le_of_ble_eq_true rfl) dX1_singOn_29 [0, 1] (by decide) rfl (ws' := fun u => [(h, .inr (1, [.ref c, .int (nI L.length), .int (nI li), .int ye, .int br])), (c, .inl (cI, 48, .inl f)), (x3, .inr (3, [.ref xd, .ref xt, .int (nI W)])), (xt, .inl (cI, 4, .inl tf))]) (st' := fun u => [.int (nI (sg L s 5))]) (fun _ => rfl) (fun _ => rfl) (fun _ => rfl) (fun _ _ => ?_)
    refine x_iload ok 0 dX1_singOn_32 rfl ?_
    refine x_iadd ok (nI (sg L s 5 + v24_1)) dX1_singOn_34 (nN (nI_add _ _) (by omega)) ?_
    refine x_bipush ok (nI 9) dX1_singOn_35 (by decide) ?_
    refine x_mmin ok LX1_28 H_minT N_Math H_minC (Nat.le_of_ble_eq_true rfl) (Nat.le_of_ble_eq_true rfl) dX1_singOn_37 (nI (slipN st L s)) (by rw [e_v24_1]; exact min_n (by split <;> omega) (by omega)) ?_
    refine x_istore ok (lv' := [(8, .int (nI (slipN st L s))), (7, .int (nI v24_1)), (6, .int (nI (sg L s 1))), (0, .ref h), (1, .int (nI s)), (2, .int (nI side)), (3, .int (nI v)), (4, .int (nI p)), (5, .ref x3)]) dX1_singOn_40 (by decide) rfl ?_
    refine x_aload_n ok 3 dX1_singOn_42 rfl rfl ?_
    refine x_dup ok dX1_singOn_43 rfl ?_
    refine gX1_25 ok dX1_singOn_44 0 rfl rfl ?_
    refine x_iload_n ok 6 dX1_singOn_47 rfl rfl ?_
    refine x_iadd ok ((br + (nI v))) dX1_singOn_48 (rfl) ?_
    refine pX1_25 ok dX1_singOn_49 0 rfl rfl rfl (Nat.le_of_ble_eq_true rfl) (ws' := [(h, .inr (1, [.ref c, .int (nI L.length), .int (nI li), .int ye, .int (br + (nI v))])), (c, .inl (cI, 48, .inl f)), (x3, .inr (3, [.ref xd, .ref xt, .int (nI W)])), (xt, .inl (cI, 4, .inl tf))]) rfl ?_
    refine x_aload_n ok 3 dX1_singOn_52 rfl rfl ?_
    refine x_aload_n ok 3 dX1_singOn_53 rfl rfl ?_
    refine x_iload_n ok 4 dX1_singOn_54 rfl rfl ?_
    refine x_iconst ok (nI 0) dX1_singOn_55 (by decide) ?_
    refine qX1_38 ok (As := [.int (nI s), .int (nI 0)]) (st := [.ref h]) 0 rfl (c1_getL l D cI cZ cS h c L li ye (br + (nI v)) f s 0 (by first | assumption | omega) (by first | assumption | omega) (by first | assumption | omega) (by first | assumption | omega)) rfl (Nat.le_of_ble_eq_true rfl) (Nat.le_of_ble_eq_true rfl) (Nat.le_of_ble_eq_true rfl) dX1_singOn_56 [0, 1] (by decide) rfl (ws' := fun u => [(h, .inr (1, [.ref c, .int (nI L.length), .int (nI li), .int ye, .int (br + (nI v))])), (c, .inl (cI, 48, .inl f)), (x3, .inr (3, [.ref xd, .ref xt, .int (nI W)])), (xt, .inl (cI, 4, .inl tf))]) (st' := fun u => [.int (nI (sg L s 0)), .ref h]) (fun _ => rfl) (fun _ => rfl) (fun _ => rfl) (fun _ _ => ?_)
    refine x_iload ok 2 dX1_singOn_59 rfl ?_
    refine x_iload_n ok 5 dX1_singOn_61 rfl rfl ?_
    refine qX1_52 ok (As := [.int (nI (sg L s 1)), .int (nI side)]) (st := [.int (nI (sg L s 0)), .ref h]) (c1_wellBeside l D cI cZ cS (sg L s 1) side (by first | assumption | omega)) rfl (Nat.le_of_ble_eq_true rfl) (Nat.le_of_ble_eq_true rfl) (Nat.le_of_ble_eq_true rfl) dX1_singOn_62 [] (by decide) rfl (ws' := fun u => [(h, .inr (1, [.ref c, .int (nI L.length), .int (nI li), .int ye, .int (br + (nI v))])), (c, .inl (cI, 48, .inl f)), (x3, .inr (3, [.ref xd, .ref xt, .int (nI W)])), (xt, .inl (cI, 4, .inl tf))]) (st' := fun u => [.int (nxt (sg L s 1) side), .int (nI (sg L s 0)), .ref h]) (fun _ => rfl) (fun _ => rfl) (fun _ => rfl) (fun _ _ => ?_)
    refine x_eq (st' := [.int (nI j), .int (nI (sg L s 0)), .ref h]) rfl rfl (by rw [hj]) ?_
    refine x_iload_n ok 6 dX1_singOn_65 rfl rfl ?_
    refine x_iload ok 7 dX1_singOn_66 rfl ?_
    refine x_iload ok 0 dX1_singOn_68 rfl ?_
    refine qX1_63 ok (As := [.int (nI (sg L s 0)), .int (nI j), .int (nI v), .int (nI p), .int (nI (slipN st L s))]) (st := []) 0 rfl (c1_add l D cI cZ cS h c L li ye (br + (nI v)) f (sg L s 0) j v p (slipN st L s) (by first | assumption | omega) (by first | assumption | omega)) rfl (Nat.le_of_ble_eq_true rfl) (Nat.le_of_ble_eq_true rfl) (Nat.le_of_ble_eq_true rfl) dX1_singOn_70 [0, 1] (by decide) rfl (ws' := fun u => [(h, .inr (1, [.ref c, .int (nI ((L ++ [mkS (sg L s 0) j v p (slipN st L s)]).length)), .int (nI li), .int ye, .int (br + (nI v))])), (c, .inl (cI, 48, .inl u)), (x3, .inr (3, [.ref xd, .ref xt, .int (nI W)])), (xt, .inl (cI, 4, .inl tf))]) (st' := fun u => [.int (nI L.length)]) (fun _ => rfl) (fun _ => rfl) (fun _ => rfl) (fun u70 hu70 => ?_)
    obtain ⟨g70, rfl⟩ : ∃ z, z = u70 := ⟨_, rfl⟩
    have hg70 := hu70
    have hg70 : hs g70 (L ++ [mkS (sg L s 0) j v p (slipN st L s)]) := hg70
    show XX K [(h, .inr (1, [.ref c, .int (nI ((L ++ [mkS (sg L s 0) j v p (slipN st L s)]).length)), .int (nI li), .int ye, .int (br + (nI v))])), (c, .inl (cI, 48, .inl g70)), (x3, .inr (3, [.ref xd, .ref xt, .int (nI W)])), (xt, .inl (cI, 4, .inl tf))] [(8, .int (nI (slipN st L s))), (7, .int (nI v24_1)), (6, .int (nI (sg L s 1))), (0, .ref h), (1, .int (nI s)), (2, .int (nI side)), (3, .int (nI v)), (4, .int (nI p)), (5, .ref x3)] 73 [.int (nI L.length)]
    exact ret g70 _ _ _ (nI L.length) dX1_singOn_73 (rfl) (rfl) (by first | assumption | omega)
  refine x_icmp_neN ok 23 dX1_singOn_16 (by decide) (by first | omega | (have := hst2 _ v1; omega)) (by first | omega | (have := hst2 _ v1; omega)) (fun c_16 => ?_) (fun c_16 => ?_)
  · skip
    refine x_iconst ok (nI 0) dX1_singOn_23 (by decide) ?_
    exact J_24 0 (by first | rfl | (simp only [if_neg c_16]; done) | (simp [c_16]; done))
  · skip
    refine x_iconst ok (nI 1) dX1_singOn_19 (by decide) ?_
    refine x_goto ok 24 dX1_singOn_20 (by decide) ?_
    exact J_24 1 (by first | rfl | (simp only [if_pos c_16]; done) | (simp [c_16]; done))

set_option maxHeartbeats 4000000 in
set_option maxRecDepth 100000 in
theorem c1_shiftOfCrowd (l : Launch) (D : va_G) (cI cZ cS : ClassId) (w : Nat) (p : Nat)  : CO l D (TY cI cZ cS) yX1_shiftOfCrowd cX1_shiftOfCrowd 2 (some .int) 0 0 0 0 [.int (nI w), .int (nI p)] [] (σ := Unit) (fun u => some (.int (nI (4 * (w * 4 + p))))) (fun u => []) (fun u => True) := by
  refine CO_mki (by decide +kernel) (Nat.le_of_ble_eq_true rfl) (fun K ok ret => ?_)
  show XX K [] [(0, .int (nI w)), (1, .int (nI p))] 0 []
  refine x_iconst ok (nI 4) dX1_shiftOfCrowd_0 (by decide) ?_
  refine x_iload_n ok 0 dX1_shiftOfCrowd_1 rfl rfl ?_
  refine x_iconst ok (nI 4) dX1_shiftOfCrowd_2 (by decide) ?_
  refine x_imul ok (nI (w * 4)) dX1_shiftOfCrowd_3 (nN (pk_mul _ _) (by omega)) ?_
  refine x_iload_n ok 1 dX1_shiftOfCrowd_4 rfl rfl ?_
  refine x_iadd ok (nI (p + w * 4)) dX1_shiftOfCrowd_5 (nN (nI_add _ _) (by omega)) ?_
  refine x_imul ok (nI (p * 4 + w * 16)) dX1_shiftOfCrowd_6 (nN (pk_mul _ _) (by omega)) ?_
  exact ret () _ _ _ (nI (p * 4 + w * 16)) dX1_shiftOfCrowd_7 (rfl) (congrArg nI (by omega)) (trivial)

set_option maxHeartbeats 4000000 in
set_option maxRecDepth 100000 in
theorem c1_wear (l : Launch) (D : va_G) (cI cZ cS : ClassId) (h : Nat) (c : Nat) (L : List Sg) (li : Nat) (ye : Int32) (br : Int32) (f : Nat → Int32) (x3 : Nat) (xd : Nat) (xt : Nat) (W : Nat) (tf : Nat → Int32) (st : Nat → Nat) (A : Nat) (hf : hs f L) (hv : okL W A L) (hW : W ≤ 4) (hst : ∀ w, w < W → tf w = nI (st w)) (hst2 : ∀ w, w < W → st w ≤ 2) (hl : li < 256) : CO l D (TY cI cZ cS) yX1_wear cX1_wear 8 none 2 43 0 0 [.ref h, .ref x3] [(h, .inr (1, [.ref c, .int (nI L.length), .int (nI li), .int ye, .int br])), (c, .inl (cI, 48, .inl f)), (x3, .inr (3, [.ref xd, .ref xt, .int (nI W)])), (xt, .inl (cI, 4, .inl tf))] (σ := (Nat → Int32)) (fun u => none) (fun u => [(h, .inr (1, [.ref c, .int (nI L.length), .int (nI li), .int ye, .int br])), (c, .inl (cI, 48, .inl u)), (x3, .inr (3, [.ref xd, .ref xt, .int (nI W)])), (xt, .inl (cI, 4, .inl tf))]) (fun u => (worn u L (lossN st li L))) := by
  refine CO_mkv (by decide +kernel) (Nat.le_of_ble_eq_true rfl) (fun K ok ret => ?_)
  show XX K [(h, .inr (1, [.ref c, .int (nI L.length), .int (nI li), .int ye, .int br])), (c, .inl (cI, 48, .inl f)), (x3, .inr (3, [.ref xd, .ref xt, .int (nI W)])), (xt, .inl (cI, 4, .inl tf))] [(0, .ref h), (1, .ref x3)] 0 []
  have h8 := hv.1
  refine x_lconst ok ((nI 0).toInt64) dX1_wear_0 (by decide) ?_
  refine x_eq (st' := [.long (lN 0)]) rfl rfl (rfl) ?_
  refine x_lstore_n ok (lv' := [(2, .long (lN 0)), (0, .ref h), (1, .ref x3)]) dX1_wear_1 rfl (by decide) rfl ?_
  refine x_iconst ok (nI 0) dX1_wear_2 (by decide) ?_
  refine x_istore ok (lv' := [(4, .int (nI 0)), (2, .long (lN 0)), (0, .ref h), (1, .ref x3)]) dX1_wear_3 (by decide) rfl ?_
  have L_5 : ∀ (n_5 : Nat) (i : Nat), L.length - i < n_5 → (i ≤ L.length) → XX K [(h, .inr (1, [.ref c, .int (nI L.length), .int (nI li), .int ye, .int br])), (c, .inl (cI, 48, .inl f)), (x3, .inr (3, [.ref xd, .ref xt, .int (nI W)])), (xt, .inl (cI, 4, .inl tf))] [(4, .int (nI i)), (2, .long (lN (crowdN L i))), (0, .ref h), (1, .ref x3)] 5 [] := by
    intro n_5
    induction n_5 with
    | zero => intro i hm; exact absurd hm (Nat.not_lt_zero _)
    | succ n_5 ih_5 =>
      intro i hm_5 hi
      refine x_iload ok 0 dX1_wear_5 rfl ?_
      refine x_aload_n ok 2 dX1_wear_7 rfl rfl ?_
      refine gX1_15 ok dX1_wear_8 0 rfl rfl ?_
      refine x_icmp_geN ok 42 dX1_wear_11 (by decide) (by omega) (by omega) (fun c_11 => ?_) (fun c_11 => ?_)
      · skip
        have e_i : L.length = i := by omega
        subst e_i
        have hc := crowd_lt (L := L) L.length (fun i hi => by have q := hv.2 i hi; obtain ⟨a0, a1, a2, a3, a4, a5, a6⟩ := q; rw [keyN]; omega)
        refine x_iconst ok (nI 0) dX1_wear_42 (by decide) ?_
        refine x_istore ok (lv' := [(4, .int (nI 0)), (2, .long (lN (crowdN L L.length))), (0, .ref h), (1, .ref x3)]) dX1_wear_43 (by decide) rfl ?_
        have L_45 : ∀ (n_45 : Nat) (i : Nat) (g : Nat → Int32), L.length - i < n_45 → (i ≤ L.length) → (wornI g L (lossN st li L) i) → XX K [(h, .inr (1, [.ref c, .int (nI L.length), .int (nI li), .int ye, .int br])), (c, .inl (cI, 48, .inl g)), (x3, .inr (3, [.ref xd, .ref xt, .int (nI W)])), (xt, .inl (cI, 4, .inl tf))] [(4, .int (nI i)), (2, .long (lN (crowdN L L.length))), (0, .ref h), (1, .ref x3)] 45 [] := by
          intro n_45
          induction n_45 with
          | zero => intro i g hm; exact absurd hm (Nat.not_lt_zero _)
          | succ n_45 ih_45 =>
            intro i g hm_45 hi hw
            refine x_iload ok 0 dX1_wear_45 rfl ?_
            refine x_aload_n ok 2 dX1_wear_47 rfl rfl ?_
            refine gX1_15 ok dX1_wear_48 0 rfl rfl ?_
            refine x_icmp_geN ok 126 dX1_wear_51 (by decide) (by omega) (by omega) (fun c_51 => ?_) (fun c_51 => ?_)
            · skip
              have e_i : L.length = i := by omega
              subst e_i
              exact ret g _ _ _ dX1_wear_126 (rfl) (wornI_n hw)
            · skip
              obtain ⟨v0, v1, v2, v2b, v3, v4, v5⟩ := hv.2 i (by omega)
              have kk : keyN L i < 64 := by rw [keyN]; omega
              have sg1 := same_ge (L := L) (i := i) (by omega)
              have sl1 := same_le (s := sg L i) hv
              have st1 := hst2 _ v1
              refine x_aload_n ok 2 dX1_wear_54 rfl rfl ?_
              refine x_iload ok 0 dX1_wear_55 rfl ?_
              refine x_iconst ok (nI 1) dX1_wear_57 (by decide) ?_
              refine qX1_38 ok (As := [.int (nI i), .int (nI 1)]) (st := []) 0 rfl (c1_get l D cI cZ cS h c L.length li ye br g i 1 (by first | assumption | omega)) rfl (Nat.le_of_ble_eq_true rfl) (Nat.le_of_ble_eq_true rfl) (Nat.le_of_ble_eq_true rfl) dX1_wear_58 [0, 1] (by decide) rfl (ws' := fun u => [(h, .inr (1, [.ref c, .int (nI L.length), .int (nI li), .int ye, .int br])), (c, .inl (cI, 48, .inl g)), (x3, .inr (3, [.ref xd, .ref xt, .int (nI W)])), (xt, .inl (cI, 4, .inl tf))]) (st' := fun u => [.int (g (i * 6 + 1))]) (fun _ => rfl) (fun _ => rfl) (fun _ => rfl) (fun _ _ => ?_)
              refine x_eq (st' := [.int (nI (sg L i 1))]) rfl rfl (by rw [wornI_at hw (by omega) (by omega)]) ?_
              refine x_istore ok (lv' := [(5, .int (nI (sg L i 1))), (4, .int (nI i)), (2, .long (lN (crowdN L L.length))), (0, .ref h), (1, .ref x3)]) dX1_wear_61 (by decide) rfl ?_
              refine x_lload_n ok 2 dX1_wear_63 rfl rfl ?_
              refine x_iload ok 0 dX1_wear_64 rfl ?_
              refine x_aload_n ok 3 dX1_wear_66 rfl rfl ?_
              refine x_iload ok 1 dX1_wear_67 rfl ?_
              refine x_iconst ok (nI 3) dX1_wear_69 (by decide) ?_
              refine qX1_38 ok (As := [.int (nI i), .int (nI 3)]) (st := [.int (nI (sg L i 1)), .long (lN (crowdN L L.length))]) 0 rfl (c1_get l D cI cZ cS h c L.length li ye br g i 3 (by first | assumption | omega)) rfl (Nat.le_of_ble_eq_true rfl) (Nat.le_of_ble_eq_true rfl) (Nat.le_of_ble_eq_true rfl) dX1_wear_70 [0, 1] (by decide) rfl (ws' := fun u => [(h, .inr (1, [.ref c, .int (nI L.length), .int (nI li), .int ye, .int br])), (c, .inl (cI, 48, .inl g)), (x3, .inr (3, [.ref xd, .ref xt, .int (nI W)])), (xt, .inl (cI, 4, .inl tf))]) (st' := fun u => [.int (g (i * 6 + 3)), .int (nI (sg L i 1)), .long (lN (crowdN L L.length))]) (fun _ => rfl) (fun _ => rfl) (fun _ => rfl) (fun _ _ => ?_)
              refine x_eq (st' := [.int (nI (sg L i 3)), .int (nI (sg L i 1)), .long (lN (crowdN L L.length))]) rfl rfl (by rw [wornI_at hw (by omega) (by omega)]) ?_
              refine qX1_79 ok (As := [.int (nI (sg L i 1)), .int (nI (sg L i 3))]) (st := [.long (lN (crowdN L L.length))]) (c1_shiftOfCrowd l D cI cZ cS (sg L i 1) (sg L i 3) ) rfl (Nat.le_of_ble_eq_true rfl) (Nat.le_of_ble_eq_true rfl) (Nat.le_of_ble_eq_true rfl) dX1_wear_73 [] (by decide) rfl (ws' := fun u => [(h, .inr (1, [.ref c, .int (nI L.length), .int (nI li), .int ye, .int br])), (c, .inl (cI, 48, .inl g)), (x3, .inr (3, [.ref xd, .ref xt, .int (nI W)])), (xt, .inl (cI, 4, .inl tf))]) (st' := fun u => [.int (nI (4 * ((sg L i 1) * 4 + (sg L i 3)))), .long (lN (crowdN L L.length))]) (fun _ => rfl) (fun _ => rfl) (fun _ => rfl) (fun _ _ => ?_)
              refine x_lushr ok (lN (crowdN L L.length / 2 ^ keyN L i)) dX1_wear_76 (wb_shr (k := keyN L i) (by omega) kk) ?_
              refine x_ldc2v ok KX1_82 (v' := (nI 15).toInt64) (by decide) dX1_wear_77 ?_
              refine x_eq (st' := [.long (lN 15), .long (lN (crowdN L L.length / 2 ^ keyN L i))]) rfl rfl (rfl) ?_
              refine x_land ok (lN (sameN L (sg L i))) dX1_wear_80 ((wb_mask (k := 4) (Nat.lt_of_le_of_lt (Nat.div_le_self _ _) (by omega)) (by decide)).trans (congrArg lN (crowd_same hv (hv.2 i (by omega))))) ?_
              refine x_l2i ok (nI (sameN L (sg L i))) dX1_wear_81 (lN_i _) ?_
              refine x_istore ok (lv' := [(6, .int (nI (sameN L (sg L i)))), (5, .int (nI (sg L i 1))), (4, .int (nI i)), (2, .long (lN (crowdN L L.length))), (0, .ref h), (1, .ref x3)]) dX1_wear_82 (by decide) rfl ?_
              refine x_aload_n ok 5 dX1_wear_84 rfl rfl ?_
              refine x_iload ok 1 dX1_wear_85 rfl ?_
              refine x_aload_n ok 4 dX1_wear_87 rfl rfl ?_
              refine x_iload ok 1 dX1_wear_88 rfl ?_
              refine qX1_48 ok (As := [.int (nI (sg L i 1))]) (st := [.int (nI (sg L i 1)), .ref x3]) 0 rfl (c1_hasLid l D cI cZ cS h c L.length li ye br (sg L i 1) (by first | assumption | omega) (by first | assumption | omega)) rfl (Nat.le_of_ble_eq_true rfl) (Nat.le_of_ble_eq_true rfl) (Nat.le_of_ble_eq_true rfl) dX1_wear_90 [0] (by decide) rfl (ws' := fun u => [(h, .inr (1, [.ref c, .int (nI L.length), .int (nI li), .int ye, .int br])), (c, .inl (cI, 48, .inl g)), (x3, .inr (3, [.ref xd, .ref xt, .int (nI W)])), (xt, .inl (cI, 4, .inl tf))]) (st' := fun u => [.int (bz (li.testBit (sg L i 1))), .int (nI (sg L i 1)), .ref x3]) (fun _ => rfl) (fun _ => rfl) (fun _ => rfl) (fun _ _ => ?_)
              refine qX1_84 ok (As := [.int (nI (sg L i 1)), .int (bz (li.testBit (sg L i 1)))]) (st := []) 2 rfl (c3_wearIn l D cI cZ cS x3 xd xt W tf (sg L i 1) (li.testBit (sg L i 1)) (st (sg L i 1)) (by first | assumption | omega) (hst _ v1)) rfl (Nat.le_of_ble_eq_true rfl) (Nat.le_of_ble_eq_true rfl) (Nat.le_of_ble_eq_true rfl) dX1_wear_93 [2, 3] (by decide) rfl (ws' := fun u => [(h, .inr (1, [.ref c, .int (nI L.length), .int (nI li), .int ye, .int br])), (c, .inl (cI, 48, .inl g)), (x3, .inr (3, [.ref xd, .ref xt, .int (nI W)])), (xt, .inl (cI, 4, .inl tf))]) (st' := fun u => [.int (nI ((st (sg L i 1)) + (if (li.testBit (sg L i 1)) = true then 0 else 1)))]) (fun _ => rfl) (fun _ => rfl) (fun _ => rfl) (fun _ _ => ?_)
              refine x_iload ok 0 dX1_wear_96 rfl ?_
              refine x_iadd ok (nI ((st (sg L i 1) + (if li.testBit (sg L i 1) = true then 0 else 1)) + sameN L (sg L i))) dX1_wear_98 (nI_add _ _) ?_
              refine x_iconst ok (nI 1) dX1_wear_99 (by decide) ?_
              refine x_isub ok (nI (lossN st li L i)) dX1_wear_100 ((pk_sub (by omega)).trans (congrArg nI (by rw [lossN]; omega))) ?_
              refine x_istore ok (lv' := [(7, .int (nI (lossN st li L i))), (6, .int (nI (sameN L (sg L i)))), (5, .int (nI (sg L i 1))), (4, .int (nI i)), (2, .long (lN (crowdN L L.length))), (0, .ref h), (1, .ref x3)]) dX1_wear_101 (by decide) rfl ?_
              refine x_aload_n ok 5 dX1_wear_103 rfl rfl ?_
              refine x_iload ok 3 dX1_wear_104 rfl ?_
              refine x_iconst ok (nI 2) dX1_wear_106 (by decide) ?_
              refine x_aload_n ok 5 dX1_wear_107 rfl rfl ?_
              refine x_iload ok 3 dX1_wear_108 rfl ?_
              refine x_iconst ok (nI 2) dX1_wear_110 (by decide) ?_
              refine qX1_38 ok (As := [.int (nI i), .int (nI 2)]) (st := [.int (nI 2), .int (nI i), .ref h]) 0 rfl (c1_get l D cI cZ cS h c L.length li ye br g i 2 (by first | assumption | omega)) rfl (Nat.le_of_ble_eq_true rfl) (Nat.le_of_ble_eq_true rfl) (Nat.le_of_ble_eq_true rfl) dX1_wear_111 [0, 1] (by decide) rfl (ws' := fun u => [(h, .inr (1, [.ref c, .int (nI L.length), .int (nI li), .int ye, .int br])), (c, .inl (cI, 48, .inl g)), (x3, .inr (3, [.ref xd, .ref xt, .int (nI W)])), (xt, .inl (cI, 4, .inl tf))]) (st' := fun u => [.int (g (i * 6 + 2)), .int (nI 2), .int (nI i), .ref h]) (fun _ => rfl) (fun _ => rfl) (fun _ => rfl) (fun _ _ => ?_)
              refine x_eq (st' := [.int (nI (sg L i 2)), .int (nI 2), .int (nI i), .ref h]) rfl rfl (by rw [wornI_at hw (by omega) (by omega)]) ?_
              refine x_iload ok 0 dX1_wear_114 rfl ?_
              refine x_isub ok (((nI (sg L i 2)) - (nI (lossN st li L i)))) dX1_wear_116 (rfl) ?_
              refine qX1_34 ok (As := [.int (nI i), .int (nI 2), .int ((nI (sg L i 2)) - (nI (lossN st li L i)))]) (st := []) 0 rfl (c1_set l D cI cZ cS h c L.length li ye br g i 2 ((nI (sg L i 2)) - (nI (lossN st li L i))) (by first | assumption | omega)) rfl (Nat.le_of_ble_eq_true rfl) (Nat.le_of_ble_eq_true rfl) (Nat.le_of_ble_eq_true rfl) dX1_wear_117 [0, 1] (by decide) rfl (ws' := fun u => [(h, .inr (1, [.ref c, .int (nI L.length), .int (nI li), .int ye, .int br])), (c, .inl (cI, 48, .inl (upd g (i * 6 + 2) ((nI (sg L i 2)) - (nI (lossN st li L i)))))), (x3, .inr (3, [.ref xd, .ref xt, .int (nI W)])), (xt, .inl (cI, 4, .inl tf))]) (st' := fun u => []) (fun _ => rfl) (fun _ => rfl) (fun _ => rfl) (fun _ _ => ?_)
              refine x_iinc ok (v := nI (i + 1)) (lv' := [(4, .int (nI (i + 1))), (7, .int (nI (lossN st li L i))), (6, .int (nI (sameN L (sg L i)))), (5, .int (nI (sg L i 1))), (2, .long (lN (crowdN L L.length))), (0, .ref h), (1, .ref x3)]) dX1_wear_120 3 rfl (nN (nI_inc _ 1) (by omega)) (by decide) rfl ?_
              refine x_goto ok 45 dX1_wear_123 (by decide) ?_
              refine x_loc ok [0, 4, 5, 6] (lv' := [(4, .int (nI (i + 1))), (2, .long (lN (crowdN L L.length))), (0, .ref h), (1, .ref x3)]) rfl ?_
              exact ih_45 (i + 1) (upd g (i * 6 + 2) ((nI (sg L i 2)) - (nI (lossN st li L i)))) (by omega) (by first | assumption | omega) (wornI_s hw)
        exact L_45 _ 0 f (Nat.lt_succ_self _) (by first | assumption | omega) (wornI_0 hf)
      · skip
        obtain ⟨v0, v1, v2, v2b, v3, v4, v5⟩ := hv.2 i (by omega)
        have kk : keyN L i < 64 := by rw [keyN]; omega
        refine x_lload_n ok 1 dX1_wear_14 rfl rfl ?_
        refine x_lconst ok ((nI 1).toInt64) dX1_wear_15 (by decide) ?_
        refine x_eq (st' := [.long (lN 1), .long (lN (crowdN L i))]) rfl rfl (rfl) ?_
        refine x_aload_n ok 2 dX1_wear_16 rfl rfl ?_
        refine x_iload ok 0 dX1_wear_17 rfl ?_
        refine x_iconst ok (nI 1) dX1_wear_19 (by decide) ?_
        refine qX1_38 ok (As := [.int (nI i), .int (nI 1)]) (st := [.long (lN 1), .long (lN (crowdN L i))]) 0 rfl (c1_getL l D cI cZ cS h c L li ye br f i 1 (by first | assumption | omega) (by first | assumption | omega) (by first | assumption | omega) (by first | assumption | omega)) rfl (Nat.le_of_ble_eq_true rfl) (Nat.le_of_ble_eq_true rfl) (Nat.le_of_ble_eq_true rfl) dX1_wear_20 [0, 1] (by decide) rfl (ws' := fun u => [(h, .inr (1, [.ref c, .int (nI L.length), .int (nI li), .int ye, .int br])), (c, .inl (cI, 48, .inl f)), (x3, .inr (3, [.ref xd, .ref xt, .int (nI W)])), (xt, .inl (cI, 4, .inl tf))]) (st' := fun u => [.int (nI (sg L i 1)), .long (lN 1), .long (lN (crowdN L i))]) (fun _ => rfl) (fun _ => rfl) (fun _ => rfl) (fun _ _ => ?_)
        refine x_aload_n ok 2 dX1_wear_23 rfl rfl ?_
        refine x_iload ok 0 dX1_wear_24 rfl ?_
        refine x_iconst ok (nI 3) dX1_wear_26 (by decide) ?_
        refine qX1_38 ok (As := [.int (nI i), .int (nI 3)]) (st := [.int (nI (sg L i 1)), .long (lN 1), .long (lN (crowdN L i))]) 0 rfl (c1_getL l D cI cZ cS h c L li ye br f i 3 (by first | assumption | omega) (by first | assumption | omega) (by first | assumption | omega) (by first | assumption | omega)) rfl (Nat.le_of_ble_eq_true rfl) (Nat.le_of_ble_eq_true rfl) (Nat.le_of_ble_eq_true rfl) dX1_wear_27 [0, 1] (by decide) rfl (ws' := fun u => [(h, .inr (1, [.ref c, .int (nI L.length), .int (nI li), .int ye, .int br])), (c, .inl (cI, 48, .inl f)), (x3, .inr (3, [.ref xd, .ref xt, .int (nI W)])), (xt, .inl (cI, 4, .inl tf))]) (st' := fun u => [.int (nI (sg L i 3)), .int (nI (sg L i 1)), .long (lN 1), .long (lN (crowdN L i))]) (fun _ => rfl) (fun _ => rfl) (fun _ => rfl) (fun _ _ => ?_)
        refine qX1_79 ok (As := [.int (nI (sg L i 1)), .int (nI (sg L i 3))]) (st := [.long (lN 1), .long (lN (crowdN L i))]) (c1_shiftOfCrowd l D cI cZ cS (sg L i 1) (sg L i 3) ) rfl (Nat.le_of_ble_eq_true rfl) (Nat.le_of_ble_eq_true rfl) (Nat.le_of_ble_eq_true rfl) dX1_wear_30 [] (by decide) rfl (ws' := fun u => [(h, .inr (1, [.ref c, .int (nI L.length), .int (nI li), .int ye, .int br])), (c, .inl (cI, 48, .inl f)), (x3, .inr (3, [.ref xd, .ref xt, .int (nI W)])), (xt, .inl (cI, 4, .inl tf))]) (st' := fun u => [.int (nI (4 * ((sg L i 1) * 4 + (sg L i 3)))), .long (lN 1), .long (lN (crowdN L i))]) (fun _ => rfl) (fun _ => rfl) (fun _ => rfl) (fun _ _ => ?_)
        refine x_lshl ok (lN (2 ^ keyN L i)) dX1_wear_33 (lshl1 (keyN L i) kk) ?_
        refine x_ladd ok (lN (crowdN L (i + 1))) dX1_wear_34 (lN_add _ _) ?_
        refine x_lstore_n ok (lv' := [(2, .long (lN (crowdN L (i + 1)))), (4, .int (nI i)), (0, .ref h), (1, .ref x3)]) dX1_wear_35 rfl (by decide) rfl ?_
        refine x_iinc ok (v := nI (i + 1)) (lv' := [(4, .int (nI (i + 1))), (2, .long (lN (crowdN L (i + 1)))), (0, .ref h), (1, .ref x3)]) dX1_wear_36 1 rfl (nN (nI_inc _ 1) (by omega)) (by decide) rfl ?_
        refine x_goto ok 5 dX1_wear_39 (by decide) ?_
        exact ih_5 (i + 1) (by omega) (by first | assumption | omega)
  exact L_5 _ 0 (Nat.lt_succ_self _) (by first | assumption | omega)

set_option maxHeartbeats 4000000 in
set_option maxRecDepth 100000 in
theorem c1_faintAhead (l : Launch) (D : va_G) (cI cZ cS : ClassId) (h : Nat) (c : Nat) (n : Nat) (li : Nat) (ye : Int32) (br : Int32) (f : Nat → Int32) (p : Nat) (hp : p ≤ 8) : CO l D (TY cI cZ cS) yX1_faintAhead cX1_faintAhead 4 (some .int) 1 23 0 0 [.ref h, .int (nI p)] [(h, .inr (1, [.ref c, .int (nI n), .int (nI li), .int ye, .int br])), (c, .inl (cI, 48, .inl f))] (σ := Unit) (fun u => some (.int (nI (suN (fa1 f) p)))) (fun u => [(h, .inr (1, [.ref c, .int (nI n), .int (nI li), .int ye, .int br])), (c, .inl (cI, 48, .inl f))]) (fun u => True) := by
  refine CO_mki (by decide +kernel) (Nat.le_of_ble_eq_true rfl) (fun K ok ret => ?_)
  show XX K [(h, .inr (1, [.ref c, .int (nI n), .int (nI li), .int ye, .int br])), (c, .inl (cI, 48, .inl f))] [(0, .ref h), (1, .int (nI p))] 0 []
  refine x_iconst ok (nI 0) dX1_faintAhead_0 (by decide) ?_
  refine x_istore_n ok (lv' := [(2, .int (nI 0)), (0, .ref h), (1, .int (nI p))]) dX1_faintAhead_1 rfl (by decide) rfl ?_
  refine x_iconst ok (nI 0) dX1_faintAhead_2 (by decide) ?_
  refine x_istore_n ok (lv' := [(3, .int (nI 0)), (2, .int (nI 0)), (0, .ref h), (1, .int (nI p))]) dX1_faintAhead_3 rfl (by decide) rfl ?_
  have L_4 : ∀ (n_4 : Nat) (i : Nat), p - i < n_4 → (i ≤ p) → XX K [(h, .inr (1, [.ref c, .int (nI n), .int (nI li), .int ye, .int br])), (c, .inl (cI, 48, .inl f))] [(3, .int (nI i)), (2, .int (nI (suN (fa1 f) i))), (0, .ref h), (1, .int (nI p))] 4 [] := by
    intro n_4
    induction n_4 with
    | zero => intro i hm; exact absurd hm (Nat.not_lt_zero _)
    | succ n_4 ih_4 =>
      intro i hm_4 hi
      refine x_iload_n ok 0 dX1_faintAhead_4 rfl rfl ?_
      refine x_iload_n ok 3 dX1_faintAhead_5 rfl rfl ?_
      refine x_icmp_geN ok 32 dX1_faintAhead_6 (by decide) (by omega) (by omega) (fun c_6 => ?_) (fun c_6 => ?_)
      · skip
        have e_i : p = i := by omega
        subst e_i
        refine x_iload_n ok 1 dX1_faintAhead_32 rfl rfl ?_
        exact ret () _ _ _ (nI (suN (fa1 f) p)) dX1_faintAhead_33 (rfl) (by first | rfl | (simp [c_6]; done)) (trivial)
      · skip
        refine x_iload_n ok 1 dX1_faintAhead_9 rfl rfl ?_
        refine x_aload_n ok 2 dX1_faintAhead_10 rfl rfl ?_
        refine x_iload_n ok 0 dX1_faintAhead_11 rfl rfl ?_
        refine x_iconst ok (nI 2) dX1_faintAhead_12 (by decide) ?_
        refine qX1_38 ok (As := [.int (nI i), .int (nI 2)]) (st := [.int (nI (suN (fa1 f) i))]) 0 rfl (c1_get l D cI cZ cS h c n li ye br f i 2 (by first | assumption | omega)) rfl (Nat.le_of_ble_eq_true rfl) (Nat.le_of_ble_eq_true rfl) (Nat.le_of_ble_eq_true rfl) dX1_faintAhead_13 [0, 1] (by decide) rfl (ws' := fun u => [(h, .inr (1, [.ref c, .int (nI n), .int (nI li), .int ye, .int br])), (c, .inl (cI, 48, .inl f))]) (st' := fun u => [.int (f (i * 6 + 2)), .int (nI (suN (fa1 f) i))]) (fun _ => rfl) (fun _ => rfl) (fun _ => rfl) (fun _ _ => ?_)
        have J_24 : ∀ (v24_1 : Nat), v24_1 = (if 0 < (f (i * 6 + 2)) then 0 else 1) → XX K [(h, .inr (1, [.ref c, .int (nI n), .int (nI li), .int ye, .int br])), (c, .inl (cI, 48, .inl f))] [(3, .int (nI i)), (2, .int (nI (suN (fa1 f) i))), (0, .ref h), (1, .int (nI p))] 24 [.int (nI v24_1), .int (nI (suN (fa1 f) i))] := by
          intro v24_1 e_v24_1
          refine x_iadd ok (nI (suN (fa1 f) (i + 1))) dX1_faintAhead_24 (by rw [e_v24_1]; exact nI_add _ _) ?_
          refine x_istore_n ok (lv' := [(2, .int (nI (suN (fa1 f) (i + 1)))), (3, .int (nI i)), (0, .ref h), (1, .int (nI p))]) dX1_faintAhead_25 rfl (by decide) rfl ?_
          refine x_iinc ok (v := nI (i + 1)) (lv' := [(3, .int (nI (i + 1))), (2, .int (nI (suN (fa1 f) (i + 1)))), (0, .ref h), (1, .int (nI p))]) dX1_faintAhead_26 1 rfl (nN (nI_inc _ 1) (by omega)) (by decide) rfl ?_
          refine x_goto ok 4 dX1_faintAhead_29 (by decide) ?_
          exact ih_4 (i + 1) (by omega) (by first | assumption | omega)
        refine x_if_gt ok 23 dX1_faintAhead_16 (by decide) (fun c_16 => ?_) (fun c_16 => ?_)
        · skip
          refine x_iconst ok (nI 0) dX1_faintAhead_23 (by decide) ?_
          exact J_24 0 (by first | rfl | (simp only [if_pos c_16]; done) | (simp [c_16]; done))
        · skip
          refine x_iconst ok (nI 1) dX1_faintAhead_19 (by decide) ?_
          refine x_goto ok 24 dX1_faintAhead_20 (by decide) ?_
          exact J_24 1 (by first | rfl | (simp only [if_neg c_16]; done) | (simp [c_16]; done))
  exact L_4 _ 0 (Nat.lt_succ_self _) (by first | assumption | omega)

set_option maxHeartbeats 4000000 in
set_option maxRecDepth 100000 in
theorem c1_dropFaint (l : Launch) (D : va_G) (cI cZ cS : ClassId) (h : Nat) (c : Nat) (L : List Sg) (li : Nat) (ye : Int32) (br : Int32) (f : Nat → Int32) (lo : Nat → Nat) (hw : worn f L lo) (hb : ∀ i, i < L.length → sg L i 2 < 100 ∧ lo i < 100) (h8 : L.length ≤ 8) : CO l D (TY cI cZ cS) yX1_dropFaint cX1_dropFaint 4 (some .int) 1 24 0 0 [.ref h] [(h, .inr (1, [.ref c, .int (nI L.length), .int (nI li), .int ye, .int br])), (c, .inl (cI, 48, .inl f))] (σ := (Nat → Int32)) (fun u => some (.int (nI (L.length - (low lo 0 L L.length).length)))) (fun u => [(h, .inr (1, [.ref c, .int (nI ((low lo 0 L L.length).length)), .int (nI li), .int ye, .int br])), (c, .inl (cI, 48, .inl u))]) (fun u => (hs u (low lo 0 L L.length))) := by
  refine CO_mki (by decide +kernel) (Nat.le_of_ble_eq_true rfl) (fun K ok ret => ?_)
  show XX K [(h, .inr (1, [.ref c, .int (nI L.length), .int (nI li), .int ye, .int br])), (c, .inl (cI, 48, .inl f))] [(0, .ref h)] 0 []
  refine x_iconst ok (nI 0) dX1_dropFaint_0 (by decide) ?_
  refine x_istore_n ok (lv' := [(1, .int (nI 0)), (0, .ref h)]) dX1_dropFaint_1 rfl (by decide) rfl ?_
  refine x_iconst ok (nI 0) dX1_dropFaint_2 (by decide) ?_
  refine x_istore_n ok (lv' := [(2, .int (nI 0)), (1, .int (nI 0)), (0, .ref h)]) dX1_dropFaint_3 rfl (by decide) rfl ?_
  have L_4 : ∀ (n_4 : Nat) (i : Nat) (g : Nat → Int32), L.length - i < n_4 → (i ≤ L.length) → (hs g (low lo 0 L i)) → (∀ j, i * 6 ≤ j → g j = f j) → XX K [(h, .inr (1, [.ref c, .int (nI L.length), .int (nI li), .int ye, .int br])), (c, .inl (cI, 48, .inl g))] [(2, .int (nI i)), (1, .int (nI ((low lo 0 L i).length))), (0, .ref h)] 4 [] := by
    intro n_4
    induction n_4 with
    | zero => intro i g hm; exact absurd hm (Nat.not_lt_zero _)
    | succ n_4 ih_4 =>
      intro i g hm_4 hi hl hr
      have ln := low_len (lo := lo) (ag := 0) (L := L) i
      refine x_iload_n ok 0 dX1_dropFaint_4 rfl rfl ?_
      refine x_aload_n ok 2 dX1_dropFaint_5 rfl rfl ?_
      refine gX1_15 ok dX1_dropFaint_6 0 rfl rfl ?_
      refine x_icmp_geN ok 61 dX1_dropFaint_9 (by decide) (by omega) (by omega) (fun c_9 => ?_) (fun c_9 => ?_)
      · skip
        have e_i : L.length = i := by omega
        subst e_i
        refine x_aload_n ok 2 dX1_dropFaint_61 rfl rfl ?_
        refine gX1_15 ok dX1_dropFaint_62 0 rfl rfl ?_
        refine x_iload_n ok 1 dX1_dropFaint_65 rfl rfl ?_
        refine x_isub ok (nI (L.length - ((low lo 0 L L.length).length))) dX1_dropFaint_66 (pk_sub (by omega)) ?_
        refine x_istore_n ok (lv' := [(2, .int (nI (L.length - ((low lo 0 L L.length).length)))), (1, .int (nI ((low lo 0 L L.length).length))), (0, .ref h)]) dX1_dropFaint_67 rfl (by decide) rfl ?_
        refine x_aload_n ok 2 dX1_dropFaint_68 rfl rfl ?_
        refine x_iload_n ok 1 dX1_dropFaint_69 rfl rfl ?_
        refine pX1_15 ok dX1_dropFaint_70 0 rfl rfl rfl (Nat.le_of_ble_eq_true rfl) (ws' := [(h, .inr (1, [.ref c, .int (nI ((low lo 0 L L.length).length)), .int (nI li), .int ye, .int br])), (c, .inl (cI, 48, .inl g))]) rfl ?_
        refine x_iload_n ok 0 dX1_dropFaint_73 rfl rfl ?_
        exact ret g _ _ _ (nI (L.length - ((low lo 0 L L.length).length))) dX1_dropFaint_74 (rfl) (by first | rfl | (simp [c_9]; done)) (by first | assumption | omega)
      · skip
        have bb := hb i (by omega)
        refine x_aload_n ok 2 dX1_dropFaint_12 rfl rfl ?_
        refine x_iload_n ok 0 dX1_dropFaint_13 rfl rfl ?_
        refine x_iconst ok (nI 2) dX1_dropFaint_14 (by decide) ?_
        refine qX1_38 ok (As := [.int (nI i), .int (nI 2)]) (st := []) 0 rfl (c1_get l D cI cZ cS h c L.length li ye br g i 2 (by first | assumption | omega)) rfl (Nat.le_of_ble_eq_true rfl) (Nat.le_of_ble_eq_true rfl) (Nat.le_of_ble_eq_true rfl) dX1_dropFaint_15 [0, 1] (by decide) rfl (ws' := fun u => [(h, .inr (1, [.ref c, .int (nI L.length), .int (nI li), .int ye, .int br])), (c, .inl (cI, 48, .inl g))]) (st' := fun u => [.int (g (i * 6 + 2))]) (fun _ => rfl) (fun _ => rfl) (fun _ => rfl) (fun _ _ => ?_)
        refine x_eq (st' := [.int (nI (sg L i 2) - nI (lo i))]) rfl rfl (by rw [hr _ (by omega), hw i 2 (by omega) (by omega)]; simp) ?_
        refine x_if_le ok 55 dX1_dropFaint_18 (by decide) (fun c_18 => ?_) (fun c_18 => ?_)
        · skip
          have nl : ¬ lo i < sg L i 2 := (sub_pos (by omega) (by omega)).mp c_18
          refine x_iinc ok (v := nI (i + 1)) (lv' := [(2, .int (nI (i + 1))), (1, .int (nI ((low lo 0 L i).length))), (0, .ref h)]) dX1_dropFaint_55 0 rfl (nN (nI_inc _ 1) (by omega)) (by decide) rfl ?_
          refine x_goto ok 4 dX1_dropFaint_58 (by decide) ?_
          first | rw [show (low lo 0 L i).length + 1 = (low lo 0 L (i + 1)).length from by rw [low_y yl]; simp] | rw [show (low lo 0 L i).length = (low lo 0 L (i + 1)).length from by rw [low_n nl]]
          exact ih_4 (i + 1) g (by omega) (by first | assumption | omega) (by first | (rw [low_y yl]; exact hs_snoc hg2 hsn) | (rw [low_n nl]; exact hl)) (by first | exact fun j hj => hr2 j (by omega) | exact fun j hj => hr j (by omega))
        · skip
          have yl : lo i < sg L i 2 := Classical.byContradiction fun z => c_18 ((sub_pos (by omega) (by omega)).mpr z)
          have lf := low_fin hw (show i < L.length by omega) yl
          refine x_iconst ok (nI 0) dX1_dropFaint_21 (by decide) ?_
          refine x_istore_n ok (lv' := [(3, .int (nI 0)), (2, .int (nI i)), (1, .int (nI ((low lo 0 L i).length))), (0, .ref h)]) dX1_dropFaint_22 rfl (by decide) rfl ?_
          have L_23 : ∀ (n_23 : Nat) (p : Nat) (g2 : Nat → Int32), 6 - p < n_23 → (p ≤ 6) → (hs g2 (low lo 0 L i)) → (∀ j, i * 6 ≤ j → g2 j = f j) → (∀ k, k < p → g2 ((low lo 0 L i).length * 6 + k) = f (i * 6 + k)) → XX K [(h, .inr (1, [.ref c, .int (nI L.length), .int (nI li), .int ye, .int br])), (c, .inl (cI, 48, .inl g2))] [(3, .int (nI p)), (2, .int (nI i)), (1, .int (nI ((low lo 0 L i).length))), (0, .ref h)] 23 [] := by
            intro n_23
            induction n_23 with
            | zero => intro p g2 hm; exact absurd hm (Nat.not_lt_zero _)
            | succ n_23 ih_23 =>
              intro p g2 hm_23 hp hg2 hr2 hc2
              refine x_iload_n ok 2 dX1_dropFaint_23 rfl rfl ?_
              refine x_iload_n ok 1 dX1_dropFaint_24 rfl rfl ?_
              refine x_icmp_eqN ok 52 dX1_dropFaint_25 (by decide) (by omega) (by omega) (fun c_25 => ?_) (fun c_25 => ?_)
              · skip
                have hsn : ∀ k, k < 6 → g2 ((low lo 0 L i).length * 6 + k) = nI (lowS lo 0 L i k) := fun k hk => by rw [c_25, hr2 _ (by omega)]; exact lf k hk
                refine x_iinc ok (v := nI ((low lo 0 L i).length + 1)) (lv' := [(1, .int (nI ((low lo 0 L i).length + 1))), (3, .int (nI p)), (2, .int (nI i)), (0, .ref h)]) dX1_dropFaint_52 2 rfl (nN (nI_inc _ 1) (by omega)) (by decide) rfl ?_
                refine x_iinc ok (v := nI (i + 1)) (lv' := [(2, .int (nI (i + 1))), (1, .int (nI ((low lo 0 L i).length + 1))), (3, .int (nI p)), (0, .ref h)]) dX1_dropFaint_55 2 rfl (nN (nI_inc _ 1) (by omega)) (by decide) rfl ?_
                refine x_goto ok 4 dX1_dropFaint_58 (by decide) ?_
                refine x_loc ok [0, 1, 3] (lv' := [(2, .int (nI (i + 1))), (1, .int (nI ((low lo 0 L i).length + 1))), (0, .ref h)]) rfl ?_
                first | rw [show (low lo 0 L i).length + 1 = (low lo 0 L (i + 1)).length from by rw [low_y yl]; simp] | rw [show (low lo 0 L i).length = (low lo 0 L (i + 1)).length from by rw [low_n nl]]
                exact ih_4 (i + 1) g2 (by omega) (by first | assumption | omega) (by first | (rw [low_y yl]; exact hs_snoc hg2 hsn) | (rw [low_n nl]; exact hl)) (by first | exact fun j hj => hr2 j (by omega) | exact fun j hj => hr j (by omega))
              · skip
                refine x_iload_n ok 0 dX1_dropFaint_28 rfl rfl ?_
                refine x_bipush ok (nI 6) dX1_dropFaint_29 (by decide) ?_
                refine x_icmp_geN ok 52 dX1_dropFaint_31 (by decide) (by omega) (by omega) (fun c_31 => ?_) (fun c_31 => ?_)
                · skip
                  have hsn : ∀ k, k < 6 → g2 ((low lo 0 L i).length * 6 + k) = nI (lowS lo 0 L i k) := fun k hk => by rw [hc2 k (by omega)]; exact lf k hk
                  refine x_iinc ok (v := nI ((low lo 0 L i).length + 1)) (lv' := [(1, .int (nI ((low lo 0 L i).length + 1))), (3, .int (nI p)), (2, .int (nI i)), (0, .ref h)]) dX1_dropFaint_52 2 rfl (nN (nI_inc _ 1) (by omega)) (by decide) rfl ?_
                  refine x_iinc ok (v := nI (i + 1)) (lv' := [(2, .int (nI (i + 1))), (1, .int (nI ((low lo 0 L i).length + 1))), (3, .int (nI p)), (0, .ref h)]) dX1_dropFaint_55 2 rfl (nN (nI_inc _ 1) (by omega)) (by decide) rfl ?_
                  refine x_goto ok 4 dX1_dropFaint_58 (by decide) ?_
                  refine x_loc ok [0, 1, 3] (lv' := [(2, .int (nI (i + 1))), (1, .int (nI ((low lo 0 L i).length + 1))), (0, .ref h)]) rfl ?_
                  first | rw [show (low lo 0 L i).length + 1 = (low lo 0 L (i + 1)).length from by rw [low_y yl]; simp] | rw [show (low lo 0 L i).length = (low lo 0 L (i + 1)).length from by rw [low_n nl]]
                  exact ih_4 (i + 1) g2 (by omega) (by first | assumption | omega) (by first | (rw [low_y yl]; exact hs_snoc hg2 hsn) | (rw [low_n nl]; exact hl)) (by first | exact fun j hj => hr2 j (by omega) | exact fun j hj => hr j (by omega))
                · skip
                  refine x_aload_n ok 3 dX1_dropFaint_34 rfl rfl ?_
                  refine x_iload_n ok 2 dX1_dropFaint_35 rfl rfl ?_
                  refine x_iload_n ok 0 dX1_dropFaint_36 rfl rfl ?_
                  refine x_aload_n ok 3 dX1_dropFaint_37 rfl rfl ?_
                  refine x_iload_n ok 1 dX1_dropFaint_38 rfl rfl ?_
                  refine x_iload_n ok 0 dX1_dropFaint_39 rfl rfl ?_
                  refine qX1_38 ok (As := [.int (nI i), .int (nI p)]) (st := [.int (nI p), .int (nI ((low lo 0 L i).length)), .ref h]) 0 rfl (c1_get l D cI cZ cS h c L.length li ye br g2 i p (by first | assumption | omega)) rfl (Nat.le_of_ble_eq_true rfl) (Nat.le_of_ble_eq_true rfl) (Nat.le_of_ble_eq_true rfl) dX1_dropFaint_40 [0, 1] (by decide) rfl (ws' := fun u => [(h, .inr (1, [.ref c, .int (nI L.length), .int (nI li), .int ye, .int br])), (c, .inl (cI, 48, .inl g2))]) (st' := fun u => [.int (g2 (i * 6 + p)), .int (nI p), .int (nI ((low lo 0 L i).length)), .ref h]) (fun _ => rfl) (fun _ => rfl) (fun _ => rfl) (fun _ _ => ?_)
                  refine qX1_34 ok (As := [.int (nI ((low lo 0 L i).length)), .int (nI p), .int (g2 (i * 6 + p))]) (st := []) 0 rfl (c1_set l D cI cZ cS h c L.length li ye br g2 ((low lo 0 L i).length) p (g2 (i * 6 + p)) (by first | assumption | omega)) rfl (Nat.le_of_ble_eq_true rfl) (Nat.le_of_ble_eq_true rfl) (Nat.le_of_ble_eq_true rfl) dX1_dropFaint_43 [0, 1] (by decide) rfl (ws' := fun u => [(h, .inr (1, [.ref c, .int (nI L.length), .int (nI li), .int ye, .int br])), (c, .inl (cI, 48, .inl (upd g2 (((low lo 0 L i).length) * 6 + p) (g2 (i * 6 + p)))))]) (st' := fun u => []) (fun _ => rfl) (fun _ => rfl) (fun _ => rfl) (fun _ _ => ?_)
                  refine x_iinc ok (v := nI (p + 1)) (lv' := [(3, .int (nI (p + 1))), (2, .int (nI i)), (1, .int (nI ((low lo 0 L i).length))), (0, .ref h)]) dX1_dropFaint_46 0 rfl (nN (nI_inc _ 1) (by omega)) (by decide) rfl ?_
                  refine x_goto ok 23 dX1_dropFaint_49 (by decide) ?_
                  exact ih_23 (p + 1) (upd g2 (((low lo 0 L i).length) * 6 + p) (g2 (i * 6 + p))) (by omega) (by first | assumption | omega) (hs_upd hg2 (by omega)) (fun j hj => by rw [upd_n (by omega)]; exact hr2 j hj) (fun k hk => by rcases Nat.lt_or_ge k p with q | q; (rw [upd_n (by omega)]; exact hc2 k q); (rw [show k = p by omega, upd_s]; exact hr2 _ (by omega)))
          exact L_23 _ 0 g (Nat.lt_succ_self _) (by first | assumption | omega) (hl) (hr) (fun k hk => absurd hk (Nat.not_lt_zero k))
  exact L_4 _ 0 f (Nat.lt_succ_self _) (by first | assumption | omega) (fun j k h => absurd h (Nat.not_lt_zero j)) (fun _ _ => rfl)

set_option maxHeartbeats 4000000 in
set_option maxRecDepth 100000 in
theorem c1_goYear (l : Launch) (D : va_G) (cI cZ cS : ClassId) (h : Nat) (c : Nat) (L : List Sg) (li : Nat) (ye : Int32) (br : Int32) (f : Nat → Int32) (x3 : Nat) (xd : Nat) (xt : Nat) (W : Nat) (tf : Nat → Int32) (st : Nat → Nat) (A : Nat) (hf : hs f L) (hv : okL W A L) (hW : W ≤ 4) (hst : ∀ w, w < W → tf w = nI (st w)) (hst2 : ∀ w, w < W → st w ≤ 2) (hl : li < 256) : CO l D (TY cI cZ cS) yX1_goYear cX1_goYear 4 (some .int) 3 70 0 0 [.ref h, .ref x3] [(h, .inr (1, [.ref c, .int (nI L.length), .int (nI li), .int ye, .int br])), (c, .inl (cI, 48, .inl f)), (x3, .inr (3, [.ref xd, .ref xt, .int (nI W)])), (xt, .inl (cI, 4, .inl tf))] (σ := (Nat → Int32)) (fun u => some (.int (nI (L.length - (yearL st li L).length)))) (fun u => [(h, .inr (1, [.ref c, .int (nI ((yearL st li L).length)), .int (nI li), .int (ye + nI 1), .int br])), (c, .inl (cI, 48, .inl u)), (x3, .inr (3, [.ref xd, .ref xt, .int (nI W)])), (xt, .inl (cI, 4, .inl tf))]) (fun u => (hs u (yearL st li L))) := by
  refine CO_mki (by decide +kernel) (Nat.le_of_ble_eq_true rfl) (fun K ok ret => ?_)
  show XX K [(h, .inr (1, [.ref c, .int (nI L.length), .int (nI li), .int ye, .int br])), (c, .inl (cI, 48, .inl f)), (x3, .inr (3, [.ref xd, .ref xt, .int (nI W)])), (xt, .inl (cI, 4, .inl tf))] [(0, .ref h), (1, .ref x3)] 0 []
  have h8 := hv.1
  refine x_aload_n ok 0 dX1_goYear_0 rfl rfl ?_
  refine x_aload_n ok 1 dX1_goYear_1 rfl rfl ?_
  refine qX1_67 ok (As := [.ref x3]) (st := []) 0 rfl (c1_wear l D cI cZ cS h c L li ye br f x3 xd xt W tf st A (by first | assumption | omega) (by first | assumption | omega) (by first | assumption | omega) (by first | assumption | omega) (by first | assumption | omega) (by first | assumption | omega)) rfl (Nat.le_of_ble_eq_true rfl) (Nat.le_of_ble_eq_true rfl) (Nat.le_of_ble_eq_true rfl) dX1_goYear_2 [0, 1, 2, 3] (by decide) rfl (ws' := fun u => [(h, .inr (1, [.ref c, .int (nI L.length), .int (nI li), .int ye, .int br])), (c, .inl (cI, 48, .inl u)), (x3, .inr (3, [.ref xd, .ref xt, .int (nI W)])), (xt, .inl (cI, 4, .inl tf))]) (st' := fun u => []) (fun _ => rfl) (fun _ => rfl) (fun _ => rfl) (fun u2 hu2 => ?_)
  obtain ⟨g2, rfl⟩ : ∃ z, z = u2 := ⟨_, rfl⟩
  have hg2 := hu2
  have hg2 : worn g2 L (lossN st li L) := hg2
  show XX K [(h, .inr (1, [.ref c, .int (nI L.length), .int (nI li), .int ye, .int br])), (c, .inl (cI, 48, .inl g2)), (x3, .inr (3, [.ref xd, .ref xt, .int (nI W)])), (xt, .inl (cI, 4, .inl tf))] [(0, .ref h), (1, .ref x3)] 5 []
  refine x_aload_n ok 0 dX1_goYear_5 rfl rfl ?_
  refine qX1_71 ok (As := []) (st := []) 0 rfl (c1_dropFaint l D cI cZ cS h c L li ye br g2 (lossN st li L) (hg2) (fun i hi => ⟨by obtain ⟨v0, v1, v2, v2b, v3, v4, v5⟩ := hv.2 i hi; omega, by have := loss_le (li := li) hv hst2 hi; omega⟩) (by first | assumption | omega)) rfl (Nat.le_of_ble_eq_true rfl) (Nat.le_of_ble_eq_true rfl) (Nat.le_of_ble_eq_true rfl) dX1_goYear_6 [0, 1] (by decide) rfl (ws' := fun u => [(h, .inr (1, [.ref c, .int (nI ((low (lossN st li L) 0 L L.length).length)), .int (nI li), .int ye, .int br])), (c, .inl (cI, 48, .inl u)), (x3, .inr (3, [.ref xd, .ref xt, .int (nI W)])), (xt, .inl (cI, 4, .inl tf))]) (st' := fun u => [.int (nI (L.length - (low (lossN st li L) 0 L L.length).length))]) (fun _ => rfl) (fun _ => rfl) (fun _ => rfl) (fun u6 hu6 => ?_)
  obtain ⟨g6, rfl⟩ : ∃ z, z = u6 := ⟨_, rfl⟩
  have hg6 := hu6
  have hg6 : hs g6 (low (lossN st li L) 0 L L.length) := hg6
  show XX K [(h, .inr (1, [.ref c, .int (nI ((low (lossN st li L) 0 L L.length).length)), .int (nI li), .int ye, .int br])), (c, .inl (cI, 48, .inl g6)), (x3, .inr (3, [.ref xd, .ref xt, .int (nI W)])), (xt, .inl (cI, 4, .inl tf))] [(0, .ref h), (1, .ref x3)] 9 [.int (nI (L.length - (low (lossN st li L) 0 L L.length).length))]
  have ln := low_len (lo := lossN st li L) (ag := 0) (L := L) L.length
  refine x_istore_n ok (lv' := [(2, .int (nI (L.length - (low (lossN st li L) 0 L L.length).length))), (0, .ref h), (1, .ref x3)]) dX1_goYear_9 rfl (by decide) rfl ?_
  refine x_iconst ok (nI 0) dX1_goYear_10 (by decide) ?_
  refine x_istore_n ok (lv' := [(3, .int (nI 0)), (2, .int (nI (L.length - (low (lossN st li L) 0 L L.length).length))), (0, .ref h), (1, .ref x3)]) dX1_goYear_11 rfl (by decide) rfl ?_
  have L_12 : ∀ (n_12 : Nat) (i : Nat) (g3 : Nat → Int32), (low (lossN st li L) 0 L L.length).length - i < n_12 → (i ≤ (low (lossN st li L) 0 L L.length).length) → (aged g3 (low (lossN st li L) 0 L L.length) i) → XX K [(h, .inr (1, [.ref c, .int (nI ((low (lossN st li L) 0 L L.length).length)), .int (nI li), .int ye, .int br])), (c, .inl (cI, 48, .inl g3)), (x3, .inr (3, [.ref xd, .ref xt, .int (nI W)])), (xt, .inl (cI, 4, .inl tf))] [(3, .int (nI i)), (2, .int (nI (L.length - (low (lossN st li L) 0 L L.length).length))), (0, .ref h), (1, .ref x3)] 12 [] := by
    intro n_12
    induction n_12 with
    | zero => intro i g3 hm; exact absurd hm (Nat.not_lt_zero _)
    | succ n_12 ih_12 =>
      intro i g3 hm_12 hi ha
      refine x_iload_n ok 0 dX1_goYear_12 rfl rfl ?_
      refine x_aload_n ok 2 dX1_goYear_13 rfl rfl ?_
      refine gX1_15 ok dX1_goYear_14 0 rfl rfl ?_
      refine x_icmp_geN ok 40 dX1_goYear_17 (by decide) (by omega) (by omega) (fun c_17 => ?_) (fun c_17 => ?_)
      · skip
        have e_i : (low (lossN st li L) 0 L L.length).length = i := by omega
        subst e_i
        have hag := aged_n ha
        rw [show (low (lossN st li L) 0 L L.length).length = (yearL st li L).length from (low_age _).1.symm]
        refine x_aload_n ok 2 dX1_goYear_40 rfl rfl ?_
        refine x_dup ok dX1_goYear_41 rfl ?_
        refine gX1_22 ok dX1_goYear_42 0 rfl rfl ?_
        refine x_iconst ok (nI 1) dX1_goYear_45 (by decide) ?_
        refine x_iadd ok ((ye + (nI 1))) dX1_goYear_46 (rfl) ?_
        refine pX1_22 ok dX1_goYear_47 0 rfl rfl rfl (Nat.le_of_ble_eq_true rfl) (ws' := [(h, .inr (1, [.ref c, .int (nI ((yearL st li L).length)), .int (nI li), .int (ye + (nI 1)), .int br])), (c, .inl (cI, 48, .inl g3)), (x3, .inr (3, [.ref xd, .ref xt, .int (nI W)])), (xt, .inl (cI, 4, .inl tf))]) rfl ?_
        refine x_iload_n ok 1 dX1_goYear_50 rfl rfl ?_
        exact ret g3 _ _ _ (nI (L.length - (yearL st li L).length)) dX1_goYear_51 (rfl) (by first | rfl | (simp [c_17]; done)) (hag)
      · skip
        refine x_aload_n ok 2 dX1_goYear_20 rfl rfl ?_
        refine x_iload_n ok 0 dX1_goYear_21 rfl rfl ?_
        refine x_iconst ok (nI 4) dX1_goYear_22 (by decide) ?_
        refine x_aload_n ok 2 dX1_goYear_23 rfl rfl ?_
        refine x_iload_n ok 0 dX1_goYear_24 rfl rfl ?_
        refine x_iconst ok (nI 4) dX1_goYear_25 (by decide) ?_
        refine qX1_38 ok (As := [.int (nI i), .int (nI 4)]) (st := [.int (nI 4), .int (nI i), .ref h]) 0 rfl (c1_get l D cI cZ cS h c ((low (lossN st li L) 0 L L.length).length) li ye br g3 i 4 (by first | assumption | omega)) rfl (Nat.le_of_ble_eq_true rfl) (Nat.le_of_ble_eq_true rfl) (Nat.le_of_ble_eq_true rfl) dX1_goYear_26 [0, 1] (by decide) rfl (ws' := fun u => [(h, .inr (1, [.ref c, .int (nI ((low (lossN st li L) 0 L L.length).length)), .int (nI li), .int ye, .int br])), (c, .inl (cI, 48, .inl g3)), (x3, .inr (3, [.ref xd, .ref xt, .int (nI W)])), (xt, .inl (cI, 4, .inl tf))]) (st' := fun u => [.int (g3 (i * 6 + 4)), .int (nI 4), .int (nI i), .ref h]) (fun _ => rfl) (fun _ => rfl) (fun _ => rfl) (fun _ _ => ?_)
        refine x_eq (st' := [.int (nI (sg (low (lossN st li L) 0 L L.length) i 4)), .int (nI 4), .int (nI i), .ref h]) rfl rfl (by rw [ha i 4 (by omega) (by omega)]; simp) ?_
        refine x_iconst ok (nI 1) dX1_goYear_29 (by decide) ?_
        refine x_iadd ok (nI (sg (low (lossN st li L) 0 L L.length) i 4 + 1)) dX1_goYear_30 (nN (nI_add _ _) (by omega)) ?_
        refine qX1_34 ok (As := [.int (nI i), .int (nI 4), .int (nI (sg (low (lossN st li L) 0 L L.length) i 4 + 1))]) (st := []) 0 rfl (c1_set l D cI cZ cS h c ((low (lossN st li L) 0 L L.length).length) li ye br g3 i 4 (nI (sg (low (lossN st li L) 0 L L.length) i 4 + 1)) (by first | assumption | omega)) rfl (Nat.le_of_ble_eq_true rfl) (Nat.le_of_ble_eq_true rfl) (Nat.le_of_ble_eq_true rfl) dX1_goYear_31 [0, 1] (by decide) rfl (ws' := fun u => [(h, .inr (1, [.ref c, .int (nI ((low (lossN st li L) 0 L L.length).length)), .int (nI li), .int ye, .int br])), (c, .inl (cI, 48, .inl (upd g3 (i * 6 + 4) (nI (sg (low (lossN st li L) 0 L L.length) i 4 + 1))))), (x3, .inr (3, [.ref xd, .ref xt, .int (nI W)])), (xt, .inl (cI, 4, .inl tf))]) (st' := fun u => []) (fun _ => rfl) (fun _ => rfl) (fun _ => rfl) (fun _ _ => ?_)
        refine x_iinc ok (v := nI (i + 1)) (lv' := [(3, .int (nI (i + 1))), (2, .int (nI (L.length - (low (lossN st li L) 0 L L.length).length))), (0, .ref h), (1, .ref x3)]) dX1_goYear_34 0 rfl (nN (nI_inc _ 1) (by omega)) (by decide) rfl ?_
        refine x_goto ok 12 dX1_goYear_37 (by decide) ?_
        exact ih_12 (i + 1) (upd g3 (i * 6 + 4) (nI (sg (low (lossN st li L) 0 L L.length) i 4 + 1))) (by omega) (by first | assumption | omega) (aged_s ha (by omega))
  exact L_12 _ 0 g6 (Nat.lt_succ_self _) (by first | assumption | omega) (aged_0 hg6)

set_option maxHeartbeats 4000000 in
set_option maxRecDepth 100000 in
theorem c1_goYears (l : Launch) (D : va_G) (cI cZ cS : ClassId) (h : Nat) (c : Nat) (L : List Sg) (li : Nat) (ye : Int32) (br : Int32) (f : Nat → Int32) (x3 : Nat) (xd : Nat) (xt : Nat) (W : Nat) (tf : Nat → Int32) (st : Nat → Nat) (A : Nat) (n : Nat) (hf : hs f L) (hv : okL W A L) (hW : W ≤ 4) (hst : ∀ w, w < W → tf w = nI (st w)) (hst2 : ∀ w, w < W → st w ≤ 2) (hl : li < 256) (hn : n < 1000) : CO l D (TY cI cZ cS) yX1_goYears cX1_goYears 4 none 4 93 0 0 [.ref h, .int (nI n), .ref x3] [(h, .inr (1, [.ref c, .int (nI L.length), .int (nI li), .int ye, .int br])), (c, .inl (cI, 48, .inl f)), (x3, .inr (3, [.ref xd, .ref xt, .int (nI W)])), (xt, .inl (cI, 4, .inl tf))] (σ := (Nat → Int32) × (Int32)) (fun u => none) (fun u => [(h, .inr (1, [.ref c, .int (nI ((yearsL st li n L).length)), .int (nI li), .int u.2, .int br])), (c, .inl (cI, 48, .inl u.1)), (x3, .inr (3, [.ref xd, .ref xt, .int (nI W)])), (xt, .inl (cI, 4, .inl tf))]) (fun u => (hs u.1 (yearsL st li n L))) := by
  refine CO_mkv (by decide +kernel) (Nat.le_of_ble_eq_true rfl) (fun K ok ret => ?_)
  show XX K [(h, .inr (1, [.ref c, .int (nI L.length), .int (nI li), .int ye, .int br])), (c, .inl (cI, 48, .inl f)), (x3, .inr (3, [.ref xd, .ref xt, .int (nI W)])), (xt, .inl (cI, 4, .inl tf))] [(0, .ref h), (1, .int (nI n)), (2, .ref x3)] 0 []
  refine x_iconst ok (nI 0) dX1_goYears_0 (by decide) ?_
  refine x_istore_n ok (lv' := [(3, .int (nI 0)), (0, .ref h), (1, .int (nI n)), (2, .ref x3)]) dX1_goYears_1 rfl (by decide) rfl ?_
  have L_2 : ∀ (n_2 : Nat) (i : Nat) (g2 : Nat → Int32) (y2 : Int32), n - i < n_2 → (i ≤ n) → (hs g2 (yearsL st li i L)) → XX K [(h, .inr (1, [.ref c, .int (nI ((yearsL st li i L).length)), .int (nI li), .int y2, .int br])), (c, .inl (cI, 48, .inl g2)), (x3, .inr (3, [.ref xd, .ref xt, .int (nI W)])), (xt, .inl (cI, 4, .inl tf))] [(3, .int (nI i)), (0, .ref h), (1, .int (nI n)), (2, .ref x3)] 2 [] := by
    intro n_2
    induction n_2 with
    | zero => intro i g2 y2 hm; exact absurd hm (Nat.not_lt_zero _)
    | succ n_2 ih_2 =>
      intro i g2 y2 hm_2 hi hg2
      refine x_iload_n ok 0 dX1_goYears_2 rfl rfl ?_
      refine x_iload_n ok 2 dX1_goYears_3 rfl rfl ?_
      refine x_icmp_geN ok 19 dX1_goYears_4 (by decide) (by omega) (by omega) (fun c_4 => ?_) (fun c_4 => ?_)
      · skip
        have e_i : n = i := by omega
        subst e_i
        exact ret (g2, y2) _ _ _ dX1_goYears_19 (rfl) (by first | assumption | omega)
      · skip
        refine x_aload_n ok 1 dX1_goYears_7 rfl rfl ?_
        refine x_aload_n ok 3 dX1_goYears_8 rfl rfl ?_
        refine qX1_75 ok (As := [.ref x3]) (st := []) 0 rfl (c1_goYear l D cI cZ cS h c (yearsL st li i L) li y2 br g2 x3 xd xt W tf st (A + i) (by first | assumption | omega) (years_ok hv i) (by first | assumption | omega) (by first | assumption | omega) (by first | assumption | omega) (by first | assumption | omega)) rfl (Nat.le_of_ble_eq_true rfl) (Nat.le_of_ble_eq_true rfl) (Nat.le_of_ble_eq_true rfl) dX1_goYears_9 [0, 1, 2, 3] (by decide) rfl (ws' := fun u => [(h, .inr (1, [.ref c, .int (nI ((yearL st li (yearsL st li i L)).length)), .int (nI li), .int (y2 + nI 1), .int br])), (c, .inl (cI, 48, .inl u)), (x3, .inr (3, [.ref xd, .ref xt, .int (nI W)])), (xt, .inl (cI, 4, .inl tf))]) (st' := fun u => [.int (nI ((yearsL st li i L).length - (yearL st li (yearsL st li i L)).length))]) (fun _ => rfl) (fun _ => rfl) (fun _ => rfl) (fun u9 hu9 => ?_)
        obtain ⟨g9, rfl⟩ : ∃ z, z = u9 := ⟨_, rfl⟩
        have hg9 := hu9
        have hg9 : hs g9 (yearL st li (yearsL st li i L)) := hg9
        show XX K [(h, .inr (1, [.ref c, .int (nI ((yearL st li (yearsL st li i L)).length)), .int (nI li), .int (y2 + nI 1), .int br])), (c, .inl (cI, 48, .inl g9)), (x3, .inr (3, [.ref xd, .ref xt, .int (nI W)])), (xt, .inl (cI, 4, .inl tf))] [(3, .int (nI i)), (0, .ref h), (1, .int (nI n)), (2, .ref x3)] 12 [.int (nI ((yearsL st li i L).length - (yearL st li (yearsL st li i L)).length))]
        refine x_pop ok dX1_goYears_12 rfl ?_
        refine x_iinc ok (v := nI (i + 1)) (lv' := [(3, .int (nI (i + 1))), (0, .ref h), (1, .int (nI n)), (2, .ref x3)]) dX1_goYears_13 0 rfl (nN (nI_inc _ 1) (by omega)) (by decide) rfl ?_
        refine x_goto ok 2 dX1_goYears_16 (by decide) ?_
        exact ih_2 (i + 1) g9 (y2 + nI 1) (by omega) (by first | assumption | omega) (hg9)
  exact L_2 _ 0 f ye (Nat.lt_succ_self _) (by first | assumption | omega) (hf)

set_option maxHeartbeats 4000000 in
set_option maxRecDepth 100000 in
theorem c1_flood (l : Launch) (D : va_G) (cI cZ cS : ClassId) (h : Nat) (c : Nat) (L : List Sg) (li : Nat) (ye : Int32) (br : Int32) (f : Nat → Int32) (W : Nat) (A : Nat) (w : Nat) (hf : hs f L) (hv : okL W A L) (hW : W ≤ 4) (hw8 : w < 8) : CO l D (TY cI cZ cS) yX1_flood cX1_flood 3 none 2 47 0 0 [.ref h, .int (nI w)] [(h, .inr (1, [.ref c, .int (nI L.length), .int (nI li), .int ye, .int br])), (c, .inl (cI, 48, .inl f))] (σ := (Nat → Int32)) (fun u => none) (fun u => [(h, .inr (1, [.ref c, .int (nI ((low (fl1 L w) 0 L L.length).length)), .int (nI li), .int ye, .int br])), (c, .inl (cI, 48, .inl u))]) (fun u => (hs u (low (fl1 L w) 0 L L.length))) := by
  refine CO_mkv (by decide +kernel) (Nat.le_of_ble_eq_true rfl) (fun K ok ret => ?_)
  show XX K [(h, .inr (1, [.ref c, .int (nI L.length), .int (nI li), .int ye, .int br])), (c, .inl (cI, 48, .inl f))] [(0, .ref h), (1, .int (nI w))] 0 []
  have h8 := hv.1
  refine x_iconst ok (nI 0) dX1_flood_0 (by decide) ?_
  refine x_istore_n ok (lv' := [(2, .int (nI 0)), (0, .ref h), (1, .int (nI w))]) dX1_flood_1 rfl (by decide) rfl ?_
  have L_2 : ∀ (n_2 : Nat) (i : Nat) (g2 : Nat → Int32), L.length - i < n_2 → (i ≤ L.length) → (wornI g2 L (fl1 L w) i) → XX K [(h, .inr (1, [.ref c, .int (nI L.length), .int (nI li), .int ye, .int br])), (c, .inl (cI, 48, .inl g2))] [(2, .int (nI i)), (0, .ref h), (1, .int (nI w))] 2 [] := by
    intro n_2
    induction n_2 with
    | zero => intro i g2 hm; exact absurd hm (Nat.not_lt_zero _)
    | succ n_2 ih_2 =>
      intro i g2 hm_2 hi hw
      refine x_iload_n ok 0 dX1_flood_2 rfl rfl ?_
      refine x_aload_n ok 1 dX1_flood_3 rfl rfl ?_
      refine gX1_15 ok dX1_flood_4 0 rfl rfl ?_
      refine x_icmp_geN ok 40 dX1_flood_7 (by decide) (by omega) (by omega) (fun c_7 => ?_) (fun c_7 => ?_)
      · skip
        have e_i : L.length = i := by omega
        subst e_i
        refine x_aload_n ok 1 dX1_flood_40 rfl rfl ?_
        refine qX1_71 ok (As := []) (st := []) 0 rfl (c1_dropFaint l D cI cZ cS h c L li ye br g2 (fl1 L w) (wornI_n hw) (fun i hi => ⟨by obtain ⟨v0, v1, v2, v2b, v3, v4, v5⟩ := hv.2 i hi; omega, by rw [fl1]; split <;> omega⟩) (by first | assumption | omega)) rfl (Nat.le_of_ble_eq_true rfl) (Nat.le_of_ble_eq_true rfl) (Nat.le_of_ble_eq_true rfl) dX1_flood_41 [0, 1] (by decide) rfl (ws' := fun u => [(h, .inr (1, [.ref c, .int (nI ((low (fl1 L w) 0 L L.length).length)), .int (nI li), .int ye, .int br])), (c, .inl (cI, 48, .inl u))]) (st' := fun u => [.int (nI (L.length - (low (fl1 L w) 0 L L.length).length))]) (fun _ => rfl) (fun _ => rfl) (fun _ => rfl) (fun u41 hu41 => ?_)
        obtain ⟨g41, rfl⟩ : ∃ z, z = u41 := ⟨_, rfl⟩
        have hg41 := hu41
        have hg41 : hs g41 (low (fl1 L w) 0 L L.length) := hg41
        show XX K [(h, .inr (1, [.ref c, .int (nI ((low (fl1 L w) 0 L L.length).length)), .int (nI li), .int ye, .int br])), (c, .inl (cI, 48, .inl g41))] [(2, .int (nI L.length)), (0, .ref h), (1, .int (nI w))] 44 [.int (nI (L.length - (low (fl1 L w) 0 L L.length).length))]
        refine x_pop ok dX1_flood_44 rfl ?_
        exact ret g41 _ _ _ dX1_flood_45 (rfl) (by first | assumption | omega)
      · skip
        obtain ⟨v0, v1, v2, v2b, v3, v4, v5⟩ := hv.2 i (by omega)
        refine x_aload_n ok 1 dX1_flood_10 rfl rfl ?_
        refine x_iload_n ok 0 dX1_flood_11 rfl rfl ?_
        refine x_iconst ok (nI 1) dX1_flood_12 (by decide) ?_
        refine qX1_38 ok (As := [.int (nI i), .int (nI 1)]) (st := []) 0 rfl (c1_get l D cI cZ cS h c L.length li ye br g2 i 1 (by first | assumption | omega)) rfl (Nat.le_of_ble_eq_true rfl) (Nat.le_of_ble_eq_true rfl) (Nat.le_of_ble_eq_true rfl) dX1_flood_13 [0, 1] (by decide) rfl (ws' := fun u => [(h, .inr (1, [.ref c, .int (nI L.length), .int (nI li), .int ye, .int br])), (c, .inl (cI, 48, .inl g2))]) (st' := fun u => [.int (g2 (i * 6 + 1))]) (fun _ => rfl) (fun _ => rfl) (fun _ => rfl) (fun _ _ => ?_)
        refine x_eq (st' := [.int (nI (sg L i 1))]) rfl rfl (by rw [wornI_at hw (by omega) (by omega)]) ?_
        refine x_iload_n ok 2 dX1_flood_16 rfl rfl ?_
        refine x_icmp_neN ok 34 dX1_flood_17 (by decide) (by omega) (by omega) (fun c_17 => ?_) (fun c_17 => ?_)
        · skip
          refine x_iinc ok (v := nI (i + 1)) (lv' := [(2, .int (nI (i + 1))), (0, .ref h), (1, .int (nI w))]) dX1_flood_34 0 rfl (nN (nI_inc _ 1) (by omega)) (by decide) rfl ?_
          refine x_goto ok 2 dX1_flood_37 (by decide) ?_
          exact ih_2 (i + 1) g2 (by omega) (by first | assumption | omega) (by first | (have q := wornI_s hw; rw [fl1, if_pos c_17] at q; exact q) | exact wornI_k hw (by rw [fl1, if_neg c_17]))
        · skip
          refine x_aload_n ok 1 dX1_flood_20 rfl rfl ?_
          refine x_iload_n ok 0 dX1_flood_21 rfl rfl ?_
          refine x_iconst ok (nI 2) dX1_flood_22 (by decide) ?_
          refine x_aload_n ok 1 dX1_flood_23 rfl rfl ?_
          refine x_iload_n ok 0 dX1_flood_24 rfl rfl ?_
          refine x_iconst ok (nI 2) dX1_flood_25 (by decide) ?_
          refine qX1_38 ok (As := [.int (nI i), .int (nI 2)]) (st := [.int (nI 2), .int (nI i), .ref h]) 0 rfl (c1_get l D cI cZ cS h c L.length li ye br g2 i 2 (by first | assumption | omega)) rfl (Nat.le_of_ble_eq_true rfl) (Nat.le_of_ble_eq_true rfl) (Nat.le_of_ble_eq_true rfl) dX1_flood_26 [0, 1] (by decide) rfl (ws' := fun u => [(h, .inr (1, [.ref c, .int (nI L.length), .int (nI li), .int ye, .int br])), (c, .inl (cI, 48, .inl g2))]) (st' := fun u => [.int (g2 (i * 6 + 2)), .int (nI 2), .int (nI i), .ref h]) (fun _ => rfl) (fun _ => rfl) (fun _ => rfl) (fun _ _ => ?_)
          refine x_eq (st' := [.int (nI (sg L i 2)), .int (nI 2), .int (nI i), .ref h]) rfl rfl (by rw [wornI_at hw (by omega) (by omega)]) ?_
          refine x_iconst ok (nI 3) dX1_flood_29 (by decide) ?_
          refine x_isub ok (((nI (sg L i 2)) - (nI 3))) dX1_flood_30 (rfl) ?_
          refine qX1_34 ok (As := [.int (nI i), .int (nI 2), .int ((nI (sg L i 2)) - (nI 3))]) (st := []) 0 rfl (c1_set l D cI cZ cS h c L.length li ye br g2 i 2 ((nI (sg L i 2)) - (nI 3)) (by first | assumption | omega)) rfl (Nat.le_of_ble_eq_true rfl) (Nat.le_of_ble_eq_true rfl) (Nat.le_of_ble_eq_true rfl) dX1_flood_31 [0, 1] (by decide) rfl (ws' := fun u => [(h, .inr (1, [.ref c, .int (nI L.length), .int (nI li), .int ye, .int br])), (c, .inl (cI, 48, .inl (upd g2 (i * 6 + 2) ((nI (sg L i 2)) - (nI 3)))))]) (st' := fun u => []) (fun _ => rfl) (fun _ => rfl) (fun _ => rfl) (fun _ _ => ?_)
          refine x_iinc ok (v := nI (i + 1)) (lv' := [(2, .int (nI (i + 1))), (0, .ref h), (1, .int (nI w))]) dX1_flood_34 0 rfl (nN (nI_inc _ 1) (by omega)) (by decide) rfl ?_
          refine x_goto ok 2 dX1_flood_37 (by decide) ?_
          exact ih_2 (i + 1) (upd g2 (i * 6 + 2) ((nI (sg L i 2)) - (nI 3))) (by omega) (by first | assumption | omega) (by first | (have q := wornI_s hw; rw [fl1, if_pos c_17] at q; exact q) | exact wornI_k hw (by rw [fl1, if_neg c_17]))
  exact L_2 _ 0 f (Nat.lt_succ_self _) (by first | assumption | omega) (wornI_0 hf)
