set_option maxHeartbeats 4000000 in
set_option maxRecDepth 100000 in
theorem i_Songs (l : Launch) (D : va_G) (cI cZ cS : ClassId) (h : Nat)  : CO l D (TY cI cZ cS) yX1_init cX1_init 1 none 1 12 1 48 [.ref h] [(h, .inr (1, [.null, .int (nI 0), .int (nI 0), .int (nI 0), .int (nI 0)]))] (σ := (Nat)) (fun u => none) (fun u => [(h, .inr (1, [.ref u, .int (nI 0), .int (nI 0), .int (nI 0), .int (nI 0)])), (u, .inl (cI, 48, .inl (fun _ => 0)))]) (fun u => True) := by
  refine CO_mkI (by decide +kernel) (Nat.le_of_ble_eq_true rfl) rfl (fun K ok hini ret => ?_)
  show XX K [(h, .inr (1, [.null, .int (nI 0), .int (nI 0), .int (nI 0), .int (nI 0)]))] [(0, .ref h)] 0 []
  refine x_aload_n ok 0 dX1_init_0 rfl rfl ?_
  refine x_objInit ok LX1_3 (Nat.le_of_ble_eq_true rfl) (Nat.le_of_ble_eq_true rfl) dX1_init_1 ?_
  refine x_aload_n ok 0 dX1_init_4 rfl rfl ?_
  refine x_bipush ok (nI 48) dX1_init_5 (by decide) ?_
  refine x_newa ok 0 48 rfl (by decide) rfl KA_int dX1_init_7 (by decide) (Nat.le_of_ble_eq_true rfl) (Nat.le_of_ble_eq_true rfl) (fun o1 => ?_)
  have ok := OKX_al (a := 1) (b := 48) (rc' := 0) (rs' := 0) ok (Nat.le_of_ble_eq_true rfl) (Nat.le_of_ble_eq_true rfl)
  have hini := INI_al (a := 1) (b := 48) hini
  show XX (KX_al K 1 48) [(h, .inr (1, [.null, .int (nI 0), .int (nI 0), .int (nI 0), .int (nI 0)])), (o1, .inl (cI, 48, .inl (fun _ => 0)))] [(0, .ref h)] 9 [.ref o1, .ref h]
  refine pX1_9 ok hini dX1_init_9 0 rfl rfl rfl (Nat.le_of_ble_eq_true rfl) (ws' := [(h, .inr (1, [.ref o1, .int (nI 0), .int (nI 0), .int (nI 0), .int (nI 0)])), (o1, .inl (cI, 48, .inl (fun _ => 0)))]) rfl ?_
  exact ret o1 _ _ _ _ _ dX1_init_12 (Nat.le_of_ble_eq_true rfl) (Nat.le_of_ble_eq_true rfl) (rfl) (trivial)

set_option maxHeartbeats 4000000 in
set_option maxRecDepth 100000 in
theorem i_Text (l : Launch) (D : va_G) (cI cZ cS : ClassId) (h : Nat)  : CO l D (TY cI cZ cS) yX2_init cX2_init 1 none 1 12 1 56 [.ref h] [(h, .inr (2, [.null, .int (nI 0)]))] (σ := (Nat)) (fun u => none) (fun u => [(h, .inr (2, [.ref u, .int (nI 0)])), (u, .inl (cI, 56, .inl (fun _ => 0)))]) (fun u => True) := by
  refine CO_mkI (by decide +kernel) (Nat.le_of_ble_eq_true rfl) rfl (fun K ok hini ret => ?_)
  show XX K [(h, .inr (2, [.null, .int (nI 0)]))] [(0, .ref h)] 0 []
  refine x_aload_n ok 0 dX2_init_0 rfl rfl ?_
  refine x_objInit ok LX2_3 (Nat.le_of_ble_eq_true rfl) (Nat.le_of_ble_eq_true rfl) dX2_init_1 ?_
  refine x_aload_n ok 0 dX2_init_4 rfl rfl ?_
  refine x_bipush ok (nI 56) dX2_init_5 (by decide) ?_
  refine x_newa ok 0 56 rfl (by decide) rfl KA_int dX2_init_7 (by decide) (Nat.le_of_ble_eq_true rfl) (Nat.le_of_ble_eq_true rfl) (fun o1 => ?_)
  have ok := OKX_al (a := 1) (b := 56) (rc' := 0) (rs' := 0) ok (Nat.le_of_ble_eq_true rfl) (Nat.le_of_ble_eq_true rfl)
  have hini := INI_al (a := 1) (b := 56) hini
  show XX (KX_al K 1 56) [(h, .inr (2, [.null, .int (nI 0)])), (o1, .inl (cI, 56, .inl (fun _ => 0)))] [(0, .ref h)] 9 [.ref o1, .ref h]
  refine pX2_9 ok hini dX2_init_9 0 rfl rfl rfl (Nat.le_of_ble_eq_true rfl) (ws' := [(h, .inr (2, [.ref o1, .int (nI 0)])), (o1, .inl (cI, 56, .inl (fun _ => 0)))]) rfl ?_
  exact ret o1 _ _ _ _ _ dX2_init_12 (Nat.le_of_ble_eq_true rfl) (Nat.le_of_ble_eq_true rfl) (rfl) (trivial)

set_option maxHeartbeats 4000000 in
set_option maxRecDepth 100000 in
theorem i_Wells (l : Launch) (D : va_G) (cI cZ cS : ClassId) (h : Nat)  : CO l D (TY cI cZ cS) yX3_init cX3_init 1 none 1 12 2 8 [.ref h] [(h, .inr (3, [.null, .null, .int (nI 0)]))] (σ := (Nat) × (Nat)) (fun u => none) (fun u => [(h, .inr (3, [.ref u.1, .ref u.2, .int (nI 0)])), (u.1, .inl (cI, 4, .inl (fun _ => 0))), (u.2, .inl (cI, 4, .inl (fun _ => 0)))]) (fun u => True) := by
  refine CO_mkI (by decide +kernel) (Nat.le_of_ble_eq_true rfl) rfl (fun K ok hini ret => ?_)
  show XX K [(h, .inr (3, [.null, .null, .int (nI 0)]))] [(0, .ref h)] 0 []
  refine x_aload_n ok 0 dX3_init_0 rfl rfl ?_
  refine x_objInit ok LX3_3 (Nat.le_of_ble_eq_true rfl) (Nat.le_of_ble_eq_true rfl) dX3_init_1 ?_
  refine x_aload_n ok 0 dX3_init_4 rfl rfl ?_
  refine x_iconst ok (nI 4) dX3_init_5 (by decide) ?_
  refine x_newa ok 0 4 rfl (by decide) rfl KA_int dX3_init_6 (by decide) (Nat.le_of_ble_eq_true rfl) (Nat.le_of_ble_eq_true rfl) (fun o1 => ?_)
  have ok := OKX_al (a := 1) (b := 4) (rc' := 1) (rs' := 4) ok (Nat.le_of_ble_eq_true rfl) (Nat.le_of_ble_eq_true rfl)
  have hini := INI_al (a := 1) (b := 4) hini
  show XX (KX_al K 1 4) [(h, .inr (3, [.null, .null, .int (nI 0)])), (o1, .inl (cI, 4, .inl (fun _ => 0)))] [(0, .ref h)] 8 [.ref o1, .ref h]
  refine pX3_9 ok hini dX3_init_8 0 rfl rfl rfl (Nat.le_of_ble_eq_true rfl) (ws' := [(h, .inr (3, [.ref o1, .null, .int (nI 0)])), (o1, .inl (cI, 4, .inl (fun _ => 0)))]) rfl ?_
  refine x_aload_n ok 0 dX3_init_11 rfl rfl ?_
  refine x_iconst ok (nI 4) dX3_init_12 (by decide) ?_
  refine x_newa ok 0 4 rfl (by decide) rfl KA_int dX3_init_13 (by decide) (Nat.le_of_ble_eq_true rfl) (Nat.le_of_ble_eq_true rfl) (fun o2 => ?_)
  have ok := OKX_al (a := 1) (b := 4) (rc' := 0) (rs' := 0) ok (Nat.le_of_ble_eq_true rfl) (Nat.le_of_ble_eq_true rfl)
  have hini := INI_al (a := 1) (b := 4) hini
  show XX (KX_al (KX_al K 1 4) 1 4) [(h, .inr (3, [.ref o1, .null, .int (nI 0)])), (o1, .inl (cI, 4, .inl (fun _ => 0))), (o2, .inl (cI, 4, .inl (fun _ => 0)))] [(0, .ref h)] 15 [.ref o2, .ref h]
  refine pX3_15 ok hini dX3_init_15 0 rfl rfl rfl (Nat.le_of_ble_eq_true rfl) (ws' := [(h, .inr (3, [.ref o1, .ref o2, .int (nI 0)])), (o1, .inl (cI, 4, .inl (fun _ => 0))), (o2, .inl (cI, 4, .inl (fun _ => 0)))]) rfl ?_
  rw [KX_al_al]
  exact ret (o1, o2) _ _ _ _ _ dX3_init_18 (Nat.le_of_ble_eq_true rfl) (Nat.le_of_ble_eq_true rfl) (rfl) (trivial)
