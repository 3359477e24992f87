set_option maxRecDepth 100000 in
theorem pl_0_1_n4_hC {cI : ClassId} {ra ca nn pl : Nat → Nat} {yy bb : Nat → Int32} {ff : Nat → Nat → Int32} {x0 x1 x2 x3 : Nat × va_E} : [0, 1, 4, 5, 6, 7, 8, 9, 10, 11, 12, 13, 14, 15, 16, 17, 18, 19, 20, 21, 22, 23, 24, 25, 26, 27].map (fun i => ([x0, x1, x2, x3] ++ poolW cI ra ca nn pl yy bb ff)[i]?) = ([x0, x1] ++ poolW cI ra ca nn pl yy bb ff).map some := by
  simp only [poolW, List.map_cons, List.map_nil, List.cons_append, List.nil_append]
  rfl
theorem pl_0_1_n4_ha {cI : ClassId} {ra ca nn pl : Nat → Nat} {yy bb : Nat → Int32} {ff : Nat → Nat → Int32} {n2 p2 : Nat → Nat} {y2 b2 : Nat → Int32} {f2 : Nat → Nat → Int32} {x0 x1 e0 e1 : Nat × va_E} (h : [e0, e1].map (·.1) = [x0, x1].map (·.1)) : ([e0, e1] ++ poolW cI ra ca n2 p2 y2 b2 f2).map (·.1) = ([x0, x1] ++ poolW cI ra ca nn pl yy bb ff).map (·.1) := by
  rw [List.map_append, List.map_append, h]
  rfl
set_option maxRecDepth 100000 in
theorem pl_0_1_n4_hw {cI : ClassId} {ra ca nn pl : Nat → Nat} {yy bb : Nat → Int32} {ff : Nat → Nat → Int32} {n2 p2 : Nat → Nat} {y2 b2 : Nat → Int32} {f2 : Nat → Nat → Int32} {x0 x1 x2 x3 e0 e1 : Nat × va_E} : setL ([x0, x1, x2, x3] ++ poolW cI ra ca nn pl yy bb ff) [0, 1, 4, 5, 6, 7, 8, 9, 10, 11, 12, 13, 14, 15, 16, 17, 18, 19, 20, 21, 22, 23, 24, 25, 26, 27] ([e0, e1] ++ poolW cI ra ca n2 p2 y2 b2 f2) = [e0, e1, x2, x3] ++ poolW cI ra ca n2 p2 y2 b2 f2 := by
  simp only [poolW, List.cons_append, List.nil_append, setL, List.set_cons_zero, List.set_cons_succ]
set_option maxHeartbeats 4000000 in
set_option maxRecDepth 100000 in
theorem c0_forgetFirst (l : Launch) (D : va_G) (cI cZ cS : ClassId) (aa : Nat) (rw : Nat) (ra : Nat → Nat) (ca : Nat → Nat) (nn : Nat → Nat) (pl : Nat → Nat) (yy : Nat → Int32) (bb : Nat → Int32) (ff : Nat → Nat → Int32) (pm : Nat → Nat) (rf : Nat → Option Nat) (c : Nat) (hr : rowR rf ra pm) (hp : ∀ k, k < 12 → pm k < 12) : CO l D (TY cI cZ cS) yX0_forgetFirst cX0_forgetFirst 3 none 0 0 0 0 [.ref aa] ([(aa, .inr (0, [.ref rw, .int (nI c)])), (rw, .inl (cS, 12, .inr (.inr (.inr (.inr rf)))))] ++ poolW cI ra ca nn pl yy bb ff) (σ := (Nat → Option Nat)) (fun u => none) (fun u => ([(aa, .inr (0, [.ref rw, .int (nI 11)])), (rw, .inl (cS, 12, .inr (.inr (.inr (.inr u)))))] ++ poolW cI ra ca nn pl yy bb ff)) (fun u => (rowR u ra (rotP pm))) := by
  refine CO_mkv (by decide +kernel) (Nat.le_of_ble_eq_true rfl) (fun K ok ret => ?_)
  show XX K ([(aa, .inr (0, [.ref rw, .int (nI c)])), (rw, .inl (cS, 12, .inr (.inr (.inr (.inr rf)))))] ++ poolW cI ra ca nn pl yy bb ff) [(0, .ref aa)] 0 []
  refine x_aload_n ok 0 dX0_forgetFirst_0 rfl rfl ?_
  refine gX0_11 ok dX0_forgetFirst_1 0 rfl rfl ?_
  refine x_alen ok 1 2 (nI 12) dX0_forgetFirst_4 rfl rfl rfl ?_
  refine x_if_neN ok 9 dX0_forgetFirst_5 (by decide) (by omega) (fun c_5 => ?_) (fun c_5 => absurd c_5 (by decide))
  refine x_aload_n ok 0 dX0_forgetFirst_9 rfl rfl ?_
  refine gX0_11 ok dX0_forgetFirst_10 0 rfl rfl ?_
  refine x_iconst ok (nI 0) dX0_forgetFirst_13 (by decide) ?_
  refine x_aald ok 1 2 0 dX0_forgetFirst_14 rfl rfl rfl (by omega) (by decide) (ra (pm 0)) (hr 0 (by omega)) ?_
  refine x_astore_n ok (lv' := [(1, .ref (ra (pm 0))), (0, .ref aa)]) dX0_forgetFirst_15 rfl (by decide) rfl ?_
  refine x_iconst ok (nI 1) dX0_forgetFirst_16 (by decide) ?_
  refine x_istore_n ok (lv' := [(2, .int (nI 1)), (1, .ref (ra (pm 0))), (0, .ref aa)]) dX0_forgetFirst_17 rfl (by decide) rfl ?_
  have L_18 : ∀ (n_18 : Nat) (i : Nat) (g : Nat → Option Nat), 12 - i < n_18 → (1 ≤ i) → (i ≤ 12) → (∀ k, k + 1 < i → g k = rf (k + 1)) → (∀ k, i ≤ k + 1 → g k = rf k) → XX K ([(aa, .inr (0, [.ref rw, .int (nI c)])), (rw, .inl (cS, 12, .inr (.inr (.inr (.inr g)))))] ++ poolW cI ra ca nn pl yy bb ff) [(2, .int (nI i)), (1, .ref (ra (pm 0))), (0, .ref aa)] 18 [] := by
    intro n_18
    induction n_18 with
    | zero => intro i g hm; exact absurd hm (Nat.not_lt_zero _)
    | succ n_18 ih_18 =>
      intro i g hm_18 hi1 hi hlo hhi
      refine x_iload_n ok 0 dX0_forgetFirst_18 rfl rfl ?_
      refine x_aload_n ok 2 dX0_forgetFirst_19 rfl rfl ?_
      refine gX0_11 ok dX0_forgetFirst_20 0 rfl rfl ?_
      refine x_alen ok 1 2 (nI 12) dX0_forgetFirst_23 rfl rfl rfl ?_
      refine x_icmp_geN ok 47 dX0_forgetFirst_24 (by decide) (by omega) (by omega) (fun c_24 => ?_) (fun c_24 => ?_)
      · skip
        refine x_aload_n ok 2 dX0_forgetFirst_47 rfl rfl ?_
        refine gX0_11 ok dX0_forgetFirst_48 0 rfl rfl ?_
        refine x_aload_n ok 2 dX0_forgetFirst_51 rfl rfl ?_
        refine gX0_11 ok dX0_forgetFirst_52 0 rfl rfl ?_
        refine x_alen ok 1 2 (nI 12) dX0_forgetFirst_55 rfl rfl rfl ?_
        refine x_iconst ok (nI 1) dX0_forgetFirst_56 (by decide) ?_
        refine x_isub ok (nI 11) dX0_forgetFirst_57 (pk_sub (by omega)) ?_
        refine x_aload_n ok 1 dX0_forgetFirst_58 rfl rfl ?_
        refine x_aast ok 1 2 (2 + 2 * pm 0) 1 11 (ws' := ([(aa, .inr (0, [.ref rw, .int (nI c)])), (rw, .inl (cS, 12, .inr (.inr (.inr (.inr (va_up g 11 (some (ra (pm 0)))))))))] ++ poolW cI ra ca nn pl yy bb ff)) dX0_forgetFirst_59 rfl rfl (pool_at2 (hp 0 (by omega))) rfl rfl (by omega) (by decide) (rfl) rfl ?_
        refine x_aload_n ok 2 dX0_forgetFirst_60 rfl rfl ?_
        refine x_aload_n ok 2 dX0_forgetFirst_61 rfl rfl ?_
        refine gX0_11 ok dX0_forgetFirst_62 0 rfl rfl ?_
        refine x_alen ok 1 2 (nI 12) dX0_forgetFirst_65 rfl rfl rfl ?_
        refine x_iconst ok (nI 1) dX0_forgetFirst_66 (by decide) ?_
        refine x_isub ok (nI 11) dX0_forgetFirst_67 (pk_sub (by omega)) ?_
        refine pX0_18 ok dX0_forgetFirst_68 0 rfl rfl rfl (Nat.le_of_ble_eq_true rfl) (ws' := ([(aa, .inr (0, [.ref rw, .int (nI 11)])), (rw, .inl (cS, 12, .inr (.inr (.inr (.inr (va_up g 11 (some (ra (pm 0)))))))))] ++ poolW cI ra ca nn pl yy bb ff)) rfl ?_
        exact ret (va_up g 11 (some (ra (pm 0)))) _ _ _ dX0_forgetFirst_71 (rfl) (rowR_rot hr (fun k hk => hlo k (by omega)))
      · skip
        refine x_aload_n ok 2 dX0_forgetFirst_27 rfl rfl ?_
        refine gX0_11 ok dX0_forgetFirst_28 0 rfl rfl ?_
        refine x_iload_n ok 0 dX0_forgetFirst_31 rfl rfl ?_
        refine x_iconst ok (nI 1) dX0_forgetFirst_32 (by decide) ?_
        refine x_isub ok (nI (i - 1)) dX0_forgetFirst_33 (pk_sub (by omega)) ?_
        refine x_aload_n ok 2 dX0_forgetFirst_34 rfl rfl ?_
        refine gX0_11 ok dX0_forgetFirst_35 0 rfl rfl ?_
        refine x_iload_n ok 0 dX0_forgetFirst_38 rfl rfl ?_
        refine x_aald ok 1 2 i dX0_forgetFirst_39 rfl rfl rfl (by omega) (by decide) (ra (pm i)) ((hhi i (by omega)).trans (hr i (by omega))) ?_
        refine x_aast ok 1 2 (2 + 2 * pm i) 1 (i - 1) (ws' := ([(aa, .inr (0, [.ref rw, .int (nI c)])), (rw, .inl (cS, 12, .inr (.inr (.inr (.inr (va_up g (i - 1) (some (ra (pm i)))))))))] ++ poolW cI ra ca nn pl yy bb ff)) dX0_forgetFirst_40 rfl rfl (pool_at2 (hp i (by omega))) rfl rfl (by omega) (by decide) (rfl) rfl ?_
        refine x_iinc ok (v := nI (i + 1)) (lv' := [(2, .int (nI (i + 1))), (1, .ref (ra (pm 0))), (0, .ref aa)]) dX0_forgetFirst_41 0 rfl (nN (nI_inc _ 1) (by omega)) (by decide) rfl ?_
        refine x_goto ok 18 dX0_forgetFirst_44 (by decide) ?_
        exact ih_18 (i + 1) (va_up g (i - 1) (some (ra (pm i)))) (by omega) (by first | assumption | omega) (by first | assumption | omega) (fun k hk => by by_cases e : k = i - 1; (subst e; simp only [va_up, if_true]; rw [show i - 1 + 1 = i by omega, hr i (by omega)]); (simp only [va_up, if_neg e]; exact hlo k (by omega))) (fun k hk => by simp only [va_up, if_neg (show ¬ k = i - 1 by omega)]; exact hhi k (by omega))
  exact L_18 _ 1 rf (Nat.lt_succ_self _) (by first | assumption | omega) (by first | assumption | omega) (fun k hk => by omega) (fun _ _ => rfl)

set_option maxHeartbeats 4000000 in
set_option maxRecDepth 100000 in
theorem c0_remember (l : Launch) (D : va_G) (cI cZ cS : ClassId) (aa : Nat) (rw : Nat) (ra : Nat → Nat) (ca : Nat → Nat) (nn : Nat → Nat) (pl : Nat → Nat) (yy : Nat → Int32) (bb : Nat → Int32) (ff : Nat → Nat → Int32) (pm : Nat → Nat) (rf : Nat → Option Nat) (h : Nat) (c : Nat) (L : List Sg) (li : Nat) (ye : Int32) (br : Int32) (f : Nat → Int32) (As : List SS) (hr : rowR rf ra pm) (hact : actR As pm nn pl yy bb ff) (hf : hs f L) (h8 : L.length ≤ 8) : CO l D (TY cI cZ cS) yX0_remember cX0_remember 3 none 2 37 0 0 [.ref aa, .ref h] ([(aa, .inr (0, [.ref rw, .int (nI As.length)])), (rw, .inl (cS, 12, .inr (.inr (.inr (.inr rf))))), (h, .inr (1, [.ref c, .int (nI L.length), .int (nI li), .int ye, .int br])), (c, .inl (cI, 48, .inl f))] ++ poolW cI ra ca nn pl yy bb ff) (σ := (Nat → Option Nat) × (Nat → Nat) × (Nat → Nat) × (Nat → Nat) × (Nat → Int32) × (Nat → Int32) × (Nat → Nat → Int32)) (fun u => none) (fun u => ([(aa, .inr (0, [.ref rw, .int (nI ((remL As (L, li, ye, br)).length))])), (rw, .inl (cS, 12, .inr (.inr (.inr (.inr u.1))))), (h, .inr (1, [.ref c, .int (nI L.length), .int (nI li), .int ye, .int br])), (c, .inl (cI, 48, .inl f))] ++ poolW cI ra ca u.2.2.1 u.2.2.2.1 u.2.2.2.2.1 u.2.2.2.2.2.1 u.2.2.2.2.2.2)) (fun u => (rowR u.1 ra u.2.1) ∧ (actR (remL As (L, li, ye, br)) u.2.1 u.2.2.1 u.2.2.2.1 u.2.2.2.2.1 u.2.2.2.2.2.1 u.2.2.2.2.2.2)) := by
  refine CO_mkv (by decide +kernel) (Nat.le_of_ble_eq_true rfl) (fun K ok ret => ?_)
  show XX K ([(aa, .inr (0, [.ref rw, .int (nI As.length)])), (rw, .inl (cS, 12, .inr (.inr (.inr (.inr rf))))), (h, .inr (1, [.ref c, .int (nI L.length), .int (nI li), .int ye, .int br])), (c, .inl (cI, 48, .inl f))] ++ poolW cI ra ca nn pl yy bb ff) [(0, .ref aa), (1, .ref h)] 0 []
  have hl12 := hact.1
  refine x_aload_n ok 0 dX0_remember_0 rfl rfl ?_
  refine gX0_18 ok dX0_remember_1 0 rfl rfl ?_
  refine x_aload_n ok 0 dX0_remember_4 rfl rfl ?_
  refine gX0_11 ok dX0_remember_5 0 rfl rfl ?_
  refine x_alen ok 1 2 (nI 12) dX0_remember_8 rfl rfl rfl ?_
  refine x_icmp_ltN ok 16 dX0_remember_9 (by decide) (by omega) (by omega) (fun c_9 => ?_) (fun c_9 => ?_)
  · skip
    have ed : dropF As = As := by rw [dropF, if_neg (by omega)]
    refine x_aload_n ok 0 dX0_remember_16 rfl rfl ?_
    refine gX0_18 ok dX0_remember_17 0 rfl rfl ?_
    refine x_if_ltN ok dX0_remember_20 (by omega) (by decide) ?_
    refine x_aload_n ok 0 dX0_remember_23 rfl rfl ?_
    refine gX0_18 ok dX0_remember_24 0 rfl rfl ?_
    refine x_aload_n ok 0 dX0_remember_27 rfl rfl ?_
    refine gX0_11 ok dX0_remember_28 0 rfl rfl ?_
    refine x_alen ok 1 2 (nI 12) dX0_remember_31 rfl rfl rfl ?_
    refine x_icmp_geN ok 64 dX0_remember_32 (by decide) (by omega) (by omega) (fun c_32 => absurd c_32 (by omega)) (fun c_32 => ?_)
    refine x_aload_n ok 0 dX0_remember_35 rfl rfl ?_
    refine gX0_11 ok dX0_remember_36 0 rfl rfl ?_
    refine x_aload_n ok 0 dX0_remember_39 rfl rfl ?_
    refine gX0_18 ok dX0_remember_40 0 rfl rfl ?_
    refine x_aald ok 1 2 As.length dX0_remember_43 rfl rfl rfl (by omega) (by decide) (ra (pm As.length)) (hr _ (by omega)) ?_
    refine x_astore_n ok (lv' := [(2, .ref (ra (pm As.length))), (0, .ref aa), (1, .ref h)]) dX0_remember_44 rfl (by decide) rfl ?_
    refine x_aload_n ok 0 dX0_remember_45 rfl rfl ?_
    refine x_ifnull ok dX0_remember_46 ?_
    refine x_aload_n ok 0 dX0_remember_49 rfl rfl ?_
    refine x_aload_n ok 2 dX0_remember_50 rfl rfl ?_
    have hP : (pm As.length) < 12 := hact.2.1 _ (by omega)
    refine qX0_25 ok (As := [.ref h]) (st := []) (4 + 2 * (pm As.length)) (pool_at4 hP).1 (c1_take l D cI cZ cS (ra (pm As.length)) (ca (pm As.length)) (nn (pm As.length)) (pl (pm As.length)) (yy (pm As.length)) (bb (pm As.length)) (ff (pm As.length)) h c L li ye br f hf h8) rfl (Nat.le_of_ble_eq_true rfl) (Nat.le_of_ble_eq_true rfl) (Nat.le_of_ble_eq_true rfl) dX0_remember_51 [4 + 2 * (pm As.length), 5 + 2 * (pm As.length), 2, 3] (nd4a _) (pool_hCa hP) (ws' := fun u => [(aa, .inr (0, [.ref rw, .int (nI As.length)])), (rw, .inl (cS, 12, .inr (.inr (.inr (.inr rf))))), (h, .inr (1, [.ref c, .int (nI L.length), .int (nI li), .int ye, .int br])), (c, .inl (cI, 48, .inl f))] ++ poolW cI ra ca (va_up nn (pm As.length) L.length) (va_up pl (pm As.length) li) (va_up yy (pm As.length) ye) (va_up bb (pm As.length) br) (va_up ff (pm As.length) u)) (st' := fun u => []) (fun _ => rfl) (fun u => pool_set hP L.length li ye br u) (fun _ => rfl) (fun g51 hg51 => ?_)
    refine x_aload_n ok 1 dX0_remember_54 rfl rfl ?_
    refine x_dup ok dX0_remember_55 rfl ?_
    refine gX0_18 ok dX0_remember_56 0 rfl rfl ?_
    refine x_iconst ok (nI 1) dX0_remember_59 (by decide) ?_
    refine x_iadd ok (nI (As.length + 1)) dX0_remember_60 (nN (nI_add _ _) (by omega)) ?_
    refine x_eq (st' := [.int (nI ((remL As (L, li, ye, br)).length)), .ref aa]) rfl rfl (by simp [remL, ed]) ?_
    refine pX0_18 ok dX0_remember_61 0 rfl rfl rfl (Nat.le_of_ble_eq_true rfl) (ws' := ([(aa, .inr (0, [.ref rw, .int (nI ((remL As (L, li, ye, br)).length))])), (rw, .inl (cS, 12, .inr (.inr (.inr (.inr rf))))), (h, .inr (1, [.ref c, .int (nI L.length), .int (nI li), .int ye, .int br])), (c, .inl (cI, 48, .inl f))] ++ poolW cI ra ca (va_up nn (pm As.length) L.length) (va_up pl (pm As.length) li) (va_up yy (pm As.length) ye) (va_up bb (pm As.length) br) (va_up ff (pm As.length) g51))) rfl ?_
    exact ret (rf, pm, va_up nn (pm As.length) L.length, va_up pl (pm As.length) li, va_up yy (pm As.length) ye, va_up bb (pm As.length) br, va_up ff (pm As.length) g51) _ _ _ dX0_remember_64 (rfl) (⟨hr, by rw [remL, ed]; exact actR_push (s := (L, li, ye, br)) hact (by omega) hg51⟩)
  · skip
    have e12 : As.length = 12 := by omega
    have ed : (dropF As).length = 11 := by rw [dropF, if_pos e12]; simp; omega
    have hrot := actR_rot hact e12
    refine x_aload_n ok 0 dX0_remember_12 rfl rfl ?_
    refine qX0_22 ok (As := []) (st := []) 0 rfl (c0_forgetFirst l D cI cZ cS aa rw ra ca nn pl yy bb ff pm rf As.length (by first | assumption | omega) (hact.2.1)) rfl (Nat.le_of_ble_eq_true rfl) (Nat.le_of_ble_eq_true rfl) (Nat.le_of_ble_eq_true rfl) dX0_remember_13 [0, 1, 4, 5, 6, 7, 8, 9, 10, 11, 12, 13, 14, 15, 16, 17, 18, 19, 20, 21, 22, 23, 24, 25, 26, 27] (by decide) pl_0_1_n4_hC (ws' := fun u => ([(aa, .inr (0, [.ref rw, .int (nI 11)])), (rw, .inl (cS, 12, .inr (.inr (.inr (.inr u))))), (h, .inr (1, [.ref c, .int (nI L.length), .int (nI li), .int ye, .int br])), (c, .inl (cI, 48, .inl f))] ++ poolW cI ra ca nn pl yy bb ff)) (st' := fun u => []) (fun _ => pl_0_1_n4_ha (by rfl)) (fun _ => pl_0_1_n4_hw) (fun _ => rfl) (fun u13 hu13 => ?_)
    obtain ⟨g13, rfl⟩ : ∃ z, z = u13 := ⟨_, rfl⟩
    have hg13 := hu13
    have hg13 : rowR g13 ra (rotP pm) := hg13
    show XX K ([(aa, .inr (0, [.ref rw, .int (nI 11)])), (rw, .inl (cS, 12, .inr (.inr (.inr (.inr g13))))), (h, .inr (1, [.ref c, .int (nI L.length), .int (nI li), .int ye, .int br])), (c, .inl (cI, 48, .inl f))] ++ poolW cI ra ca nn pl yy bb ff) [(0, .ref aa), (1, .ref h)] 16 []
    refine x_aload_n ok 0 dX0_remember_16 rfl rfl ?_
    refine gX0_18 ok dX0_remember_17 0 rfl rfl ?_
    refine x_if_ltN ok dX0_remember_20 (by omega) (by decide) ?_
    refine x_aload_n ok 0 dX0_remember_23 rfl rfl ?_
    refine gX0_18 ok dX0_remember_24 0 rfl rfl ?_
    refine x_aload_n ok 0 dX0_remember_27 rfl rfl ?_
    refine gX0_11 ok dX0_remember_28 0 rfl rfl ?_
    refine x_alen ok 1 2 (nI 12) dX0_remember_31 rfl rfl rfl ?_
    refine x_icmp_geN ok 64 dX0_remember_32 (by decide) (by omega) (by omega) (fun c_32 => absurd c_32 (by omega)) (fun c_32 => ?_)
    refine x_aload_n ok 0 dX0_remember_35 rfl rfl ?_
    refine gX0_11 ok dX0_remember_36 0 rfl rfl ?_
    refine x_aload_n ok 0 dX0_remember_39 rfl rfl ?_
    refine gX0_18 ok dX0_remember_40 0 rfl rfl ?_
    refine x_aald ok 1 2 11 dX0_remember_43 rfl rfl rfl (by omega) (by decide) (ra (rotP pm 11)) (hg13 11 (by omega)) ?_
    refine x_astore_n ok (lv' := [(2, .ref (ra (rotP pm 11))), (0, .ref aa), (1, .ref h)]) dX0_remember_44 rfl (by decide) rfl ?_
    refine x_aload_n ok 0 dX0_remember_45 rfl rfl ?_
    refine x_ifnull ok dX0_remember_46 ?_
    refine x_aload_n ok 0 dX0_remember_49 rfl rfl ?_
    refine x_aload_n ok 2 dX0_remember_50 rfl rfl ?_
    have hP : (rotP pm 11) < 12 := hrot.2.1 _ (by omega)
    refine qX0_25 ok (As := [.ref h]) (st := []) (4 + 2 * (rotP pm 11)) (pool_at4 hP).1 (c1_take l D cI cZ cS (ra (rotP pm 11)) (ca (rotP pm 11)) (nn (rotP pm 11)) (pl (rotP pm 11)) (yy (rotP pm 11)) (bb (rotP pm 11)) (ff (rotP pm 11)) h c L li ye br f hf h8) rfl (Nat.le_of_ble_eq_true rfl) (Nat.le_of_ble_eq_true rfl) (Nat.le_of_ble_eq_true rfl) dX0_remember_51 [4 + 2 * (rotP pm 11), 5 + 2 * (rotP pm 11), 2, 3] (nd4a _) (pool_hCa hP) (ws' := fun u => [(aa, .inr (0, [.ref rw, .int (nI 11)])), (rw, .inl (cS, 12, .inr (.inr (.inr (.inr g13))))), (h, .inr (1, [.ref c, .int (nI L.length), .int (nI li), .int ye, .int br])), (c, .inl (cI, 48, .inl f))] ++ poolW cI ra ca (va_up nn (rotP pm 11) L.length) (va_up pl (rotP pm 11) li) (va_up yy (rotP pm 11) ye) (va_up bb (rotP pm 11) br) (va_up ff (rotP pm 11) u)) (st' := fun u => []) (fun _ => rfl) (fun u => pool_set hP L.length li ye br u) (fun _ => rfl) (fun g51 hg51 => ?_)
    refine x_aload_n ok 1 dX0_remember_54 rfl rfl ?_
    refine x_dup ok dX0_remember_55 rfl ?_
    refine gX0_18 ok dX0_remember_56 0 rfl rfl ?_
    refine x_iconst ok (nI 1) dX0_remember_59 (by decide) ?_
    refine x_iadd ok (nI 12) dX0_remember_60 (nN (nI_add _ _) (by omega)) ?_
    refine x_eq (st' := [.int (nI ((remL As (L, li, ye, br)).length)), .ref aa]) rfl rfl (by simp [remL, ed]) ?_
    refine pX0_18 ok dX0_remember_61 0 rfl rfl rfl (Nat.le_of_ble_eq_true rfl) (ws' := ([(aa, .inr (0, [.ref rw, .int (nI ((remL As (L, li, ye, br)).length))])), (rw, .inl (cS, 12, .inr (.inr (.inr (.inr g13))))), (h, .inr (1, [.ref c, .int (nI L.length), .int (nI li), .int ye, .int br])), (c, .inl (cI, 48, .inl f))] ++ poolW cI ra ca (va_up nn (rotP pm 11) L.length) (va_up pl (rotP pm 11) li) (va_up yy (rotP pm 11) ye) (va_up bb (rotP pm 11) br) (va_up ff (rotP pm 11) g51))) rfl ?_
    exact ret (g13, rotP pm, va_up nn (rotP pm 11) L.length, va_up pl (rotP pm 11) li, va_up yy (rotP pm 11) ye, va_up bb (rotP pm 11) br, va_up ff (rotP pm 11) g51) _ _ _ dX0_remember_64 (rfl) (⟨hg13, by have q := actR_push (s := (L, li, ye, br)) hrot (by omega) hg51; rw [ed] at q; exact q⟩)

set_option maxHeartbeats 4000000 in
set_option maxRecDepth 100000 in
theorem c0_takeBack0 (l : Launch) (D : va_G) (cI cZ cS : ClassId) (aa : Nat) (rw : Nat) (h : Nat)  : CO l D (TY cI cZ cS) yX0_takeBack cX0_takeBack 4 (some .boolean) 0 0 0 0 [.ref aa, .ref h] [(aa, .inr (0, [.ref rw, .int (nI 0)]))] (σ := Unit) (fun u => some (.int (bz (false)))) (fun u => [(aa, .inr (0, [.ref rw, .int (nI 0)]))]) (fun u => True) := by
  refine CO_mkz (by decide +kernel) (Nat.le_of_ble_eq_true rfl) (fun K ok ret => ?_)
  show XX K [(aa, .inr (0, [.ref rw, .int (nI 0)]))] [(0, .ref aa), (1, .ref h)] 0 []
  refine x_aload_n ok 0 dX0_takeBack_0 rfl rfl ?_
  refine gX0_18 ok dX0_takeBack_1 0 rfl rfl ?_
  refine x_iconst ok (nI 1) dX0_takeBack_4 (by decide) ?_
  refine x_isub ok ((-1)) dX0_takeBack_5 (by decide) ?_
  refine x_istore_n ok (lv' := [(2, .int (-1)), (0, .ref aa), (1, .ref h)]) dX0_takeBack_6 rfl (by decide) rfl ?_
  refine x_iload_n ok 0 dX0_takeBack_7 rfl rfl ?_
  refine x_if_lt ok 20 dX0_takeBack_8 (by decide) (fun c_8 => ?_) (fun c_8 => absurd c_8 (by decide))
  refine x_iconst ok (nI 0) dX0_takeBack_20 (by decide) ?_
  exact ret () _ _ _ (false) dX0_takeBack_21 (rfl) (rfl) (trivial)

set_option maxHeartbeats 4000000 in
set_option maxRecDepth 100000 in
theorem c0_takeBack1 (l : Launch) (D : va_G) (cI cZ cS : ClassId) (aa : Nat) (rw : Nat) (ra : Nat → Nat) (ca : Nat → Nat) (nn : Nat → Nat) (pl : Nat → Nat) (yy : Nat → Int32) (bb : Nat → Int32) (ff : Nat → Nat → Int32) (pm : Nat → Nat) (rf : Nat → Option Nat) (h : Nat) (c : Nat) (n0 : Nat) (li0 : Nat) (ye0 : Int32) (br0 : Int32) (f0 : Nat → Int32) (As : List SS) (hr : rowR rf ra pm) (hact : actR As pm nn pl yy bb ff) (h0 : 0 < As.length) (hlen : ∀ k, k < As.length → (gSS As k).1.length ≤ 8) : CO l D (TY cI cZ cS) yX0_takeBack cX0_takeBack 4 (some .boolean) 2 37 0 0 [.ref aa, .ref h] ([(aa, .inr (0, [.ref rw, .int (nI As.length)])), (rw, .inl (cS, 12, .inr (.inr (.inr (.inr rf))))), (h, .inr (1, [.ref c, .int (nI n0), .int (nI li0), .int ye0, .int br0])), (c, .inl (cI, 48, .inl f0))] ++ poolW cI ra ca nn pl yy bb ff) (σ := (Nat → Int32)) (fun u => some (.int (bz (true)))) (fun u => ([(aa, .inr (0, [.ref rw, .int (nI (As.length - 1))])), (rw, .inl (cS, 12, .inr (.inr (.inr (.inr rf))))), (h, .inr (1, [.ref c, .int (nI ((gSS As (As.length - 1)).1.length)), .int (nI ((gSS As (As.length - 1)).2.1)), .int ((gSS As (As.length - 1)).2.2.1), .int ((gSS As (As.length - 1)).2.2.2)])), (c, .inl (cI, 48, .inl u))] ++ poolW cI ra ca nn pl yy bb ff)) (fun u => (hs u (gSS As (As.length - 1)).1)) := by
  refine CO_mkz (by decide +kernel) (Nat.le_of_ble_eq_true rfl) (fun K ok ret => ?_)
  show XX K ([(aa, .inr (0, [.ref rw, .int (nI As.length)])), (rw, .inl (cS, 12, .inr (.inr (.inr (.inr rf))))), (h, .inr (1, [.ref c, .int (nI n0), .int (nI li0), .int ye0, .int br0])), (c, .inl (cI, 48, .inl f0))] ++ poolW cI ra ca nn pl yy bb ff) [(0, .ref aa), (1, .ref h)] 0 []
  have hl12 := hact.1
  refine x_aload_n ok 0 dX0_takeBack_0 rfl rfl ?_
  refine gX0_18 ok dX0_takeBack_1 0 rfl rfl ?_
  refine x_iconst ok (nI 1) dX0_takeBack_4 (by decide) ?_
  refine x_isub ok (((nI As.length) - (nI 1))) dX0_takeBack_5 (rfl) ?_
  refine x_istore_n ok (lv' := [(2, .int ((nI As.length) - (nI 1))), (0, .ref aa), (1, .ref h)]) dX0_takeBack_6 rfl (by decide) rfl ?_
  refine x_iload_n ok 0 dX0_takeBack_7 rfl rfl ?_
  refine x_if_lt ok 20 dX0_takeBack_8 (by decide) (fun c_8 => absurd c_8 (by rw [show nI As.length - nI 1 = nI (As.length - 1) from pk_sub (by omega)]; exact nI_nn _ (by omega))) (fun c_8 => ?_)
  have hn1 : 1 ≤ As.length := by omega
  rw [show nI As.length - nI 1 = nI (As.length - 1) from pk_sub hn1]
  refine x_iload_n ok 0 dX0_takeBack_11 rfl rfl ?_
  refine x_aload_n ok 1 dX0_takeBack_12 rfl rfl ?_
  refine gX0_11 ok dX0_takeBack_13 0 rfl rfl ?_
  refine x_alen ok 1 2 (nI 12) dX0_takeBack_16 rfl rfl rfl ?_
  refine x_icmp_ltN ok 22 dX0_takeBack_17 (by decide) (by omega) (by omega) (fun c_17 => ?_) (fun c_17 => absurd c_17 (by omega))
  refine x_aload_n ok 1 dX0_takeBack_22 rfl rfl ?_
  refine gX0_11 ok dX0_takeBack_23 0 rfl rfl ?_
  refine x_iload_n ok 0 dX0_takeBack_26 rfl rfl ?_
  refine x_aald ok 1 2 (As.length - 1) dX0_takeBack_27 rfl rfl rfl (by omega) (by decide) (ra (pm (As.length - 1))) (hr _ (by omega)) ?_
  refine x_astore_n ok (lv' := [(3, .ref (ra (pm (As.length - 1)))), (2, .int (nI (As.length - 1))), (0, .ref aa), (1, .ref h)]) dX0_takeBack_28 rfl (by decide) rfl ?_
  refine x_aload_n ok 0 dX0_takeBack_29 rfl rfl ?_
  refine x_ifnonnull ok 35 dX0_takeBack_30 (by decide) ?_
  refine x_aload_n ok 3 dX0_takeBack_35 rfl rfl ?_
  refine x_aload_n ok 0 dX0_takeBack_36 rfl rfl ?_
  have hP : (pm (As.length - 1)) < 12 := hact.2.1 _ (by have := hact.1; omega)
  have hq := hact.2.2.2 (As.length - 1) (by omega)
  have t := c1_take l D cI cZ cS h c n0 li0 ye0 br0 f0 (ra (pm (As.length - 1))) (ca (pm (As.length - 1))) (gSS As (As.length - 1)).1 (gSS As (As.length - 1)).2.1 (gSS As (As.length - 1)).2.2.1 (gSS As (As.length - 1)).2.2.2 (ff (pm (As.length - 1))) hq.2.2.2.2 (hlen _ (by omega))
  rw [← hq.1, ← hq.2.1, ← hq.2.2.1, ← hq.2.2.2.1] at t
  refine qX0_25 ok (As := [.ref (ra (pm (As.length - 1)))]) (st := []) 2 rfl t rfl (Nat.le_of_ble_eq_true rfl) (Nat.le_of_ble_eq_true rfl) (Nat.le_of_ble_eq_true rfl) dX0_takeBack_37 [2, 3, 4 + 2 * (pm (As.length - 1)), 5 + 2 * (pm (As.length - 1))] (nd4b _) (pool_hCb hP) (ws' := fun u => [(aa, .inr (0, [.ref rw, .int (nI As.length)])), (rw, .inl (cS, 12, .inr (.inr (.inr (.inr rf))))), (h, .inr (1, [.ref c, .int (nI (nn (pm (As.length - 1)))), .int (nI (pl (pm (As.length - 1)))), .int (yy (pm (As.length - 1))), .int (bb (pm (As.length - 1)))])), (c, .inl (cI, 48, .inl u))] ++ poolW cI ra ca nn pl yy bb ff) (st' := fun u => []) (fun _ => rfl) (fun u => pool_same hP) (fun _ => rfl) (fun g37 hg37 => ?_)
  rw [hq.1, hq.2.1, hq.2.2.1, hq.2.2.2.1]
  refine x_aload_n ok 2 dX0_takeBack_40 rfl rfl ?_
  refine x_iload_n ok 1 dX0_takeBack_41 rfl rfl ?_
  refine pX0_18 ok dX0_takeBack_42 0 rfl rfl rfl (Nat.le_of_ble_eq_true rfl) (ws' := ([(aa, .inr (0, [.ref rw, .int (nI (As.length - 1))])), (rw, .inl (cS, 12, .inr (.inr (.inr (.inr rf))))), (h, .inr (1, [.ref c, .int (nI ((gSS As (As.length - 1)).1.length)), .int (nI ((gSS As (As.length - 1)).2.1)), .int ((gSS As (As.length - 1)).2.2.1), .int ((gSS As (As.length - 1)).2.2.2)])), (c, .inl (cI, 48, .inl g37))] ++ poolW cI ra ca nn pl yy bb ff)) rfl ?_
  refine x_iconst ok (nI 1) dX0_takeBack_45 (by decide) ?_
  exact ret g37 _ _ _ (true) dX0_takeBack_46 (rfl) (rfl) (hg37)
