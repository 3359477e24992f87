set_option maxHeartbeats 4000000 in
set_option maxRecDepth 100000 in
theorem p_lost (l : Launch) (D : va_G) (cI cZ cS : ClassId) (x : Nat) (ax : Nat) (aw : Nat) (an : Nat) (aa : Nat) (a0 : Nat) (a1 : Nat) (sk : Nat) (ll : Nat) (ar : Nat) (aq : Nat) (al : Nat) (am : Nat) (sd : Int64) (wd : Nat) (wt : Nat) (W : Nat) (df : Nat → Int32) (tf : Nat → Int32) (dp : Nat → Nat) (st : Nat → Nat) (A : Nat) (nc : Nat) (L : List Sg) (li : Nat) (ye : Int32) (br : Int32) (f : Nat → Int32) (rc : Nat) (rn : Nat) (rl : Nat) (ry : Int32) (rb : Int32) (rf : Nat → Int32) (z : Int32) (hf : hs f L) (hv : okL W A L) (hW : W ≤ 4) (hst : ∀ w, w < W → tf w = nI (st w)) (hst2 : ∀ w, w < W → st w ≤ 2) (hl : li < 256) : CO l D (TY cI cZ cS) yX4_lost cX4_lost 2 (some .int) 5 116 0 0 [.ref x, .int z] [(x, .inr (4, [.ref ax, .ref aw, .ref an, .ref aa, .ref a0, .ref a1, .int (nI sk), .int (nI ll), .long sd, .ref ar, .ref aq, .ref al, .ref am])), (aw, .inr (3, [.ref wd, .ref wt, .int (nI W)])), (wt, .inl (cI, 4, .inl tf)), (an, .inr (1, [.ref nc, .int (nI L.length), .int (nI li), .int ye, .int br])), (nc, .inl (cI, 48, .inl f)), (ar, .inr (1, [.ref rc, .int (nI rn), .int (nI rl), .int ry, .int rb])), (rc, .inl (cI, 48, .inl rf))] (σ := (Nat) × (Nat) × (Int32) × (Int32) × (Nat → Int32)) (fun u => some (.int (lostI st li ll L z))) (fun u => [(x, .inr (4, [.ref ax, .ref aw, .ref an, .ref aa, .ref a0, .ref a1, .int (nI sk), .int (nI ll), .long sd, .ref ar, .ref aq, .ref al, .ref am])), (aw, .inr (3, [.ref wd, .ref wt, .int (nI W)])), (wt, .inl (cI, 4, .inl tf)), (an, .inr (1, [.ref nc, .int (nI L.length), .int (nI li), .int ye, .int br])), (nc, .inl (cI, 48, .inl f)), (ar, .inr (1, [.ref rc, .int (nI u.1), .int (nI u.2.1), .int u.2.2.1, .int u.2.2.2.1])), (rc, .inl (cI, 48, .inl u.2.2.2.2))]) (fun u => True) := by
  refine CO_mki (by decide +kernel) (Nat.le_of_ble_eq_true rfl) (fun K ok ret => ?_)
  show XX K [(x, .inr (4, [.ref ax, .ref aw, .ref an, .ref aa, .ref a0, .ref a1, .int (nI sk), .int (nI ll), .long sd, .ref ar, .ref aq, .ref al, .ref am])), (aw, .inr (3, [.ref wd, .ref wt, .int (nI W)])), (wt, .inl (cI, 4, .inl tf)), (an, .inr (1, [.ref nc, .int (nI L.length), .int (nI li), .int ye, .int br])), (nc, .inl (cI, 48, .inl f)), (ar, .inr (1, [.ref rc, .int (nI rn), .int (nI rl), .int ry, .int rb])), (rc, .inl (cI, 48, .inl rf))] [(0, .ref x), (1, .int z)] 0 []
  have h8 := hv.1
  refine x_iload_n ok 1 dX4_lost_0 rfl rfl ?_
  refine x_iconst ok (nI 0) dX4_lost_1 (by decide) ?_
  refine x_bipush ok (nI 30) dX4_lost_2 (by decide) ?_
  refine qX4_128 ok (As := [.int z, .int (nI 0), .int (nI 30)]) (st := []) (c4_isWithin l D cI cZ cS z (nI 0) (nI 30) ) rfl (Nat.le_of_ble_eq_true rfl) (Nat.le_of_ble_eq_true rfl) (Nat.le_of_ble_eq_true rfl) dX4_lost_4 [] (by decide) rfl (ws' := fun u => [(x, .inr (4, [.ref ax, .ref aw, .ref an, .ref aa, .ref a0, .ref a1, .int (nI sk), .int (nI ll), .long sd, .ref ar, .ref aq, .ref al, .ref am])), (aw, .inr (3, [.ref wd, .ref wt, .int (nI W)])), (wt, .inl (cI, 4, .inl tf)), (an, .inr (1, [.ref nc, .int (nI L.length), .int (nI li), .int ye, .int br])), (nc, .inl (cI, 48, .inl f)), (ar, .inr (1, [.ref rc, .int (nI rn), .int (nI rl), .int ry, .int rb])), (rc, .inl (cI, 48, .inl rf))]) (st' := fun u => [.int (bz (inB z (nI 0) (nI 30)))]) (fun _ => rfl) (fun _ => rfl) (fun _ => rfl) (fun _ _ => ?_)
  refine x_if_neB ok 13 dX4_lost_7 (by decide) (fun c_7 => ?_) (fun c_7 => ?_)
  · skip
    obtain ⟨j, hj0, hj, e_z⟩ := inB_t (by omega) (by omega) c_7
    subst e_z
    have ej := cl_n (show j < 2 ^ 31 by omega)
    refine x_aload_n ok 0 dX4_lost_13 rfl rfl ?_
    refine gX4_43 ok dX4_lost_14 0 rfl rfl ?_
    refine x_aload_n ok 0 dX4_lost_17 rfl rfl ?_
    refine gX4_26 ok dX4_lost_18 0 rfl rfl ?_
    refine qX4_168 ok (As := [.ref an]) (st := []) 5 rfl (c1_take l D cI cZ cS ar rc rn rl ry rb rf an nc L li ye br f (by first | assumption | omega) (by first | assumption | omega)) rfl (Nat.le_of_ble_eq_true rfl) (Nat.le_of_ble_eq_true rfl) (Nat.le_of_ble_eq_true rfl) dX4_lost_21 [5, 6, 3, 4] (by decide) rfl (ws' := fun u => [(x, .inr (4, [.ref ax, .ref aw, .ref an, .ref aa, .ref a0, .ref a1, .int (nI sk), .int (nI ll), .long sd, .ref ar, .ref aq, .ref al, .ref am])), (aw, .inr (3, [.ref wd, .ref wt, .int (nI W)])), (wt, .inl (cI, 4, .inl tf)), (an, .inr (1, [.ref nc, .int (nI L.length), .int (nI li), .int ye, .int br])), (nc, .inl (cI, 48, .inl f)), (ar, .inr (1, [.ref rc, .int (nI L.length), .int (nI li), .int ye, .int br])), (rc, .inl (cI, 48, .inl u))]) (st' := fun u => []) (fun _ => rfl) (fun _ => rfl) (fun _ => rfl) (fun u21 hu21 => ?_)
    obtain ⟨g21, rfl⟩ : ∃ z, z = u21 := ⟨_, rfl⟩
    have hg21 := hu21
    have hg21 : hs g21 L := hg21
    show XX K [(x, .inr (4, [.ref ax, .ref aw, .ref an, .ref aa, .ref a0, .ref a1, .int (nI sk), .int (nI ll), .long sd, .ref ar, .ref aq, .ref al, .ref am])), (aw, .inr (3, [.ref wd, .ref wt, .int (nI W)])), (wt, .inl (cI, 4, .inl tf)), (an, .inr (1, [.ref nc, .int (nI L.length), .int (nI li), .int ye, .int br])), (nc, .inl (cI, 48, .inl f)), (ar, .inr (1, [.ref rc, .int (nI L.length), .int (nI li), .int ye, .int br])), (rc, .inl (cI, 48, .inl g21))] [(0, .ref x), (1, .int (nI j))] 24 []
    refine x_aload_n ok 0 dX4_lost_24 rfl rfl ?_
    refine gX4_43 ok dX4_lost_25 0 rfl rfl ?_
    refine x_iload_n ok 1 dX4_lost_28 rfl rfl ?_
    refine x_aload_n ok 0 dX4_lost_29 rfl rfl ?_
    refine gX4_19 ok dX4_lost_30 0 rfl rfl ?_
    refine qX4_181 ok (As := [.int (nI j), .ref aw]) (st := []) 5 rfl (c1_goYears l D cI cZ cS ar rc L li ye br g21 aw wd wt W tf st A j (hg21) (by first | assumption | omega) (by first | assumption | omega) (by first | assumption | omega) (by first | assumption | omega) (by first | assumption | omega) (by first | assumption | omega)) rfl (Nat.le_of_ble_eq_true rfl) (Nat.le_of_ble_eq_true rfl) (Nat.le_of_ble_eq_true rfl) dX4_lost_33 [5, 6, 1, 2] (by decide) rfl (ws' := fun u => [(x, .inr (4, [.ref ax, .ref aw, .ref an, .ref aa, .ref a0, .ref a1, .int (nI sk), .int (nI ll), .long sd, .ref ar, .ref aq, .ref al, .ref am])), (aw, .inr (3, [.ref wd, .ref wt, .int (nI W)])), (wt, .inl (cI, 4, .inl tf)), (an, .inr (1, [.ref nc, .int (nI L.length), .int (nI li), .int ye, .int br])), (nc, .inl (cI, 48, .inl f)), (ar, .inr (1, [.ref rc, .int (nI ((yearsL st li j L).length)), .int (nI li), .int u.2, .int br])), (rc, .inl (cI, 48, .inl u.1))]) (st' := fun u => []) (fun _ => rfl) (fun _ => rfl) (fun _ => rfl) (fun u33 hu33 => ?_)
    obtain ⟨g33, y33⟩ := u33
    have hg33 := hu33
    have hg33 : hs g33 (yearsL st li j L) := hg33
    show XX K [(x, .inr (4, [.ref ax, .ref aw, .ref an, .ref aa, .ref a0, .ref a1, .int (nI sk), .int (nI ll), .long sd, .ref ar, .ref aq, .ref al, .ref am])), (aw, .inr (3, [.ref wd, .ref wt, .int (nI W)])), (wt, .inl (cI, 4, .inl tf)), (an, .inr (1, [.ref nc, .int (nI L.length), .int (nI li), .int ye, .int br])), (nc, .inl (cI, 48, .inl f)), (ar, .inr (1, [.ref rc, .int (nI ((yearsL st li j L).length)), .int (nI li), .int y33, .int br])), (rc, .inl (cI, 48, .inl g33))] [(0, .ref x), (1, .int (nI j))] 36 []
    refine x_aload_n ok 0 dX4_lost_36 rfl rfl ?_
    refine gX4_85 ok dX4_lost_37 0 rfl rfl ?_
    refine x_aload_n ok 0 dX4_lost_40 rfl rfl ?_
    refine gX4_43 ok dX4_lost_41 0 rfl rfl ?_
    refine qX4_82 ok (As := []) (st := [.int (nI ll)]) 5 rfl (c1_lawsHad l D cI cZ cS ar rc (yearsL st li j L) li y33 br g33 W (A + j) (hg33) (years_ok hv j)) rfl (Nat.le_of_ble_eq_true rfl) (Nat.le_of_ble_eq_true rfl) (Nat.le_of_ble_eq_true rfl) dX4_lost_44 [5, 6] (by decide) rfl (ws' := fun u => [(x, .inr (4, [.ref ax, .ref aw, .ref an, .ref aa, .ref a0, .ref a1, .int (nI sk), .int (nI ll), .long sd, .ref ar, .ref aq, .ref al, .ref am])), (aw, .inr (3, [.ref wd, .ref wt, .int (nI W)])), (wt, .inl (cI, 4, .inl tf)), (an, .inr (1, [.ref nc, .int (nI L.length), .int (nI li), .int ye, .int br])), (nc, .inl (cI, 48, .inl f)), (ar, .inr (1, [.ref rc, .int (nI ((yearsL st li j L).length)), .int (nI li), .int y33, .int br])), (rc, .inl (cI, 48, .inl g33))]) (st' := fun u => [.int (nI (lawsN (yearsL st li j L))), .int (nI ll)]) (fun _ => rfl) (fun _ => rfl) (fun _ => rfl) (fun _ _ => ?_)
    refine x_iconst ok ((-1)) dX4_lost_47 (by decide) ?_
    refine x_ixor ok (((nI (lawsN (yearsL st li j L))) ^^^ (-1))) dX4_lost_48 (rfl) ?_
    refine x_iand ok (((nI ll) &&& ((nI (lawsN (yearsL st li j L))) ^^^ (-1)))) dX4_lost_49 (rfl) ?_
    exact ret ((yearsL st li j L).length, li, y33, br, g33) _ _ _ (((nI ll) &&& ((nI (lawsN (yearsL st li j L))) ^^^ (-1)))) dX4_lost_50 (rfl) (by rw [lostI, if_pos c_7, ej]) (trivial)
  · skip
    refine x_bipush ok ((-2)) dX4_lost_10 (by decide) ?_
    exact ret (rn, rl, ry, rb, rf) _ _ _ ((-2)) dX4_lost_12 (rfl) (by rw [lostI, if_neg c_7]) (trivial)

set_option maxHeartbeats 4000000 in
set_option maxRecDepth 100000 in
theorem p_lawLasts (l : Launch) (D : va_G) (cI cZ cS : ClassId) (x : Nat) (ax : Nat) (aw : Nat) (an : Nat) (aa : Nat) (a0 : Nat) (a1 : Nat) (sk : Nat) (ll : Nat) (ar : Nat) (aq : Nat) (al : Nat) (am : Nat) (sd : Int64) (wd : Nat) (wt : Nat) (W : Nat) (df : Nat → Int32) (tf : Nat → Int32) (dp : Nat → Nat) (st : Nat → Nat) (A : Nat) (nc : Nat) (L : List Sg) (li : Nat) (ye : Int32) (br : Int32) (f : Nat → Int32) (rc : Nat) (rn : Nat) (rl : Nat) (ry : Int32) (rb : Int32) (rf : Nat → Int32) (z : Int32) (hf : hs f L) (hv : okL W A L) (hW : W ≤ 4) (hst : ∀ w, w < W → tf w = nI (st w)) (hst2 : ∀ w, w < W → st w ≤ 2) (hl : li < 256) : CO l D (TY cI cZ cS) yX4_lawLasts cX4_lawLasts 3 (some .int) 4 93 0 0 [.ref x, .int z] [(x, .inr (4, [.ref ax, .ref aw, .ref an, .ref aa, .ref a0, .ref a1, .int (nI sk), .int (nI ll), .long sd, .ref ar, .ref aq, .ref al, .ref am])), (aw, .inr (3, [.ref wd, .ref wt, .int (nI W)])), (wt, .inl (cI, 4, .inl tf)), (an, .inr (1, [.ref nc, .int (nI L.length), .int (nI li), .int ye, .int br])), (nc, .inl (cI, 48, .inl f)), (ar, .inr (1, [.ref rc, .int (nI rn), .int (nI rl), .int ry, .int rb])), (rc, .inl (cI, 48, .inl rf))] (σ := (Nat) × (Nat) × (Int32) × (Int32) × (Nat → Int32)) (fun u => some (.int (lawLastsI st li L z))) (fun u => [(x, .inr (4, [.ref ax, .ref aw, .ref an, .ref aa, .ref a0, .ref a1, .int (nI sk), .int (nI ll), .long sd, .ref ar, .ref aq, .ref al, .ref am])), (aw, .inr (3, [.ref wd, .ref wt, .int (nI W)])), (wt, .inl (cI, 4, .inl tf)), (an, .inr (1, [.ref nc, .int (nI L.length), .int (nI li), .int ye, .int br])), (nc, .inl (cI, 48, .inl f)), (ar, .inr (1, [.ref rc, .int (nI u.1), .int (nI u.2.1), .int u.2.2.1, .int u.2.2.2.1])), (rc, .inl (cI, 48, .inl u.2.2.2.2))]) (fun u => True) := by
  refine CO_mki (by decide +kernel) (Nat.le_of_ble_eq_true rfl) (fun K ok ret => ?_)
  show XX K [(x, .inr (4, [.ref ax, .ref aw, .ref an, .ref aa, .ref a0, .ref a1, .int (nI sk), .int (nI ll), .long sd, .ref ar, .ref aq, .ref al, .ref am])), (aw, .inr (3, [.ref wd, .ref wt, .int (nI W)])), (wt, .inl (cI, 4, .inl tf)), (an, .inr (1, [.ref nc, .int (nI L.length), .int (nI li), .int ye, .int br])), (nc, .inl (cI, 48, .inl f)), (ar, .inr (1, [.ref rc, .int (nI rn), .int (nI rl), .int ry, .int rb])), (rc, .inl (cI, 48, .inl rf))] [(0, .ref x), (1, .int z)] 0 []
  have h8 := hv.1
  refine x_iload_n ok 1 dX4_lawLasts_0 rfl rfl ?_
  refine x_iconst ok (nI 0) dX4_lawLasts_1 (by decide) ?_
  refine x_iconst ok (nI 5) dX4_lawLasts_2 (by decide) ?_
  refine qX4_128 ok (As := [.int z, .int (nI 0), .int (nI 5)]) (st := []) (c4_isWithin l D cI cZ cS z (nI 0) (nI 5) ) rfl (Nat.le_of_ble_eq_true rfl) (Nat.le_of_ble_eq_true rfl) (Nat.le_of_ble_eq_true rfl) dX4_lawLasts_3 [] (by decide) rfl (ws' := fun u => [(x, .inr (4, [.ref ax, .ref aw, .ref an, .ref aa, .ref a0, .ref a1, .int (nI sk), .int (nI ll), .long sd, .ref ar, .ref aq, .ref al, .ref am])), (aw, .inr (3, [.ref wd, .ref wt, .int (nI W)])), (wt, .inl (cI, 4, .inl tf)), (an, .inr (1, [.ref nc, .int (nI L.length), .int (nI li), .int ye, .int br])), (nc, .inl (cI, 48, .inl f)), (ar, .inr (1, [.ref rc, .int (nI rn), .int (nI rl), .int ry, .int rb])), (rc, .inl (cI, 48, .inl rf))]) (st' := fun u => [.int (bz (inB z (nI 0) (nI 5)))]) (fun _ => rfl) (fun _ => rfl) (fun _ => rfl) (fun _ _ => ?_)
  refine x_if_neB ok 12 dX4_lawLasts_6 (by decide) (fun c_6 => ?_) (fun c_6 => ?_)
  · skip
    obtain ⟨j, hj0, hj, e_z⟩ := inB_t (by omega) (by omega) c_6
    subst e_z
    have ej := cl_n (show j < 2 ^ 31 by omega)
    refine x_aload_n ok 0 dX4_lawLasts_12 rfl rfl ?_
    refine gX4_43 ok dX4_lawLasts_13 0 rfl rfl ?_
    refine x_aload_n ok 0 dX4_lawLasts_16 rfl rfl ?_
    refine gX4_26 ok dX4_lawLasts_17 0 rfl rfl ?_
    refine qX4_168 ok (As := [.ref an]) (st := []) 5 rfl (c1_take l D cI cZ cS ar rc rn rl ry rb rf an nc L li ye br f (by first | assumption | omega) (by first | assumption | omega)) rfl (Nat.le_of_ble_eq_true rfl) (Nat.le_of_ble_eq_true rfl) (Nat.le_of_ble_eq_true rfl) dX4_lawLasts_20 [5, 6, 3, 4] (by decide) rfl (ws' := fun u => [(x, .inr (4, [.ref ax, .ref aw, .ref an, .ref aa, .ref a0, .ref a1, .int (nI sk), .int (nI ll), .long sd, .ref ar, .ref aq, .ref al, .ref am])), (aw, .inr (3, [.ref wd, .ref wt, .int (nI W)])), (wt, .inl (cI, 4, .inl tf)), (an, .inr (1, [.ref nc, .int (nI L.length), .int (nI li), .int ye, .int br])), (nc, .inl (cI, 48, .inl f)), (ar, .inr (1, [.ref rc, .int (nI L.length), .int (nI li), .int ye, .int br])), (rc, .inl (cI, 48, .inl u))]) (st' := fun u => []) (fun _ => rfl) (fun _ => rfl) (fun _ => rfl) (fun u20 hu20 => ?_)
    obtain ⟨g20, rfl⟩ : ∃ z, z = u20 := ⟨_, rfl⟩
    have hg20 := hu20
    have hg20 : hs g20 L := hg20
    show XX K [(x, .inr (4, [.ref ax, .ref aw, .ref an, .ref aa, .ref a0, .ref a1, .int (nI sk), .int (nI ll), .long sd, .ref ar, .ref aq, .ref al, .ref am])), (aw, .inr (3, [.ref wd, .ref wt, .int (nI W)])), (wt, .inl (cI, 4, .inl tf)), (an, .inr (1, [.ref nc, .int (nI L.length), .int (nI li), .int ye, .int br])), (nc, .inl (cI, 48, .inl f)), (ar, .inr (1, [.ref rc, .int (nI L.length), .int (nI li), .int ye, .int br])), (rc, .inl (cI, 48, .inl g20))] [(0, .ref x), (1, .int (nI j))] 23 []
    refine x_iconst ok (nI 0) dX4_lawLasts_23 (by decide) ?_
    refine x_istore_n ok (lv' := [(2, .int (nI 0)), (0, .ref x), (1, .int (nI j))]) dX4_lawLasts_24 rfl (by decide) rfl ?_
    have L_25 : ∀ (n_25 : Nat) (k : Nat) (g9 : Nat → Int32) (y9 : Int32), 99 - k < n_25 → (k ≤ 99) → (hs g9 (yearsL st li k L)) → (lawF st li j L (99 - k) k = lawF st li j L 99 0) → XX K [(x, .inr (4, [.ref ax, .ref aw, .ref an, .ref aa, .ref a0, .ref a1, .int (nI sk), .int (nI ll), .long sd, .ref ar, .ref aq, .ref al, .ref am])), (aw, .inr (3, [.ref wd, .ref wt, .int (nI W)])), (wt, .inl (cI, 4, .inl tf)), (an, .inr (1, [.ref nc, .int (nI L.length), .int (nI li), .int ye, .int br])), (nc, .inl (cI, 48, .inl f)), (ar, .inr (1, [.ref rc, .int (nI ((yearsL st li k L).length)), .int (nI li), .int y9, .int br])), (rc, .inl (cI, 48, .inl g9))] [(2, .int (nI k)), (0, .ref x), (1, .int (nI j))] 25 [] := by
      intro n_25
      induction n_25 with
      | zero => intro k g9 y9 hm; exact absurd hm (Nat.not_lt_zero _)
      | succ n_25 ih_25 =>
        intro k g9 y9 hm_25 hk hg9 ha
        refine x_iload_n ok 0 dX4_lawLasts_25 rfl rfl ?_
        refine x_bipush ok (nI 99) dX4_lawLasts_26 (by decide) ?_
        refine x_icmp_geN ok 65 dX4_lawLasts_28 (by decide) (by omega) (by omega) (fun c_28 => ?_) (fun c_28 => ?_)
        · skip
          have ek : k = 99 := by omega
          refine x_bipush ok (nI 99) dX4_lawLasts_65 (by decide) ?_
          exact ret ((yearsL st li k L).length, li, y9, br, g9) _ _ _ (nI 99) dX4_lawLasts_67 (rfl) (by rw [lawLastsI, if_pos c_6, ej, ← ha, show 99 - k = 0 by omega, lawF, ek]) (trivial)
        · skip
          have hl6 := lawsN_lt (years_ok (st := st) (li := li) hv k)
          have tb1 := ((lawsN (yearsL st li k L)).testBit j).toNat_le
          refine x_aload_n ok 1 dX4_lawLasts_31 rfl rfl ?_
          refine gX4_43 ok dX4_lawLasts_32 0 rfl rfl ?_
          refine qX4_82 ok (As := []) (st := []) 5 rfl (c1_lawsHad l D cI cZ cS ar rc (yearsL st li k L) li y9 br g9 W (A + k) (hg9) (years_ok hv k)) rfl (Nat.le_of_ble_eq_true rfl) (Nat.le_of_ble_eq_true rfl) (Nat.le_of_ble_eq_true rfl) dX4_lawLasts_35 [5, 6] (by decide) rfl (ws' := fun u => [(x, .inr (4, [.ref ax, .ref aw, .ref an, .ref aa, .ref a0, .ref a1, .int (nI sk), .int (nI ll), .long sd, .ref ar, .ref aq, .ref al, .ref am])), (aw, .inr (3, [.ref wd, .ref wt, .int (nI W)])), (wt, .inl (cI, 4, .inl tf)), (an, .inr (1, [.ref nc, .int (nI L.length), .int (nI li), .int ye, .int br])), (nc, .inl (cI, 48, .inl f)), (ar, .inr (1, [.ref rc, .int (nI ((yearsL st li k L).length)), .int (nI li), .int y9, .int br])), (rc, .inl (cI, 48, .inl g9))]) (st' := fun u => [.int (nI (lawsN (yearsL st li k L)))]) (fun _ => rfl) (fun _ => rfl) (fun _ => rfl) (fun _ _ => ?_)
          refine x_iload_n ok 2 dX4_lawLasts_38 rfl rfl ?_
          refine x_ishr ok (((nI (lawsN (yearsL st li k L))) >>> ((nI j) &&& 31))) dX4_lawLasts_39 (rfl) ?_
          refine x_iconst ok (nI 1) dX4_lawLasts_40 (by decide) ?_
          refine x_iand ok (nI (((lawsN (yearsL st li k L)).testBit j).toNat)) dX4_lawLasts_41 (tb0 _ (by omega) j (by omega)) ?_
          refine x_if_neN ok 47 dX4_lawLasts_42 (by decide) (by omega) (fun c_42 => ?_) (fun c_42 => ?_)
          · skip
            have hbt : (lawsN (yearsL st li k L)).testBit j = true := by cases q : (lawsN (yearsL st li k L)).testBit j with | true => rfl | false => rw [q] at c_42; exact absurd rfl c_42
            refine x_aload_n ok 1 dX4_lawLasts_47 rfl rfl ?_
            refine gX4_43 ok dX4_lawLasts_48 0 rfl rfl ?_
            refine x_aload_n ok 1 dX4_lawLasts_51 rfl rfl ?_
            refine gX4_19 ok dX4_lawLasts_52 0 rfl rfl ?_
            refine qX4_140 ok (As := [.ref aw]) (st := []) 5 rfl (c1_goYear l D cI cZ cS ar rc (yearsL st li k L) li y9 br g9 aw wd wt W tf st (A + k) (hg9) (years_ok hv k) (by first | assumption | omega) (by first | assumption | omega) (by first | assumption | omega) (by first | assumption | omega)) rfl (Nat.le_of_ble_eq_true rfl) (Nat.le_of_ble_eq_true rfl) (Nat.le_of_ble_eq_true rfl) dX4_lawLasts_55 [5, 6, 1, 2] (by decide) rfl (ws' := fun u => [(x, .inr (4, [.ref ax, .ref aw, .ref an, .ref aa, .ref a0, .ref a1, .int (nI sk), .int (nI ll), .long sd, .ref ar, .ref aq, .ref al, .ref am])), (aw, .inr (3, [.ref wd, .ref wt, .int (nI W)])), (wt, .inl (cI, 4, .inl tf)), (an, .inr (1, [.ref nc, .int (nI L.length), .int (nI li), .int ye, .int br])), (nc, .inl (cI, 48, .inl f)), (ar, .inr (1, [.ref rc, .int (nI ((yearL st li (yearsL st li k L)).length)), .int (nI li), .int (y9 + nI 1), .int br])), (rc, .inl (cI, 48, .inl u))]) (st' := fun u => [.int (nI ((yearsL st li k L).length - (yearL st li (yearsL st li k L)).length))]) (fun _ => rfl) (fun _ => rfl) (fun _ => rfl) (fun u55 hu55 => ?_)
            obtain ⟨g55, rfl⟩ : ∃ z, z = u55 := ⟨_, rfl⟩
            have hg55 := hu55
            have hg55 : hs g55 (yearL st li (yearsL st li k L)) := hg55
            show XX K [(x, .inr (4, [.ref ax, .ref aw, .ref an, .ref aa, .ref a0, .ref a1, .int (nI sk), .int (nI ll), .long sd, .ref ar, .ref aq, .ref al, .ref am])), (aw, .inr (3, [.ref wd, .ref wt, .int (nI W)])), (wt, .inl (cI, 4, .inl tf)), (an, .inr (1, [.ref nc, .int (nI L.length), .int (nI li), .int ye, .int br])), (nc, .inl (cI, 48, .inl f)), (ar, .inr (1, [.ref rc, .int (nI ((yearL st li (yearsL st li k L)).length)), .int (nI li), .int (y9 + nI 1), .int br])), (rc, .inl (cI, 48, .inl g55))] [(2, .int (nI k)), (0, .ref x), (1, .int (nI j))] 58 [.int (nI ((yearsL st li k L).length - (yearL st li (yearsL st li k L)).length))]
            refine x_pop ok dX4_lawLasts_58 rfl ?_
            refine x_iinc ok (v := nI (k + 1)) (lv' := [(2, .int (nI (k + 1))), (0, .ref x), (1, .int (nI j))]) dX4_lawLasts_59 0 rfl (nN (nI_inc _ 1) (by omega)) (by decide) rfl ?_
            refine x_goto ok 25 dX4_lawLasts_62 (by decide) ?_
            exact ih_25 (k + 1) g55 (y9 + nI 1) (by omega) (by first | assumption | omega) (hg55) (by rw [← ha, show 99 - k = (99 - (k + 1)) + 1 by omega, lawF, if_pos hbt])
          · skip
            have hbt : ¬ (lawsN (yearsL st li k L)).testBit j = true := by intro q; rw [q] at c_42; exact absurd c_42 (by decide)
            refine x_iload_n ok 0 dX4_lawLasts_45 rfl rfl ?_
            exact ret ((yearsL st li k L).length, li, y9, br, g9) _ _ _ (nI k) dX4_lawLasts_46 (rfl) (by rw [lawLastsI, if_pos c_6, ej, ← ha, show 99 - k = (99 - (k + 1)) + 1 by omega, lawF, if_neg hbt]) (trivial)
    exact L_25 _ 0 g20 ye (Nat.lt_succ_self _) (by first | assumption | omega) (hg20) (rfl)
  · skip
    refine x_bipush ok ((-2)) dX4_lawLasts_9 (by decide) ?_
    exact ret (rn, rl, ry, rb, rf) _ _ _ ((-2)) dX4_lawLasts_11 (rfl) (by rw [lawLastsI, if_neg c_6]) (trivial)

set_option maxHeartbeats 4000000 in
set_option maxRecDepth 100000 in
theorem p_songLasts (l : Launch) (D : va_G) (cI cZ cS : ClassId) (x : Nat) (ax : Nat) (aw : Nat) (an : Nat) (aa : Nat) (a0 : Nat) (a1 : Nat) (sk : Nat) (ll : Nat) (ar : Nat) (aq : Nat) (al : Nat) (am : Nat) (sd : Int64) (wd : Nat) (wt : Nat) (W : Nat) (df : Nat → Int32) (tf : Nat → Int32) (dp : Nat → Nat) (st : Nat → Nat) (A : Nat) (nc : Nat) (L : List Sg) (li : Nat) (ye : Int32) (br : Int32) (f : Nat → Int32) (rc : Nat) (rn : Nat) (rl : Nat) (ry : Int32) (rb : Int32) (rf : Nat → Int32) (z : Int32) (hf : hs f L) (hv : okL W A L) (hW : W ≤ 4) (hst : ∀ w, w < W → tf w = nI (st w)) (hst2 : ∀ w, w < W → st w ≤ 2) (hl : li < 256) : CO l D (TY cI cZ cS) yX4_songLasts cX4_songLasts 4 (some .int) 3 70 0 0 [.ref x, .int z] [(x, .inr (4, [.ref ax, .ref aw, .ref an, .ref aa, .ref a0, .ref a1, .int (nI sk), .int (nI ll), .long sd, .ref ar, .ref aq, .ref al, .ref am])), (aw, .inr (3, [.ref wd, .ref wt, .int (nI W)])), (wt, .inl (cI, 4, .inl tf)), (an, .inr (1, [.ref nc, .int (nI L.length), .int (nI li), .int ye, .int br])), (nc, .inl (cI, 48, .inl f)), (ar, .inr (1, [.ref rc, .int (nI rn), .int (nI rl), .int ry, .int rb])), (rc, .inl (cI, 48, .inl rf))] (σ := (Nat) × (Nat) × (Int32) × (Int32) × (Nat → Int32)) (fun u => some (.int (songLastsI st li L z))) (fun u => [(x, .inr (4, [.ref ax, .ref aw, .ref an, .ref aa, .ref a0, .ref a1, .int (nI sk), .int (nI ll), .long sd, .ref ar, .ref aq, .ref al, .ref am])), (aw, .inr (3, [.ref wd, .ref wt, .int (nI W)])), (wt, .inl (cI, 4, .inl tf)), (an, .inr (1, [.ref nc, .int (nI L.length), .int (nI li), .int ye, .int br])), (nc, .inl (cI, 48, .inl f)), (ar, .inr (1, [.ref rc, .int (nI u.1), .int (nI u.2.1), .int u.2.2.1, .int u.2.2.2.1])), (rc, .inl (cI, 48, .inl u.2.2.2.2))]) (fun u => True) := by
  refine CO_mki (by decide +kernel) (Nat.le_of_ble_eq_true rfl) (fun K ok ret => ?_)
  show XX K [(x, .inr (4, [.ref ax, .ref aw, .ref an, .ref aa, .ref a0, .ref a1, .int (nI sk), .int (nI ll), .long sd, .ref ar, .ref aq, .ref al, .ref am])), (aw, .inr (3, [.ref wd, .ref wt, .int (nI W)])), (wt, .inl (cI, 4, .inl tf)), (an, .inr (1, [.ref nc, .int (nI L.length), .int (nI li), .int ye, .int br])), (nc, .inl (cI, 48, .inl f)), (ar, .inr (1, [.ref rc, .int (nI rn), .int (nI rl), .int ry, .int rb])), (rc, .inl (cI, 48, .inl rf))] [(0, .ref x), (1, .int z)] 0 []
  have h8 := hv.1
  refine x_aload_n ok 0 dX4_songLasts_0 rfl rfl ?_
  refine gX4_26 ok dX4_songLasts_1 0 rfl rfl ?_
  refine x_iload_n ok 1 dX4_songLasts_4 rfl rfl ?_
  refine qX4_127 ok (As := [.int z]) (st := []) 3 rfl (c1_has l D cI cZ cS an nc L.length li ye br z ) rfl (Nat.le_of_ble_eq_true rfl) (Nat.le_of_ble_eq_true rfl) (Nat.le_of_ble_eq_true rfl) dX4_songLasts_5 [3] (by decide) rfl (ws' := fun u => [(x, .inr (4, [.ref ax, .ref aw, .ref an, .ref aa, .ref a0, .ref a1, .int (nI sk), .int (nI ll), .long sd, .ref ar, .ref aq, .ref al, .ref am])), (aw, .inr (3, [.ref wd, .ref wt, .int (nI W)])), (wt, .inl (cI, 4, .inl tf)), (an, .inr (1, [.ref nc, .int (nI L.length), .int (nI li), .int ye, .int br])), (nc, .inl (cI, 48, .inl f)), (ar, .inr (1, [.ref rc, .int (nI rn), .int (nI rl), .int ry, .int rb])), (rc, .inl (cI, 48, .inl rf))]) (st' := fun u => [.int (bz (hasB z L.length))]) (fun _ => rfl) (fun _ => rfl) (fun _ => rfl) (fun _ _ => ?_)
  refine x_if_neB ok 13 dX4_songLasts_8 (by decide) (fun c_8 => ?_) (fun c_8 => ?_)
  · skip
    obtain ⟨j, hj, e_z⟩ := hasB_t (by omega) c_8
    subst e_z
    have ej := cl_n (show j < 2 ^ 31 by omega)
    refine x_aload_n ok 0 dX4_songLasts_13 rfl rfl ?_
    refine gX4_43 ok dX4_songLasts_14 0 rfl rfl ?_
    refine x_aload_n ok 0 dX4_songLasts_17 rfl rfl ?_
    refine gX4_26 ok dX4_songLasts_18 0 rfl rfl ?_
    refine qX4_168 ok (As := [.ref an]) (st := []) 5 rfl (c1_take l D cI cZ cS ar rc rn rl ry rb rf an nc L li ye br f (by first | assumption | omega) (by first | assumption | omega)) rfl (Nat.le_of_ble_eq_true rfl) (Nat.le_of_ble_eq_true rfl) (Nat.le_of_ble_eq_true rfl) dX4_songLasts_21 [5, 6, 3, 4] (by decide) rfl (ws' := fun u => [(x, .inr (4, [.ref ax, .ref aw, .ref an, .ref aa, .ref a0, .ref a1, .int (nI sk), .int (nI ll), .long sd, .ref ar, .ref aq, .ref al, .ref am])), (aw, .inr (3, [.ref wd, .ref wt, .int (nI W)])), (wt, .inl (cI, 4, .inl tf)), (an, .inr (1, [.ref nc, .int (nI L.length), .int (nI li), .int ye, .int br])), (nc, .inl (cI, 48, .inl f)), (ar, .inr (1, [.ref rc, .int (nI L.length), .int (nI li), .int ye, .int br])), (rc, .inl (cI, 48, .inl u))]) (st' := fun u => []) (fun _ => rfl) (fun _ => rfl) (fun _ => rfl) (fun u21 hu21 => ?_)
    obtain ⟨g21, rfl⟩ : ∃ z, z = u21 := ⟨_, rfl⟩
    have hg21 := hu21
    have hg21 : hs g21 L := hg21
    show XX K [(x, .inr (4, [.ref ax, .ref aw, .ref an, .ref aa, .ref a0, .ref a1, .int (nI sk), .int (nI ll), .long sd, .ref ar, .ref aq, .ref al, .ref am])), (aw, .inr (3, [.ref wd, .ref wt, .int (nI W)])), (wt, .inl (cI, 4, .inl tf)), (an, .inr (1, [.ref nc, .int (nI L.length), .int (nI li), .int ye, .int br])), (nc, .inl (cI, 48, .inl f)), (ar, .inr (1, [.ref rc, .int (nI L.length), .int (nI li), .int ye, .int br])), (rc, .inl (cI, 48, .inl g21))] [(0, .ref x), (1, .int (nI j))] 24 []
    refine x_iload_n ok 1 dX4_songLasts_24 rfl rfl ?_
    refine x_istore_n ok (lv' := [(2, .int (nI j)), (0, .ref x), (1, .int (nI j))]) dX4_songLasts_25 rfl (by decide) rfl ?_
    refine x_iconst ok (nI 1) dX4_songLasts_26 (by decide) ?_
    refine x_istore_n ok (lv' := [(3, .int (nI 1)), (2, .int (nI j)), (0, .ref x), (1, .int (nI j))]) dX4_songLasts_27 rfl (by decide) rfl ?_
    have L_28 : ∀ (n_28 : Nat) (k : Nat) (p : Nat) (M : List Sg) (g9 : Nat → Int32), 99 - k < n_28 → (1 ≤ k) → (k ≤ 99) → (p < M.length) → (okL W A M) → (hs g9 M) → (lastF st li (99 - k) k M p = lastF st li 98 1 L j) → XX K [(x, .inr (4, [.ref ax, .ref aw, .ref an, .ref aa, .ref a0, .ref a1, .int (nI sk), .int (nI ll), .long sd, .ref ar, .ref aq, .ref al, .ref am])), (aw, .inr (3, [.ref wd, .ref wt, .int (nI W)])), (wt, .inl (cI, 4, .inl tf)), (an, .inr (1, [.ref nc, .int (nI L.length), .int (nI li), .int ye, .int br])), (nc, .inl (cI, 48, .inl f)), (ar, .inr (1, [.ref rc, .int (nI M.length), .int (nI li), .int ye, .int br])), (rc, .inl (cI, 48, .inl g9))] [(3, .int (nI k)), (2, .int (nI p)), (0, .ref x), (1, .int (nI j))] 28 [] := by
      intro n_28
      induction n_28 with
      | zero => intro k p M g9 hm; exact absurd hm (Nat.not_lt_zero _)
      | succ n_28 ih_28 =>
        intro k p M g9 hm_28 hk1 hk hp hvm hg9 ha
        refine x_iload_n ok 0 dX4_songLasts_28 rfl rfl ?_
        refine x_bipush ok (nI 99) dX4_songLasts_29 (by decide) ?_
        refine x_icmp_geN ok 84 dX4_songLasts_31 (by decide) (by omega) (by omega) (fun c_31 => ?_) (fun c_31 => ?_)
        · skip
          have e_k : 99 = k := by omega
          subst e_k
          refine x_bipush ok (nI 99) dX4_songLasts_84 (by decide) ?_
          exact ret (M.length, li, ye, br, g9) _ _ _ (nI 99) dX4_songLasts_86 (rfl) (by rw [songLastsI, if_pos c_8, ej, ← ha, Nat.sub_self, lastF]) (trivial)
        · skip
          have hm8 := hvm.1
          have hbM : ∀ i, i < M.length → sg M i 2 < 100 ∧ (lossN st li M) i < 100 := fun i hi => ⟨by obtain ⟨v0, v1, v2, v2b, v3, v4, v5⟩ := hvm.2 i hi; omega, by have := loss_le (li := li) hvm hst2 hi; omega⟩
          refine x_aload_n ok 2 dX4_songLasts_34 rfl rfl ?_
          refine gX4_43 ok dX4_songLasts_35 0 rfl rfl ?_
          refine x_aload_n ok 2 dX4_songLasts_38 rfl rfl ?_
          refine gX4_19 ok dX4_songLasts_39 0 rfl rfl ?_
          refine qX4_171 ok (As := [.ref aw]) (st := []) 5 rfl (c1_wear l D cI cZ cS ar rc M li ye br g9 aw wd wt W tf st A (hg9) (hvm) (by first | assumption | omega) (by first | assumption | omega) (by first | assumption | omega) (by first | assumption | omega)) rfl (Nat.le_of_ble_eq_true rfl) (Nat.le_of_ble_eq_true rfl) (Nat.le_of_ble_eq_true rfl) dX4_songLasts_42 [5, 6, 1, 2] (by decide) rfl (ws' := fun u => [(x, .inr (4, [.ref ax, .ref aw, .ref an, .ref aa, .ref a0, .ref a1, .int (nI sk), .int (nI ll), .long sd, .ref ar, .ref aq, .ref al, .ref am])), (aw, .inr (3, [.ref wd, .ref wt, .int (nI W)])), (wt, .inl (cI, 4, .inl tf)), (an, .inr (1, [.ref nc, .int (nI L.length), .int (nI li), .int ye, .int br])), (nc, .inl (cI, 48, .inl f)), (ar, .inr (1, [.ref rc, .int (nI M.length), .int (nI li), .int ye, .int br])), (rc, .inl (cI, 48, .inl u))]) (st' := fun u => []) (fun _ => rfl) (fun _ => rfl) (fun _ => rfl) (fun u42 hu42 => ?_)
          obtain ⟨g42, rfl⟩ : ∃ z, z = u42 := ⟨_, rfl⟩
          have hg42 := hu42
          have hg42 : worn g42 M (lossN st li M) := hg42
          show XX K [(x, .inr (4, [.ref ax, .ref aw, .ref an, .ref aa, .ref a0, .ref a1, .int (nI sk), .int (nI ll), .long sd, .ref ar, .ref aq, .ref al, .ref am])), (aw, .inr (3, [.ref wd, .ref wt, .int (nI W)])), (wt, .inl (cI, 4, .inl tf)), (an, .inr (1, [.ref nc, .int (nI L.length), .int (nI li), .int ye, .int br])), (nc, .inl (cI, 48, .inl f)), (ar, .inr (1, [.ref rc, .int (nI M.length), .int (nI li), .int ye, .int br])), (rc, .inl (cI, 48, .inl g42))] [(3, .int (nI k)), (2, .int (nI p)), (0, .ref x), (1, .int (nI j))] 45 []
          refine x_aload_n ok 2 dX4_songLasts_45 rfl rfl ?_
          refine gX4_43 ok dX4_songLasts_46 0 rfl rfl ?_
          refine x_iload_n ok 1 dX4_songLasts_49 rfl rfl ?_
          refine x_iconst ok (nI 2) dX4_songLasts_50 (by decide) ?_
          refine qX4_132 ok (As := [.int (nI p), .int (nI 2)]) (st := []) 5 rfl (c1_get l D cI cZ cS ar rc M.length li ye br g42 p 2 (by first | assumption | omega)) rfl (Nat.le_of_ble_eq_true rfl) (Nat.le_of_ble_eq_true rfl) (Nat.le_of_ble_eq_true rfl) dX4_songLasts_51 [5, 6] (by decide) rfl (ws' := fun u => [(x, .inr (4, [.ref ax, .ref aw, .ref an, .ref aa, .ref a0, .ref a1, .int (nI sk), .int (nI ll), .long sd, .ref ar, .ref aq, .ref al, .ref am])), (aw, .inr (3, [.ref wd, .ref wt, .int (nI W)])), (wt, .inl (cI, 4, .inl tf)), (an, .inr (1, [.ref nc, .int (nI L.length), .int (nI li), .int ye, .int br])), (nc, .inl (cI, 48, .inl f)), (ar, .inr (1, [.ref rc, .int (nI M.length), .int (nI li), .int ye, .int br])), (rc, .inl (cI, 48, .inl g42))]) (st' := fun u => [.int (g42 (p * 6 + 2))]) (fun _ => rfl) (fun _ => rfl) (fun _ => rfl) (fun _ _ => ?_)
          refine x_eq (st' := [.int (nI (sg M p 2) - nI ((lossN st li M) p))]) rfl rfl (by rw [hg42 p 2 hp (by omega)]; simp) ?_
          refine x_if_gt ok 59 dX4_songLasts_54 (by decide) (fun c_54 => ?_) (fun c_54 => ?_)
          · skip
            have yl : (lossN st li M) p < sg M p 2 := (sub_pos' (by have := (hbM p hp).1; omega) (by have := (hbM p hp).2; omega)).mp c_54
            have hfl := faint_low hg42 hbM p (by omega)
            have hll := low_len2 (ag := 0) hp yl
            refine x_iload_n ok 1 dX4_songLasts_59 rfl rfl ?_
            refine x_aload_n ok 2 dX4_songLasts_60 rfl rfl ?_
            refine gX4_43 ok dX4_songLasts_61 0 rfl rfl ?_
            refine x_iload_n ok 1 dX4_songLasts_64 rfl rfl ?_
            refine qX4_175 ok (As := [.int (nI p)]) (st := [.int (nI p)]) 5 rfl (c1_faintAhead l D cI cZ cS ar rc M.length li ye br g42 p (by first | assumption | omega)) rfl (Nat.le_of_ble_eq_true rfl) (Nat.le_of_ble_eq_true rfl) (Nat.le_of_ble_eq_true rfl) dX4_songLasts_65 [5, 6] (by decide) rfl (ws' := fun u => [(x, .inr (4, [.ref ax, .ref aw, .ref an, .ref aa, .ref a0, .ref a1, .int (nI sk), .int (nI ll), .long sd, .ref ar, .ref aq, .ref al, .ref am])), (aw, .inr (3, [.ref wd, .ref wt, .int (nI W)])), (wt, .inl (cI, 4, .inl tf)), (an, .inr (1, [.ref nc, .int (nI L.length), .int (nI li), .int ye, .int br])), (nc, .inl (cI, 48, .inl f)), (ar, .inr (1, [.ref rc, .int (nI M.length), .int (nI li), .int ye, .int br])), (rc, .inl (cI, 48, .inl g42))]) (st' := fun u => [.int (nI (suN (fa1 g42) p)), .int (nI p)]) (fun _ => rfl) (fun _ => rfl) (fun _ => rfl) (fun _ _ => ?_)
            refine x_isub ok (nI ((low (lossN st li M) 0 M p).length)) dX4_songLasts_68 ((pk_sub (by omega)).trans (congrArg nI (by omega))) ?_
            refine x_istore_n ok (lv' := [(2, .int (nI ((low (lossN st li M) 0 M p).length))), (3, .int (nI k)), (0, .ref x), (1, .int (nI j))]) dX4_songLasts_69 rfl (by decide) rfl ?_
            refine x_aload_n ok 2 dX4_songLasts_70 rfl rfl ?_
            refine gX4_43 ok dX4_songLasts_71 0 rfl rfl ?_
            refine qX4_178 ok (As := []) (st := []) 5 rfl (c1_dropFaint l D cI cZ cS ar rc M li ye br g42 (lossN st li M) (hg42) (hbM) (by first | assumption | omega)) rfl (Nat.le_of_ble_eq_true rfl) (Nat.le_of_ble_eq_true rfl) (Nat.le_of_ble_eq_true rfl) dX4_songLasts_74 [5, 6] (by decide) rfl (ws' := fun u => [(x, .inr (4, [.ref ax, .ref aw, .ref an, .ref aa, .ref a0, .ref a1, .int (nI sk), .int (nI ll), .long sd, .ref ar, .ref aq, .ref al, .ref am])), (aw, .inr (3, [.ref wd, .ref wt, .int (nI W)])), (wt, .inl (cI, 4, .inl tf)), (an, .inr (1, [.ref nc, .int (nI L.length), .int (nI li), .int ye, .int br])), (nc, .inl (cI, 48, .inl f)), (ar, .inr (1, [.ref rc, .int (nI ((low (lossN st li M) 0 M M.length).length)), .int (nI li), .int ye, .int br])), (rc, .inl (cI, 48, .inl u))]) (st' := fun u => [.int (nI (M.length - (low (lossN st li M) 0 M M.length).length))]) (fun _ => rfl) (fun _ => rfl) (fun _ => rfl) (fun u74 hu74 => ?_)
            obtain ⟨g74, rfl⟩ : ∃ z, z = u74 := ⟨_, rfl⟩
            have hg74 := hu74
            have hg74 : hs g74 (low (lossN st li M) 0 M M.length) := hg74
            show XX K [(x, .inr (4, [.ref ax, .ref aw, .ref an, .ref aa, .ref a0, .ref a1, .int (nI sk), .int (nI ll), .long sd, .ref ar, .ref aq, .ref al, .ref am])), (aw, .inr (3, [.ref wd, .ref wt, .int (nI W)])), (wt, .inl (cI, 4, .inl tf)), (an, .inr (1, [.ref nc, .int (nI L.length), .int (nI li), .int ye, .int br])), (nc, .inl (cI, 48, .inl f)), (ar, .inr (1, [.ref rc, .int (nI ((low (lossN st li M) 0 M M.length).length)), .int (nI li), .int ye, .int br])), (rc, .inl (cI, 48, .inl g74))] [(2, .int (nI ((low (lossN st li M) 0 M p).length))), (3, .int (nI k)), (0, .ref x), (1, .int (nI j))] 77 [.int (nI (M.length - (low (lossN st li M) 0 M M.length).length))]
            refine x_pop ok dX4_songLasts_77 rfl ?_
            refine x_iinc ok (v := nI (k + 1)) (lv' := [(3, .int (nI (k + 1))), (2, .int (nI ((low (lossN st li M) 0 M p).length))), (0, .ref x), (1, .int (nI j))]) dX4_songLasts_78 1 rfl (nN (nI_inc _ 1) (by omega)) (by decide) rfl ?_
            refine x_goto ok 28 dX4_songLasts_81 (by decide) ?_
            exact ih_28 (k + 1) ((low (lossN st li M) 0 M p).length) (low (lossN st li M) 0 M M.length) g74 (by omega) (by first | assumption | omega) (by first | assumption | omega) (hll) (low_ok (ag := 0) hvm _ (Nat.le_refl _)) (hg74) (by rw [← ha, show 99 - k = (99 - (k + 1)) + 1 by omega, lastF, if_pos yl])
          · skip
            have nl : ¬ (lossN st li M) p < sg M p 2 := fun q => c_54 ((sub_pos' (by have := (hbM p hp).1; omega) (by have := (hbM p hp).2; omega)).mpr q)
            refine x_iload_n ok 0 dX4_songLasts_57 rfl rfl ?_
            exact ret (M.length, li, ye, br, g42) _ _ _ (nI k) dX4_songLasts_58 (rfl) (by rw [songLastsI, if_pos c_8, ej, ← ha, show 99 - k = (99 - (k + 1)) + 1 by omega, lastF, if_neg nl]) (trivial)
    exact L_28 _ 1 j L g21 (Nat.lt_succ_self _) (by first | assumption | omega) (by first | assumption | omega) (hj) (hv) (hg21) (rfl)
  · skip
    refine x_iconst ok ((-1)) dX4_songLasts_11 (by decide) ?_
    exact ret (rn, rl, ry, rb, rf) _ _ _ ((-1)) dX4_songLasts_12 (rfl) (by rw [songLastsI, if_neg c_8]) (trivial)

set_option maxHeartbeats 4000000 in
set_option maxRecDepth 100000 in
theorem p_bestLid (l : Launch) (D : va_G) (cI cZ cS : ClassId) (x : Nat) (ax : Nat) (aw : Nat) (an : Nat) (aa : Nat) (a0 : Nat) (a1 : Nat) (sk : Nat) (ll : Nat) (ar : Nat) (aq : Nat) (al : Nat) (am : Nat) (sd : Int64) (wd : Nat) (wt : Nat) (W : Nat) (df : Nat → Int32) (tf : Nat → Int32) (dp : Nat → Nat) (st : Nat → Nat) (A : Nat) (nc : Nat) (L : List Sg) (li : Nat) (ye : Int32) (br : Int32) (f : Nat → Int32) (rc : Nat) (rn : Nat) (rl : Nat) (ry : Int32) (rb : Int32) (rf : Nat → Int32) (z : Int32) (hf : hs f L) (hv : okL W A L) (hW : W ≤ 4) (hst : ∀ w, w < W → tf w = nI (st w)) (hst2 : ∀ w, w < W → st w ≤ 2) (hl16 : li < 16) : CO l D (TY cI cZ cS) yX4_bestLid cX4_bestLid 6 (some .int) 6 138 0 0 [.ref x, .int z] [(x, .inr (4, [.ref ax, .ref aw, .ref an, .ref aa, .ref a0, .ref a1, .int (nI sk), .int (nI ll), .long sd, .ref ar, .ref aq, .ref al, .ref am])), (aw, .inr (3, [.ref wd, .ref wt, .int (nI W)])), (wt, .inl (cI, 4, .inl tf)), (an, .inr (1, [.ref nc, .int (nI L.length), .int (nI li), .int ye, .int br])), (nc, .inl (cI, 48, .inl f)), (ar, .inr (1, [.ref rc, .int (nI rn), .int (nI rl), .int ry, .int rb])), (rc, .inl (cI, 48, .inl rf))] (σ := (Nat) × (Nat) × (Int32) × (Int32) × (Nat → Int32)) (fun u => some (.int (bestLidI st W li ll L z))) (fun u => [(x, .inr (4, [.ref ax, .ref aw, .ref an, .ref aa, .ref a0, .ref a1, .int (nI sk), .int (nI ll), .long sd, .ref ar, .ref aq, .ref al, .ref am])), (aw, .inr (3, [.ref wd, .ref wt, .int (nI W)])), (wt, .inl (cI, 4, .inl tf)), (an, .inr (1, [.ref nc, .int (nI L.length), .int (nI li), .int ye, .int br])), (nc, .inl (cI, 48, .inl f)), (ar, .inr (1, [.ref rc, .int (nI u.1), .int (nI u.2.1), .int u.2.2.1, .int u.2.2.2.1])), (rc, .inl (cI, 48, .inl u.2.2.2.2))]) (fun u => True) := by
  refine CO_mki (by decide +kernel) (Nat.le_of_ble_eq_true rfl) (fun K ok ret => ?_)
  show XX K [(x, .inr (4, [.ref ax, .ref aw, .ref an, .ref aa, .ref a0, .ref a1, .int (nI sk), .int (nI ll), .long sd, .ref ar, .ref aq, .ref al, .ref am])), (aw, .inr (3, [.ref wd, .ref wt, .int (nI W)])), (wt, .inl (cI, 4, .inl tf)), (an, .inr (1, [.ref nc, .int (nI L.length), .int (nI li), .int ye, .int br])), (nc, .inl (cI, 48, .inl f)), (ar, .inr (1, [.ref rc, .int (nI rn), .int (nI rl), .int ry, .int rb])), (rc, .inl (cI, 48, .inl rf))] [(0, .ref x), (1, .int z)] 0 []
  have h8 := hv.1
  refine x_iload_n ok 1 dX4_bestLid_0 rfl rfl ?_
  refine x_iconst ok (nI 1) dX4_bestLid_1 (by decide) ?_
  refine x_bipush ok (nI 9) dX4_bestLid_2 (by decide) ?_
  refine qX4_128 ok (As := [.int z, .int (nI 1), .int (nI 9)]) (st := []) (c4_isWithin l D cI cZ cS z (nI 1) (nI 9) ) rfl (Nat.le_of_ble_eq_true rfl) (Nat.le_of_ble_eq_true rfl) (Nat.le_of_ble_eq_true rfl) dX4_bestLid_4 [] (by decide) rfl (ws' := fun u => [(x, .inr (4, [.ref ax, .ref aw, .ref an, .ref aa, .ref a0, .ref a1, .int (nI sk), .int (nI ll), .long sd, .ref ar, .ref aq, .ref al, .ref am])), (aw, .inr (3, [.ref wd, .ref wt, .int (nI W)])), (wt, .inl (cI, 4, .inl tf)), (an, .inr (1, [.ref nc, .int (nI L.length), .int (nI li), .int ye, .int br])), (nc, .inl (cI, 48, .inl f)), (ar, .inr (1, [.ref rc, .int (nI rn), .int (nI rl), .int ry, .int rb])), (rc, .inl (cI, 48, .inl rf))]) (st' := fun u => [.int (bz (inB z (nI 1) (nI 9)))]) (fun _ => rfl) (fun _ => rfl) (fun _ => rfl) (fun _ _ => ?_)
  refine x_if_neB ok 13 dX4_bestLid_7 (by decide) (fun c_7 => ?_) (fun c_7 => ?_)
  · skip
    obtain ⟨j, hj0, hj, e_z⟩ := inB_t (by omega) (by omega) c_7
    subst e_z
    have ej := cl_n (show j < 2 ^ 31 by omega)
    have hg6 : ∀ w, (fun w => llN ll (yearsL st (li ||| 2 ^ w) j L)) w ≤ 6 := fun w => ll_le (years_ok hv j)
    have hb6 := blF_le (li := li) (ll_le (ll := ll) (years_ok (st := st) (li := li) hv j)) hg6
    refine x_bipush ok ((-9)) dX4_bestLid_13 (by decide) ?_
    refine x_eq (st' := [.int ((blF (fun w => llN ll (yearsL st (li ||| 2 ^ w) j L)) li (llN ll (yearsL st li j L)) 0).1)]) rfl rfl (rfl) ?_
    refine x_istore_n ok (lv' := [(2, .int ((blF (fun w => llN ll (yearsL st (li ||| 2 ^ w) j L)) li (llN ll (yearsL st li j L)) 0).1)), (0, .ref x), (1, .int (nI j))]) dX4_bestLid_15 rfl (by decide) rfl ?_
    refine x_aload_n ok 1 dX4_bestLid_16 rfl rfl ?_
    refine x_iload_n ok 2 dX4_bestLid_17 rfl rfl ?_
    refine x_aload_n ok 1 dX4_bestLid_18 rfl rfl ?_
    refine gX4_26 ok dX4_bestLid_19 0 rfl rfl ?_
    refine gX4_109 ok dX4_bestLid_22 3 rfl rfl ?_
    refine qX4_216 ok (As := [.int (nI j), .int (nI li)]) (st := []) 0 rfl (c4_landLawsBehind l D cI cZ cS x ax aw an aa a0 a1 sk ll ar aq al am sd wd wt W df tf dp st A nc L li ye br f rc rn rl ry rb rf j li (by first | assumption | omega) (by first | assumption | omega) (by first | assumption | omega) (by first | assumption | omega) (by first | assumption | omega) (by first | assumption | omega) (by first | assumption | omega)) rfl (Nat.le_of_ble_eq_true rfl) (Nat.le_of_ble_eq_true rfl) (Nat.le_of_ble_eq_true rfl) dX4_bestLid_25 [0, 1, 2, 3, 4, 5, 6] (by decide) rfl (ws' := fun u => [(x, .inr (4, [.ref ax, .ref aw, .ref an, .ref aa, .ref a0, .ref a1, .int (nI sk), .int (nI ll), .long sd, .ref ar, .ref aq, .ref al, .ref am])), (aw, .inr (3, [.ref wd, .ref wt, .int (nI W)])), (wt, .inl (cI, 4, .inl tf)), (an, .inr (1, [.ref nc, .int (nI L.length), .int (nI li), .int ye, .int br])), (nc, .inl (cI, 48, .inl f)), (ar, .inr (1, [.ref rc, .int (nI ((yearsL st li j L).length)), .int (nI li), .int u.2, .int br])), (rc, .inl (cI, 48, .inl u.1))]) (st' := fun u => [.int (nI (llN ll (yearsL st li j L)))]) (fun _ => rfl) (fun _ => rfl) (fun _ => rfl) (fun u25 hu25 => ?_)
    obtain ⟨g25, y25⟩ := u25
    show XX K [(x, .inr (4, [.ref ax, .ref aw, .ref an, .ref aa, .ref a0, .ref a1, .int (nI sk), .int (nI ll), .long sd, .ref ar, .ref aq, .ref al, .ref am])), (aw, .inr (3, [.ref wd, .ref wt, .int (nI W)])), (wt, .inl (cI, 4, .inl tf)), (an, .inr (1, [.ref nc, .int (nI L.length), .int (nI li), .int ye, .int br])), (nc, .inl (cI, 48, .inl f)), (ar, .inr (1, [.ref rc, .int (nI ((yearsL st li j L).length)), .int (nI li), .int y25, .int br])), (rc, .inl (cI, 48, .inl g25))] [(2, .int ((blF (fun w => llN ll (yearsL st (li ||| 2 ^ w) j L)) li (llN ll (yearsL st li j L)) 0).1)), (0, .ref x), (1, .int (nI j))] 28 [.int (nI (llN ll (yearsL st li j L)))]
    refine x_eq (st' := [.int (nI ((blF (fun w => llN ll (yearsL st (li ||| 2 ^ w) j L)) li (llN ll (yearsL st li j L)) 0).2))]) rfl rfl (rfl) ?_
    refine x_istore_n ok (lv' := [(3, .int (nI ((blF (fun w => llN ll (yearsL st (li ||| 2 ^ w) j L)) li (llN ll (yearsL st li j L)) 0).2))), (2, .int ((blF (fun w => llN ll (yearsL st (li ||| 2 ^ w) j L)) li (llN ll (yearsL st li j L)) 0).1)), (0, .ref x), (1, .int (nI j))]) dX4_bestLid_28 rfl (by decide) rfl ?_
    refine x_iconst ok (nI 0) dX4_bestLid_29 (by decide) ?_
    refine x_istore ok (lv' := [(4, .int (nI 0)), (3, .int (nI ((blF (fun w => llN ll (yearsL st (li ||| 2 ^ w) j L)) li (llN ll (yearsL st li j L)) 0).2))), (2, .int ((blF (fun w => llN ll (yearsL st (li ||| 2 ^ w) j L)) li (llN ll (yearsL st li j L)) 0).1)), (0, .ref x), (1, .int (nI j))]) dX4_bestLid_30 (by decide) rfl ?_
    have L_32 : ∀ (n_32 : Nat) (i : Nat) (n9 : Nat) (l9 : Nat) (y9 : Int32) (b9 : Int32) (f9 : Nat → Int32), W - i < n_32 → (i ≤ W) → XX K [(x, .inr (4, [.ref ax, .ref aw, .ref an, .ref aa, .ref a0, .ref a1, .int (nI sk), .int (nI ll), .long sd, .ref ar, .ref aq, .ref al, .ref am])), (aw, .inr (3, [.ref wd, .ref wt, .int (nI W)])), (wt, .inl (cI, 4, .inl tf)), (an, .inr (1, [.ref nc, .int (nI L.length), .int (nI li), .int ye, .int br])), (nc, .inl (cI, 48, .inl f)), (ar, .inr (1, [.ref rc, .int (nI n9), .int (nI l9), .int y9, .int b9])), (rc, .inl (cI, 48, .inl f9))] [(4, .int (nI i)), (3, .int (nI ((blF (fun w => llN ll (yearsL st (li ||| 2 ^ w) j L)) li (llN ll (yearsL st li j L)) i).2))), (2, .int ((blF (fun w => llN ll (yearsL st (li ||| 2 ^ w) j L)) li (llN ll (yearsL st li j L)) i).1)), (0, .ref x), (1, .int (nI j))] 32 [] := by
      intro n_32
      induction n_32 with
      | zero => intro i n9 l9 y9 b9 f9 hm; exact absurd hm (Nat.not_lt_zero _)
      | succ n_32 ih_32 =>
        intro i n9 l9 y9 b9 f9 hm_32 hi
        refine x_iload ok 0 dX4_bestLid_32 rfl ?_
        refine x_aload_n ok 3 dX4_bestLid_34 rfl rfl ?_
        refine gX4_19 ok dX4_bestLid_35 0 rfl rfl ?_
        refine gX4_68 ok dX4_bestLid_38 1 rfl rfl ?_
        refine x_icmp_geN ok 97 dX4_bestLid_41 (by decide) (by omega) (by omega) (fun c_41 => ?_) (fun c_41 => ?_)
        · skip
          have e_i : W = i := by omega
          subst e_i
          refine x_iload_n ok 2 dX4_bestLid_97 rfl rfl ?_
          exact ret (n9, l9, y9, b9, f9) _ _ _ (((blF (fun w => llN ll (yearsL st (li ||| 2 ^ w) j L)) li (llN ll (yearsL st li j L)) W).1)) dX4_bestLid_98 (rfl) (by rw [bestLidI, if_pos c_7, ej]) (trivial)
        · skip
          have hbi := hb6 i
          have ho16 := or_two (w := i) hl16 (by omega)
          have hgi := ll_le (ll := ll) (years_ok (st := st) (li := li ||| 2 ^ i) hv j)
          refine x_aload_n ok 3 dX4_bestLid_44 rfl rfl ?_
          refine gX4_26 ok dX4_bestLid_45 0 rfl rfl ?_
          refine x_iload ok 0 dX4_bestLid_48 rfl ?_
          refine qX4_121 ok (As := [.int (nI i)]) (st := []) 3 rfl (c1_hasLid l D cI cZ cS an nc L.length li ye br i (by first | assumption | omega) (by first | assumption | omega)) rfl (Nat.le_of_ble_eq_true rfl) (Nat.le_of_ble_eq_true rfl) (Nat.le_of_ble_eq_true rfl) dX4_bestLid_50 [3] (by decide) rfl (ws' := fun u => [(x, .inr (4, [.ref ax, .ref aw, .ref an, .ref aa, .ref a0, .ref a1, .int (nI sk), .int (nI ll), .long sd, .ref ar, .ref aq, .ref al, .ref am])), (aw, .inr (3, [.ref wd, .ref wt, .int (nI W)])), (wt, .inl (cI, 4, .inl tf)), (an, .inr (1, [.ref nc, .int (nI L.length), .int (nI li), .int ye, .int br])), (nc, .inl (cI, 48, .inl f)), (ar, .inr (1, [.ref rc, .int (nI n9), .int (nI l9), .int y9, .int b9])), (rc, .inl (cI, 48, .inl f9))]) (st' := fun u => [.int (bz (li.testBit i))]) (fun _ => rfl) (fun _ => rfl) (fun _ => rfl) (fun _ _ => ?_)
          refine x_if_eqB ok 60 dX4_bestLid_53 (by decide) (fun c_53 => ?_) (fun c_53 => ?_)
          · skip
            refine x_aload_n ok 3 dX4_bestLid_60 rfl rfl ?_
            refine x_iload_n ok 4 dX4_bestLid_61 rfl rfl ?_
            refine x_aload_n ok 3 dX4_bestLid_62 rfl rfl ?_
            refine gX4_26 ok dX4_bestLid_63 0 rfl rfl ?_
            refine gX4_109 ok dX4_bestLid_66 3 rfl rfl ?_
            refine x_iconst ok (nI 1) dX4_bestLid_69 (by decide) ?_
            refine x_iload ok 0 dX4_bestLid_70 rfl ?_
            refine x_ishl ok (nI (2 ^ i)) dX4_bestLid_72 (shl1 i (by omega)) ?_
            refine x_ior ok (nI (li ||| 2 ^ i)) dX4_bestLid_73 (fa_or _ _) ?_
            refine qX4_216 ok (As := [.int (nI j), .int (nI (li ||| 2 ^ i))]) (st := []) 0 rfl (c4_landLawsBehind l D cI cZ cS x ax aw an aa a0 a1 sk ll ar aq al am sd wd wt W df tf dp st A nc L li ye br f rc n9 l9 y9 b9 f9 j (li ||| 2 ^ i) (by first | assumption | omega) (by first | assumption | omega) (by first | assumption | omega) (by first | assumption | omega) (by first | assumption | omega) (by first | assumption | omega) (by first | assumption | omega)) rfl (Nat.le_of_ble_eq_true rfl) (Nat.le_of_ble_eq_true rfl) (Nat.le_of_ble_eq_true rfl) dX4_bestLid_74 [0, 1, 2, 3, 4, 5, 6] (by decide) rfl (ws' := fun u => [(x, .inr (4, [.ref ax, .ref aw, .ref an, .ref aa, .ref a0, .ref a1, .int (nI sk), .int (nI ll), .long sd, .ref ar, .ref aq, .ref al, .ref am])), (aw, .inr (3, [.ref wd, .ref wt, .int (nI W)])), (wt, .inl (cI, 4, .inl tf)), (an, .inr (1, [.ref nc, .int (nI L.length), .int (nI li), .int ye, .int br])), (nc, .inl (cI, 48, .inl f)), (ar, .inr (1, [.ref rc, .int (nI ((yearsL st (li ||| 2 ^ i) j L).length)), .int (nI (li ||| 2 ^ i)), .int u.2, .int br])), (rc, .inl (cI, 48, .inl u.1))]) (st' := fun u => [.int (nI (llN ll (yearsL st (li ||| 2 ^ i) j L)))]) (fun _ => rfl) (fun _ => rfl) (fun _ => rfl) (fun u74 hu74 => ?_)
            obtain ⟨g74, y74⟩ := u74
            show XX K [(x, .inr (4, [.ref ax, .ref aw, .ref an, .ref aa, .ref a0, .ref a1, .int (nI sk), .int (nI ll), .long sd, .ref ar, .ref aq, .ref al, .ref am])), (aw, .inr (3, [.ref wd, .ref wt, .int (nI W)])), (wt, .inl (cI, 4, .inl tf)), (an, .inr (1, [.ref nc, .int (nI L.length), .int (nI li), .int ye, .int br])), (nc, .inl (cI, 48, .inl f)), (ar, .inr (1, [.ref rc, .int (nI ((yearsL st (li ||| 2 ^ i) j L).length)), .int (nI (li ||| 2 ^ i)), .int y74, .int br])), (rc, .inl (cI, 48, .inl g74))] [(4, .int (nI i)), (3, .int (nI ((blF (fun w => llN ll (yearsL st (li ||| 2 ^ w) j L)) li (llN ll (yearsL st li j L)) i).2))), (2, .int ((blF (fun w => llN ll (yearsL st (li ||| 2 ^ w) j L)) li (llN ll (yearsL st li j L)) i).1)), (0, .ref x), (1, .int (nI j))] 77 [.int (nI (llN ll (yearsL st (li ||| 2 ^ i) j L)))]
            refine x_istore ok (lv' := [(5, .int (nI (llN ll (yearsL st (li ||| 2 ^ i) j L)))), (4, .int (nI i)), (3, .int (nI ((blF (fun w => llN ll (yearsL st (li ||| 2 ^ w) j L)) li (llN ll (yearsL st li j L)) i).2))), (2, .int ((blF (fun w => llN ll (yearsL st (li ||| 2 ^ w) j L)) li (llN ll (yearsL st li j L)) i).1)), (0, .ref x), (1, .int (nI j))]) dX4_bestLid_77 (by decide) rfl ?_
            refine x_iload ok 0 dX4_bestLid_79 rfl ?_
            refine x_iload_n ok 2 dX4_bestLid_81 rfl rfl ?_
            refine x_icmp_leN ok 91 dX4_bestLid_82 (by decide) (by omega) (by omega) (fun c_82 => ?_) (fun c_82 => ?_)
            · skip
              refine x_iinc ok (v := nI (i + 1)) (lv' := [(4, .int (nI (i + 1))), (5, .int (nI (llN ll (yearsL st (li ||| 2 ^ i) j L)))), (3, .int (nI ((blF (fun w => llN ll (yearsL st (li ||| 2 ^ w) j L)) li (llN ll (yearsL st li j L)) i).2))), (2, .int ((blF (fun w => llN ll (yearsL st (li ||| 2 ^ w) j L)) li (llN ll (yearsL st li j L)) i).1)), (0, .ref x), (1, .int (nI j))]) dX4_bestLid_91 1 rfl (nN (nI_inc _ 1) (by omega)) (by decide) rfl ?_
              refine x_goto ok 32 dX4_bestLid_94 (by decide) ?_
              refine x_loc ok [0, 2, 3, 4, 5] (lv' := [(4, .int (nI (i + 1))), (3, .int (nI ((blF (fun w => llN ll (yearsL st (li ||| 2 ^ w) j L)) li (llN ll (yearsL st li j L)) i).2))), (2, .int ((blF (fun w => llN ll (yearsL st (li ||| 2 ^ w) j L)) li (llN ll (yearsL st li j L)) i).1)), (0, .ref x), (1, .int (nI j))]) rfl ?_
              have em : blF (fun w => llN ll (yearsL st (li ||| 2 ^ w) j L)) li (llN ll (yearsL st li j L)) (i + 1) = blF (fun w => llN ll (yearsL st (li ||| 2 ^ w) j L)) li (llN ll (yearsL st li j L)) i := by simp only [blF]; rw [if_neg c_53, if_neg (by omega)]
              refine x_eq (lv' := [(4, .int (nI (i + 1))), (3, .int (nI ((blF (fun w => llN ll (yearsL st (li ||| 2 ^ w) j L)) li (llN ll (yearsL st li j L)) (i + 1)).2))), (2, .int ((blF (fun w => llN ll (yearsL st (li ||| 2 ^ w) j L)) li (llN ll (yearsL st li j L)) (i + 1)).1)), (0, .ref x), (1, .int (nI j))]) rfl (by rw [em]) rfl ?_
              exact ih_32 (i + 1) ((yearsL st (li ||| 2 ^ i) j L).length) (li ||| 2 ^ i) y74 br g74 (by omega) (by first | assumption | omega)
            · skip
              refine x_iload ok 0 dX4_bestLid_85 rfl ?_
              refine x_istore_n ok (lv' := [(3, .int (nI (llN ll (yearsL st (li ||| 2 ^ i) j L)))), (5, .int (nI (llN ll (yearsL st (li ||| 2 ^ i) j L)))), (4, .int (nI i)), (2, .int ((blF (fun w => llN ll (yearsL st (li ||| 2 ^ w) j L)) li (llN ll (yearsL st li j L)) i).1)), (0, .ref x), (1, .int (nI j))]) dX4_bestLid_87 rfl (by decide) rfl ?_
              refine x_iload ok 2 dX4_bestLid_88 rfl ?_
              refine x_istore_n ok (lv' := [(2, .int (nI i)), (3, .int (nI (llN ll (yearsL st (li ||| 2 ^ i) j L)))), (5, .int (nI (llN ll (yearsL st (li ||| 2 ^ i) j L)))), (4, .int (nI i)), (0, .ref x), (1, .int (nI j))]) dX4_bestLid_90 rfl (by decide) rfl ?_
              refine x_iinc ok (v := nI (i + 1)) (lv' := [(4, .int (nI (i + 1))), (2, .int (nI i)), (3, .int (nI (llN ll (yearsL st (li ||| 2 ^ i) j L)))), (5, .int (nI (llN ll (yearsL st (li ||| 2 ^ i) j L)))), (0, .ref x), (1, .int (nI j))]) dX4_bestLid_91 3 rfl (nN (nI_inc _ 1) (by omega)) (by decide) rfl ?_
              refine x_goto ok 32 dX4_bestLid_94 (by decide) ?_
              refine x_loc ok [0, 2, 1, 4, 5] (lv' := [(4, .int (nI (i + 1))), (3, .int (nI (llN ll (yearsL st (li ||| 2 ^ i) j L)))), (2, .int (nI i)), (0, .ref x), (1, .int (nI j))]) rfl ?_
              have em : blF (fun w => llN ll (yearsL st (li ||| 2 ^ w) j L)) li (llN ll (yearsL st li j L)) (i + 1) = (nI i, llN ll (yearsL st (li ||| 2 ^ i) j L)) := by simp only [blF]; rw [if_neg c_53, if_pos (by omega)]
              refine x_eq (lv' := [(4, .int (nI (i + 1))), (3, .int (nI ((blF (fun w => llN ll (yearsL st (li ||| 2 ^ w) j L)) li (llN ll (yearsL st li j L)) (i + 1)).2))), (2, .int ((blF (fun w => llN ll (yearsL st (li ||| 2 ^ w) j L)) li (llN ll (yearsL st li j L)) (i + 1)).1)), (0, .ref x), (1, .int (nI j))]) rfl (by rw [em]) rfl ?_
              exact ih_32 (i + 1) ((yearsL st (li ||| 2 ^ i) j L).length) (li ||| 2 ^ i) y74 br g74 (by omega) (by first | assumption | omega)
          · skip
            refine x_iconst ok (nI 0) dX4_bestLid_56 (by decide) ?_
            refine x_goto ok 77 dX4_bestLid_57 (by decide) ?_
            refine x_istore ok (lv' := [(5, .int (nI 0)), (4, .int (nI i)), (3, .int (nI ((blF (fun w => llN ll (yearsL st (li ||| 2 ^ w) j L)) li (llN ll (yearsL st li j L)) i).2))), (2, .int ((blF (fun w => llN ll (yearsL st (li ||| 2 ^ w) j L)) li (llN ll (yearsL st li j L)) i).1)), (0, .ref x), (1, .int (nI j))]) dX4_bestLid_77 (by decide) rfl ?_
            refine x_iload ok 0 dX4_bestLid_79 rfl ?_
            refine x_iload_n ok 2 dX4_bestLid_81 rfl rfl ?_
            refine x_icmp_leN ok 91 dX4_bestLid_82 (by decide) (by omega) (by omega) (fun c_82 => ?_) (fun c_82 => ?_)
            · skip
              refine x_iinc ok (v := nI (i + 1)) (lv' := [(4, .int (nI (i + 1))), (5, .int (nI 0)), (3, .int (nI ((blF (fun w => llN ll (yearsL st (li ||| 2 ^ w) j L)) li (llN ll (yearsL st li j L)) i).2))), (2, .int ((blF (fun w => llN ll (yearsL st (li ||| 2 ^ w) j L)) li (llN ll (yearsL st li j L)) i).1)), (0, .ref x), (1, .int (nI j))]) dX4_bestLid_91 1 rfl (nN (nI_inc _ 1) (by omega)) (by decide) rfl ?_
              refine x_goto ok 32 dX4_bestLid_94 (by decide) ?_
              refine x_loc ok [0, 2, 3, 4, 5] (lv' := [(4, .int (nI (i + 1))), (3, .int (nI ((blF (fun w => llN ll (yearsL st (li ||| 2 ^ w) j L)) li (llN ll (yearsL st li j L)) i).2))), (2, .int ((blF (fun w => llN ll (yearsL st (li ||| 2 ^ w) j L)) li (llN ll (yearsL st li j L)) i).1)), (0, .ref x), (1, .int (nI j))]) rfl ?_
              have em : blF (fun w => llN ll (yearsL st (li ||| 2 ^ w) j L)) li (llN ll (yearsL st li j L)) (i + 1) = blF (fun w => llN ll (yearsL st (li ||| 2 ^ w) j L)) li (llN ll (yearsL st li j L)) i := by simp only [blF]; rw [if_pos c_53, if_neg (by omega)]
              refine x_eq (lv' := [(4, .int (nI (i + 1))), (3, .int (nI ((blF (fun w => llN ll (yearsL st (li ||| 2 ^ w) j L)) li (llN ll (yearsL st li j L)) (i + 1)).2))), (2, .int ((blF (fun w => llN ll (yearsL st (li ||| 2 ^ w) j L)) li (llN ll (yearsL st li j L)) (i + 1)).1)), (0, .ref x), (1, .int (nI j))]) rfl (by rw [em]) rfl ?_
              exact ih_32 (i + 1) n9 l9 y9 b9 f9 (by omega) (by first | assumption | omega)
            · skip
              refine x_iload ok 0 dX4_bestLid_85 rfl ?_
              refine x_istore_n ok (lv' := [(3, .int (nI 0)), (5, .int (nI 0)), (4, .int (nI i)), (2, .int ((blF (fun w => llN ll (yearsL st (li ||| 2 ^ w) j L)) li (llN ll (yearsL st li j L)) i).1)), (0, .ref x), (1, .int (nI j))]) dX4_bestLid_87 rfl (by decide) rfl ?_
              refine x_iload ok 2 dX4_bestLid_88 rfl ?_
              refine x_istore_n ok (lv' := [(2, .int (nI i)), (3, .int (nI 0)), (5, .int (nI 0)), (4, .int (nI i)), (0, .ref x), (1, .int (nI j))]) dX4_bestLid_90 rfl (by decide) rfl ?_
              refine x_iinc ok (v := nI (i + 1)) (lv' := [(4, .int (nI (i + 1))), (2, .int (nI i)), (3, .int (nI 0)), (5, .int (nI 0)), (0, .ref x), (1, .int (nI j))]) dX4_bestLid_91 3 rfl (nN (nI_inc _ 1) (by omega)) (by decide) rfl ?_
              refine x_goto ok 32 dX4_bestLid_94 (by decide) ?_
              refine x_loc ok [0, 2, 1, 4, 5] (lv' := [(4, .int (nI (i + 1))), (3, .int (nI 0)), (2, .int (nI i)), (0, .ref x), (1, .int (nI j))]) rfl ?_
              have em : blF (fun w => llN ll (yearsL st (li ||| 2 ^ w) j L)) li (llN ll (yearsL st li j L)) (i + 1) = (nI i, 0) := by simp only [blF]; rw [if_pos c_53, if_pos (by omega)]
              refine x_eq (lv' := [(4, .int (nI (i + 1))), (3, .int (nI ((blF (fun w => llN ll (yearsL st (li ||| 2 ^ w) j L)) li (llN ll (yearsL st li j L)) (i + 1)).2))), (2, .int ((blF (fun w => llN ll (yearsL st (li ||| 2 ^ w) j L)) li (llN ll (yearsL st li j L)) (i + 1)).1)), (0, .ref x), (1, .int (nI j))]) rfl (by rw [em]) rfl ?_
              exact ih_32 (i + 1) n9 l9 y9 b9 f9 (by omega) (by first | assumption | omega)
    exact L_32 _ 0 ((yearsL st li j L).length) li y25 br g25 (Nat.lt_succ_self _) (by first | assumption | omega)
  · skip
    refine x_bipush ok ((-2)) dX4_bestLid_10 (by decide) ?_
    exact ret (rn, rl, ry, rb, rf) _ _ _ ((-2)) dX4_bestLid_12 (rfl) (by rw [bestLidI, if_neg c_7]) (trivial)

set_option maxHeartbeats 4000000 in
set_option maxRecDepth 100000 in
theorem p_mostPitch (l : Launch) (D : va_G) (cI cZ cS : ClassId) (x : Nat) (ax : Nat) (aw : Nat) (an : Nat) (aa : Nat) (a0 : Nat) (a1 : Nat) (sk : Nat) (ll : Nat) (ar : Nat) (aq : Nat) (al : Nat) (am : Nat) (sd : Int64) (nc : Nat) (L : List Sg) (li : Nat) (ye : Int32) (br : Int32) (f : Nat → Int32) (W : Nat) (A : Nat) (z : Int32) (hf : hs f L) (hv : okL W A L) : CO l D (TY cI cZ cS) yX4_mostPitch cX4_mostPitch 6 (some .int) 2 47 0 0 [.ref x, .int z] [(x, .inr (4, [.ref ax, .ref aw, .ref an, .ref aa, .ref a0, .ref a1, .int (nI sk), .int (nI ll), .long sd, .ref ar, .ref aq, .ref al, .ref am])), (an, .inr (1, [.ref nc, .int (nI L.length), .int (nI li), .int ye, .int br])), (nc, .inl (cI, 48, .inl f))] (σ := Unit) (fun u => some (.int (mostPitchI L z))) (fun u => [(x, .inr (4, [.ref ax, .ref aw, .ref an, .ref aa, .ref a0, .ref a1, .int (nI sk), .int (nI ll), .long sd, .ref ar, .ref aq, .ref al, .ref am])), (an, .inr (1, [.ref nc, .int (nI L.length), .int (nI li), .int ye, .int br])), (nc, .inl (cI, 48, .inl f))]) (fun u => True) := by
  refine CO_mki (by decide +kernel) (Nat.le_of_ble_eq_true rfl) (fun K ok ret => ?_)
  show XX K [(x, .inr (4, [.ref ax, .ref aw, .ref an, .ref aa, .ref a0, .ref a1, .int (nI sk), .int (nI ll), .long sd, .ref ar, .ref aq, .ref al, .ref am])), (an, .inr (1, [.ref nc, .int (nI L.length), .int (nI li), .int ye, .int br])), (nc, .inl (cI, 48, .inl f))] [(0, .ref x), (1, .int z)] 0 []
  have h8 := hv.1
  refine x_iload_n ok 1 dX4_mostPitch_0 rfl rfl ?_
  refine x_iconst ok (nI 0) dX4_mostPitch_1 (by decide) ?_
  refine x_iconst ok (nI 5) dX4_mostPitch_2 (by decide) ?_
  refine qX4_128 ok (As := [.int z, .int (nI 0), .int (nI 5)]) (st := []) (c4_isWithin l D cI cZ cS z (nI 0) (nI 5) ) rfl (Nat.le_of_ble_eq_true rfl) (Nat.le_of_ble_eq_true rfl) (Nat.le_of_ble_eq_true rfl) dX4_mostPitch_3 [] (by decide) rfl (ws' := fun u => [(x, .inr (4, [.ref ax, .ref aw, .ref an, .ref aa, .ref a0, .ref a1, .int (nI sk), .int (nI ll), .long sd, .ref ar, .ref aq, .ref al, .ref am])), (an, .inr (1, [.ref nc, .int (nI L.length), .int (nI li), .int ye, .int br])), (nc, .inl (cI, 48, .inl f))]) (st' := fun u => [.int (bz (inB z (nI 0) (nI 5)))]) (fun _ => rfl) (fun _ => rfl) (fun _ => rfl) (fun _ _ => ?_)
  refine x_if_neB ok 12 dX4_mostPitch_6 (by decide) (fun c_6 => ?_) (fun c_6 => ?_)
  · skip
    obtain ⟨j, hj0, hj, e_z⟩ := inB_t (by omega) (by omega) c_6
    subst e_z
    have ej := cl_n (show j < 2 ^ 31 by omega)
    refine x_bipush ok ((-9)) dX4_mostPitch_12 (by decide) ?_
    refine x_eq (st' := [.int ((mpF L j 0).1)]) rfl rfl (rfl) ?_
    refine x_istore_n ok (lv' := [(2, .int ((mpF L j 0).1)), (0, .ref x), (1, .int (nI j))]) dX4_mostPitch_14 rfl (by decide) rfl ?_
    refine x_iconst ok (nI 0) dX4_mostPitch_15 (by decide) ?_
    refine x_eq (st' := [.int (nI ((mpF L j 0).2))]) rfl rfl (rfl) ?_
    refine x_istore_n ok (lv' := [(3, .int (nI ((mpF L j 0).2))), (2, .int ((mpF L j 0).1)), (0, .ref x), (1, .int (nI j))]) dX4_mostPitch_16 rfl (by decide) rfl ?_
    refine x_iconst ok (nI 0) dX4_mostPitch_17 (by decide) ?_
    refine x_istore ok (lv' := [(4, .int (nI 0)), (3, .int (nI ((mpF L j 0).2))), (2, .int ((mpF L j 0).1)), (0, .ref x), (1, .int (nI j))]) dX4_mostPitch_18 (by decide) rfl ?_
    have L_20 : ∀ (n_20 : Nat) (i : Nat), 4 - i < n_20 → (i ≤ 4) → XX K [(x, .inr (4, [.ref ax, .ref aw, .ref an, .ref aa, .ref a0, .ref a1, .int (nI sk), .int (nI ll), .long sd, .ref ar, .ref aq, .ref al, .ref am])), (an, .inr (1, [.ref nc, .int (nI L.length), .int (nI li), .int ye, .int br])), (nc, .inl (cI, 48, .inl f))] [(4, .int (nI i)), (3, .int (nI ((mpF L j i).2))), (2, .int ((mpF L j i).1)), (0, .ref x), (1, .int (nI j))] 20 [] := by
      intro n_20
      induction n_20 with
      | zero => intro i hm; exact absurd hm (Nat.not_lt_zero _)
      | succ n_20 ih_20 =>
        intro i hm_20 hi
        refine x_iload ok 0 dX4_mostPitch_20 rfl ?_
        refine x_iconst ok (nI 4) dX4_mostPitch_22 (by decide) ?_
        refine x_icmp_geN ok 68 dX4_mostPitch_23 (by decide) (by omega) (by omega) (fun c_23 => ?_) (fun c_23 => ?_)
        · skip
          have e_i : 4 = i := by omega
          subst e_i
          refine x_iload_n ok 2 dX4_mostPitch_68 rfl rfl ?_
          exact ret () _ _ _ (((mpF L j 4).1)) dX4_mostPitch_69 (rfl) (by rw [mostPitchI, if_pos c_6, ej]) (trivial)
        · skip
          have hm8 := mpF_le (a := j) h8 i
          have hs8 := suN_le (g := copy1 L j i) (c := 1) (n := L.length) (fun q _ => by rw [copy1]; split <;> (try split) <;> omega)
          refine x_aload_n ok 3 dX4_mostPitch_26 rfl rfl ?_
          refine gX4_26 ok dX4_mostPitch_27 0 rfl rfl ?_
          refine x_iload_n ok 4 dX4_mostPitch_30 rfl rfl ?_
          refine x_iload ok 0 dX4_mostPitch_31 rfl ?_
          refine qX4_234 ok (As := [.int (nI j), .int (nI i)]) (st := []) 1 rfl (c1_copiesOf l D cI cZ cS an nc L li ye br f W A j i (by first | assumption | omega) (by first | assumption | omega) (by first | assumption | omega) (by first | assumption | omega)) rfl (Nat.le_of_ble_eq_true rfl) (Nat.le_of_ble_eq_true rfl) (Nat.le_of_ble_eq_true rfl) dX4_mostPitch_33 [1, 2] (by decide) rfl (ws' := fun u => [(x, .inr (4, [.ref ax, .ref aw, .ref an, .ref aa, .ref a0, .ref a1, .int (nI sk), .int (nI ll), .long sd, .ref ar, .ref aq, .ref al, .ref am])), (an, .inr (1, [.ref nc, .int (nI L.length), .int (nI li), .int ye, .int br])), (nc, .inl (cI, 48, .inl f))]) (st' := fun u => [.int (nI (suN (copy1 L j i) L.length))]) (fun _ => rfl) (fun _ => rfl) (fun _ => rfl) (fun _ _ => ?_)
          refine x_istore ok (lv' := [(5, .int (nI (suN (copy1 L j i) L.length))), (4, .int (nI i)), (3, .int (nI ((mpF L j i).2))), (2, .int ((mpF L j i).1)), (0, .ref x), (1, .int (nI j))]) dX4_mostPitch_36 (by decide) rfl ?_
          refine x_iload ok 0 dX4_mostPitch_38 rfl ?_
          refine x_iload_n ok 2 dX4_mostPitch_40 rfl rfl ?_
          refine x_icmp_leN ok 53 dX4_mostPitch_41 (by decide) (by omega) (by omega) (fun c_41 => ?_) (fun c_41 => ?_)
          · skip
            refine x_iload ok 0 dX4_mostPitch_53 rfl ?_
            refine x_iload_n ok 2 dX4_mostPitch_55 rfl rfl ?_
            refine x_icmp_neN ok 62 dX4_mostPitch_56 (by decide) (by omega) (by omega) (fun c_56 => ?_) (fun c_56 => ?_)
            · skip
              refine x_iinc ok (v := nI (i + 1)) (lv' := [(4, .int (nI (i + 1))), (5, .int (nI (suN (copy1 L j i) L.length))), (3, .int (nI ((mpF L j i).2))), (2, .int ((mpF L j i).1)), (0, .ref x), (1, .int (nI j))]) dX4_mostPitch_62 1 rfl (nN (nI_inc _ 1) (by omega)) (by decide) rfl ?_
              refine x_goto ok 20 dX4_mostPitch_65 (by decide) ?_
              refine x_loc ok [0, 2, 3, 4, 5] (lv' := [(4, .int (nI (i + 1))), (3, .int (nI ((mpF L j i).2))), (2, .int ((mpF L j i).1)), (0, .ref x), (1, .int (nI j))]) rfl ?_
              have em : mpF L j (i + 1) = mpF L j i := by simp only [mpF]; rw [if_neg (by omega), if_neg c_56]
              refine x_eq (lv' := [(4, .int (nI (i + 1))), (3, .int (nI ((mpF L j (i + 1)).2))), (2, .int ((mpF L j (i + 1)).1)), (0, .ref x), (1, .int (nI j))]) rfl (by rw [em]) rfl ?_
              exact ih_20 (i + 1) (by omega) (by first | assumption | omega)
            · skip
              refine x_bipush ok ((-9)) dX4_mostPitch_59 (by decide) ?_
              refine x_istore_n ok (lv' := [(2, .int (-9)), (5, .int (nI (suN (copy1 L j i) L.length))), (4, .int (nI i)), (3, .int (nI ((mpF L j i).2))), (0, .ref x), (1, .int (nI j))]) dX4_mostPitch_61 rfl (by decide) rfl ?_
              refine x_iinc ok (v := nI (i + 1)) (lv' := [(4, .int (nI (i + 1))), (2, .int (-9)), (5, .int (nI (suN (copy1 L j i) L.length))), (3, .int (nI ((mpF L j i).2))), (0, .ref x), (1, .int (nI j))]) dX4_mostPitch_62 2 rfl (nN (nI_inc _ 1) (by omega)) (by decide) rfl ?_
              refine x_goto ok 20 dX4_mostPitch_65 (by decide) ?_
              refine x_loc ok [0, 3, 1, 4, 5] (lv' := [(4, .int (nI (i + 1))), (3, .int (nI ((mpF L j i).2))), (2, .int (-9)), (0, .ref x), (1, .int (nI j))]) rfl ?_
              have em : mpF L j (i + 1) = (-9, (mpF L j i).2) := by simp only [mpF]; rw [if_neg (by omega), if_pos c_56]
              refine x_eq (lv' := [(4, .int (nI (i + 1))), (3, .int (nI ((mpF L j (i + 1)).2))), (2, .int ((mpF L j (i + 1)).1)), (0, .ref x), (1, .int (nI j))]) rfl (by rw [em]) rfl ?_
              exact ih_20 (i + 1) (by omega) (by first | assumption | omega)
          · skip
            refine x_iload ok 0 dX4_mostPitch_44 rfl ?_
            refine x_istore_n ok (lv' := [(3, .int (nI (suN (copy1 L j i) L.length))), (5, .int (nI (suN (copy1 L j i) L.length))), (4, .int (nI i)), (2, .int ((mpF L j i).1)), (0, .ref x), (1, .int (nI j))]) dX4_mostPitch_46 rfl (by decide) rfl ?_
            refine x_iload ok 2 dX4_mostPitch_47 rfl ?_
            refine x_istore_n ok (lv' := [(2, .int (nI i)), (3, .int (nI (suN (copy1 L j i) L.length))), (5, .int (nI (suN (copy1 L j i) L.length))), (4, .int (nI i)), (0, .ref x), (1, .int (nI j))]) dX4_mostPitch_49 rfl (by decide) rfl ?_
            refine x_goto ok 62 dX4_mostPitch_50 (by decide) ?_
            refine x_iinc ok (v := nI (i + 1)) (lv' := [(4, .int (nI (i + 1))), (2, .int (nI i)), (3, .int (nI (suN (copy1 L j i) L.length))), (5, .int (nI (suN (copy1 L j i) L.length))), (0, .ref x), (1, .int (nI j))]) dX4_mostPitch_62 3 rfl (nN (nI_inc _ 1) (by omega)) (by decide) rfl ?_
            refine x_goto ok 20 dX4_mostPitch_65 (by decide) ?_
            refine x_loc ok [0, 2, 1, 4, 5] (lv' := [(4, .int (nI (i + 1))), (3, .int (nI (suN (copy1 L j i) L.length))), (2, .int (nI i)), (0, .ref x), (1, .int (nI j))]) rfl ?_
            have em : mpF L j (i + 1) = (nI i, suN (copy1 L j i) L.length) := by simp only [mpF]; rw [if_pos (by omega)]
            refine x_eq (lv' := [(4, .int (nI (i + 1))), (3, .int (nI ((mpF L j (i + 1)).2))), (2, .int ((mpF L j (i + 1)).1)), (0, .ref x), (1, .int (nI j))]) rfl (by rw [em]) rfl ?_
            exact ih_20 (i + 1) (by omega) (by first | assumption | omega)
    exact L_20 _ 0 (Nat.lt_succ_self _) (by first | assumption | omega)
  · skip
    refine x_bipush ok ((-2)) dX4_mostPitch_9 (by decide) ?_
    exact ret () _ _ _ ((-2)) dX4_mostPitch_11 (rfl) (by rw [mostPitchI, if_neg c_6]) (trivial)

set_option maxHeartbeats 4000000 in
set_option maxRecDepth 100000 in
theorem p_back (l : Launch) (D : va_G) (cI cZ cS : ClassId) (x : Nat) (ax : Nat) (aw : Nat) (an : Nat) (aa : Nat) (a0 : Nat) (a1 : Nat) (sk : Nat) (ll : Nat) (ar : Nat) (aq : Nat) (al : Nat) (am : Nat) (sd : Int64) (wd : Nat) (wt : Nat) (W : Nat) (df : Nat → Int32) (tf : Nat → Int32) (dp : Nat → Nat) (st : Nat → Nat) (A : Nat) (nc : Nat) (L : List Sg) (li : Nat) (ye : Int32) (br : Int32) (f : Nat → Int32) (w : Int32) (v : Int32) (n : Int32) (hW : W ≤ 4) (hl : li < 256) (hst : ∀ w, w < W → tf w = nI (st w)) (hst2 : ∀ w, w < W → st w ≤ 2) : CO l D (TY cI cZ cS) yX4_back cX4_back 4 (some .int) 2 43 0 0 [.ref x, .int w, .int v, .int n] [(x, .inr (4, [.ref ax, .ref aw, .ref an, .ref aa, .ref a0, .ref a1, .int (nI sk), .int (nI ll), .long sd, .ref ar, .ref aq, .ref al, .ref am])), (aw, .inr (3, [.ref wd, .ref wt, .int (nI W)])), (wt, .inl (cI, 4, .inl tf)), (an, .inr (1, [.ref nc, .int (nI L.length), .int (nI li), .int ye, .int br])), (nc, .inl (cI, 48, .inl f))] (σ := Unit) (fun u => some (.int (backI W st li w v n))) (fun u => [(x, .inr (4, [.ref ax, .ref aw, .ref an, .ref aa, .ref a0, .ref a1, .int (nI sk), .int (nI ll), .long sd, .ref ar, .ref aq, .ref al, .ref am])), (aw, .inr (3, [.ref wd, .ref wt, .int (nI W)])), (wt, .inl (cI, 4, .inl tf)), (an, .inr (1, [.ref nc, .int (nI L.length), .int (nI li), .int ye, .int br])), (nc, .inl (cI, 48, .inl f))]) (fun u => True) := by
  refine CO_mki (by decide +kernel) (Nat.le_of_ble_eq_true rfl) (fun K ok ret => ?_)
  show XX K [(x, .inr (4, [.ref ax, .ref aw, .ref an, .ref aa, .ref a0, .ref a1, .int (nI sk), .int (nI ll), .long sd, .ref ar, .ref aq, .ref al, .ref am])), (aw, .inr (3, [.ref wd, .ref wt, .int (nI W)])), (wt, .inl (cI, 4, .inl tf)), (an, .inr (1, [.ref nc, .int (nI L.length), .int (nI li), .int ye, .int br])), (nc, .inl (cI, 48, .inl f))] [(0, .ref x), (1, .int w), (2, .int v), (3, .int n)] 0 []
  refine x_aload_n ok 0 dX4_back_0 rfl rfl ?_
  refine gX4_19 ok dX4_back_1 0 rfl rfl ?_
  refine x_iload_n ok 1 dX4_back_4 rfl rfl ?_
  refine qX4_112 ok (As := [.int w]) (st := []) 1 rfl (c3_has l D cI cZ cS aw wd wt W w ) rfl (Nat.le_of_ble_eq_true rfl) (Nat.le_of_ble_eq_true rfl) (Nat.le_of_ble_eq_true rfl) dX4_back_5 [1] (by decide) rfl (ws' := fun u => [(x, .inr (4, [.ref ax, .ref aw, .ref an, .ref aa, .ref a0, .ref a1, .int (nI sk), .int (nI ll), .long sd, .ref ar, .ref aq, .ref al, .ref am])), (aw, .inr (3, [.ref wd, .ref wt, .int (nI W)])), (wt, .inl (cI, 4, .inl tf)), (an, .inr (1, [.ref nc, .int (nI L.length), .int (nI li), .int ye, .int br])), (nc, .inl (cI, 48, .inl f))]) (st' := fun u => [.int (bz (hasB w W))]) (fun _ => rfl) (fun _ => rfl) (fun _ => rfl) (fun _ _ => ?_)
  refine x_if_neB ok 13 dX4_back_8 (by decide) (fun c_8 => ?_) (fun c_8 => ?_)
  · skip
    obtain ⟨j, hj, e_w⟩ := hasB_t (by omega) c_8
    subst e_w
    have ej := cl_n (show j < 2 ^ 31 by omega)
    have hst9 := hst2 j hj
    refine x_iload_n ok 2 dX4_back_13 rfl rfl ?_
    refine x_iconst ok (nI 1) dX4_back_14 (by decide) ?_
    refine x_bipush ok (nI 9) dX4_back_15 (by decide) ?_
    refine qX4_128 ok (As := [.int v, .int (nI 1), .int (nI 9)]) (st := []) (c4_isWithin l D cI cZ cS v (nI 1) (nI 9) ) rfl (Nat.le_of_ble_eq_true rfl) (Nat.le_of_ble_eq_true rfl) (Nat.le_of_ble_eq_true rfl) dX4_back_17 [] (by decide) rfl (ws' := fun u => [(x, .inr (4, [.ref ax, .ref aw, .ref an, .ref aa, .ref a0, .ref a1, .int (nI sk), .int (nI ll), .long sd, .ref ar, .ref aq, .ref al, .ref am])), (aw, .inr (3, [.ref wd, .ref wt, .int (nI W)])), (wt, .inl (cI, 4, .inl tf)), (an, .inr (1, [.ref nc, .int (nI L.length), .int (nI li), .int ye, .int br])), (nc, .inl (cI, 48, .inl f))]) (st' := fun u => [.int (bz (inB v (nI 1) (nI 9)))]) (fun _ => rfl) (fun _ => rfl) (fun _ => rfl) (fun _ _ => ?_)
    refine x_if_eqB ok 33 dX4_back_20 (by decide) (fun c_20 => ?_) (fun c_20 => ?_)
    · skip
      refine x_bipush ok ((-2)) dX4_back_33 (by decide) ?_
      exact ret () _ _ _ ((-2)) dX4_back_35 (rfl) (by rw [backI, if_pos c_8, if_neg (fun z => c_20 z.1)]) (trivial)
    · skip
      obtain ⟨k, hk0, hk, e_v⟩ := inB_t (by omega) (by omega) c_20
      subst e_v
      have ek := cl_n (show k < 2 ^ 31 by omega)
      refine x_iload_n ok 3 dX4_back_23 rfl rfl ?_
      refine x_iconst ok (nI 0) dX4_back_24 (by decide) ?_
      refine x_bipush ok (nI 9) dX4_back_25 (by decide) ?_
      refine qX4_128 ok (As := [.int n, .int (nI 0), .int (nI 9)]) (st := []) (c4_isWithin l D cI cZ cS n (nI 0) (nI 9) ) rfl (Nat.le_of_ble_eq_true rfl) (Nat.le_of_ble_eq_true rfl) (Nat.le_of_ble_eq_true rfl) dX4_back_27 [] (by decide) rfl (ws' := fun u => [(x, .inr (4, [.ref ax, .ref aw, .ref an, .ref aa, .ref a0, .ref a1, .int (nI sk), .int (nI ll), .long sd, .ref ar, .ref aq, .ref al, .ref am])), (aw, .inr (3, [.ref wd, .ref wt, .int (nI W)])), (wt, .inl (cI, 4, .inl tf)), (an, .inr (1, [.ref nc, .int (nI L.length), .int (nI li), .int ye, .int br])), (nc, .inl (cI, 48, .inl f))]) (st' := fun u => [.int (bz (inB n (nI 0) (nI 9)))]) (fun _ => rfl) (fun _ => rfl) (fun _ => rfl) (fun _ _ => ?_)
      refine x_if_neB ok 36 dX4_back_30 (by decide) (fun c_30 => ?_) (fun c_30 => ?_)
      · skip
        obtain ⟨q, hq0, hq, e_n⟩ := inB_t (by omega) (by omega) c_30
        subst e_n
        have eq := cl_n (show q < 2 ^ 31 by omega)
        refine x_iload_n ok 2 dX4_back_36 rfl rfl ?_
        refine x_iload_n ok 3 dX4_back_37 rfl rfl ?_
        refine x_aload_n ok 0 dX4_back_38 rfl rfl ?_
        refine gX4_19 ok dX4_back_39 0 rfl rfl ?_
        refine x_iload_n ok 1 dX4_back_42 rfl rfl ?_
        refine x_aload_n ok 0 dX4_back_43 rfl rfl ?_
        refine gX4_26 ok dX4_back_44 0 rfl rfl ?_
        refine x_iload_n ok 1 dX4_back_47 rfl rfl ?_
        refine qX4_121 ok (As := [.int (nI j)]) (st := [.int (nI j), .ref aw, .int (nI q), .int (nI k)]) 3 rfl (c1_hasLid l D cI cZ cS an nc L.length li ye br j (by first | assumption | omega) (by first | assumption | omega)) rfl (Nat.le_of_ble_eq_true rfl) (Nat.le_of_ble_eq_true rfl) (Nat.le_of_ble_eq_true rfl) dX4_back_48 [3] (by decide) rfl (ws' := fun u => [(x, .inr (4, [.ref ax, .ref aw, .ref an, .ref aa, .ref a0, .ref a1, .int (nI sk), .int (nI ll), .long sd, .ref ar, .ref aq, .ref al, .ref am])), (aw, .inr (3, [.ref wd, .ref wt, .int (nI W)])), (wt, .inl (cI, 4, .inl tf)), (an, .inr (1, [.ref nc, .int (nI L.length), .int (nI li), .int ye, .int br])), (nc, .inl (cI, 48, .inl f))]) (st' := fun u => [.int (bz (li.testBit j)), .int (nI j), .ref aw, .int (nI q), .int (nI k)]) (fun _ => rfl) (fun _ => rfl) (fun _ => rfl) (fun _ _ => ?_)
        refine qX4_237 ok (As := [.int (nI j), .int (bz (li.testBit j))]) (st := [.int (nI q), .int (nI k)]) 1 rfl (c3_wearIn l D cI cZ cS aw wd wt W tf j (li.testBit j) (st j) (by first | assumption | omega) (hst j hj)) rfl (Nat.le_of_ble_eq_true rfl) (Nat.le_of_ble_eq_true rfl) (Nat.le_of_ble_eq_true rfl) dX4_back_51 [1, 2] (by decide) rfl (ws' := fun u => [(x, .inr (4, [.ref ax, .ref aw, .ref an, .ref aa, .ref a0, .ref a1, .int (nI sk), .int (nI ll), .long sd, .ref ar, .ref aq, .ref al, .ref am])), (aw, .inr (3, [.ref wd, .ref wt, .int (nI W)])), (wt, .inl (cI, 4, .inl tf)), (an, .inr (1, [.ref nc, .int (nI L.length), .int (nI li), .int ye, .int br])), (nc, .inl (cI, 48, .inl f))]) (st' := fun u => [.int (nI ((st j) + (if (li.testBit j) = true then 0 else 1))), .int (nI q), .int (nI k)]) (fun _ => rfl) (fun _ => rfl) (fun _ => rfl) (fun _ _ => ?_)
        refine x_imul ok (nI (q * (st j + if li.testBit j = true then 0 else 1))) dX4_back_54 (pk_mul _ _) ?_
        refine x_iadd ok (nI (k + q * (st j + if li.testBit j = true then 0 else 1))) dX4_back_55 (nI_add _ _) ?_
        exact ret () _ _ _ (nI (k + q * (st j + if li.testBit j = true then 0 else 1))) dX4_back_56 (rfl) (by rw [backI, if_pos c_8, if_pos ⟨c_20, c_30⟩, ej, ek, eq]) (trivial)
      · skip
        refine x_bipush ok ((-2)) dX4_back_33 (by decide) ?_
        exact ret () _ _ _ ((-2)) dX4_back_35 (rfl) (by rw [backI, if_pos c_8, if_neg (fun z => c_30 z.2)]) (trivial)
  · skip
    refine x_iconst ok ((-1)) dX4_back_11 (by decide) ?_
    exact ret () _ _ _ ((-1)) dX4_back_12 (rfl) (by rw [backI, if_neg c_8]) (trivial)

set_option maxHeartbeats 4000000 in
set_option maxRecDepth 100000 in
theorem p_seed (l : Launch) (D : va_G) (cI cZ cS : ClassId) (x : Nat) (ax : Nat) (aw : Nat) (an : Nat) (aa : Nat) (a0 : Nat) (a1 : Nat) (sk : Nat) (ll : Nat) (ar : Nat) (aq : Nat) (al : Nat) (am : Nat) (sd : Int64) (v : Int64)  : CO l D (TY cI cZ cS) yX4_seed cX4_seed 5 (some .long) 0 0 0 0 [.ref x, .long v] [(x, .inr (4, [.ref ax, .ref aw, .ref an, .ref aa, .ref a0, .ref a1, .int (nI sk), .int (nI ll), .long sd, .ref ar, .ref aq, .ref al, .ref am]))] (σ := Unit) (fun u => some (.long (sd))) (fun u => [(x, .inr (4, [.ref ax, .ref aw, .ref an, .ref aa, .ref a0, .ref a1, .int (nI sk), .int (nI ll), .long v, .ref ar, .ref aq, .ref al, .ref am]))]) (fun u => True) := by
  refine CO_mkl (by decide +kernel) (Nat.le_of_ble_eq_true rfl) (fun K ok ret => ?_)
  show XX K [(x, .inr (4, [.ref ax, .ref aw, .ref an, .ref aa, .ref a0, .ref a1, .int (nI sk), .int (nI ll), .long sd, .ref ar, .ref aq, .ref al, .ref am]))] [(0, .ref x), (1, .long v)] 0 []
  refine x_aload_n ok 0 dX4_seed_0 rfl rfl ?_
  refine gX4_264 ok dX4_seed_1 0 rfl rfl ?_
  refine x_lstore_n ok (lv' := [(3, .long sd), (0, .ref x), (1, .long v)]) dX4_seed_4 rfl (by decide) rfl ?_
  refine x_aload_n ok 1 dX4_seed_5 rfl rfl ?_
  refine x_lload_n ok 2 dX4_seed_6 rfl rfl ?_
  refine pX4_264 ok dX4_seed_7 0 rfl rfl rfl (Nat.le_of_ble_eq_true rfl) (ws' := [(x, .inr (4, [.ref ax, .ref aw, .ref an, .ref aa, .ref a0, .ref a1, .int (nI sk), .int (nI ll), .long v, .ref ar, .ref aq, .ref al, .ref am]))]) rfl ?_
  refine x_lload_n ok 0 dX4_seed_10 rfl rfl ?_
  exact ret () _ _ _ (sd) dX4_seed_11 (rfl) (rfl) (trivial)
