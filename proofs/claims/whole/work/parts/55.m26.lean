set_option maxHeartbeats 4000000 in
set_option maxRecDepth 100000 in
theorem d_doPlan (l : Launch) (D : va_G) (cI cZ cS : ClassId) (y : Nat) (zt : Int32) (mt : Nat) (ts : Nat) (pl : Nat) (W : Nat) (ll : Nat) (md : Nat) (ms : Nat) (rW : Nat) (mrd : Nat) (mrs : Nat) (mrp : Nat) (mp : Nat) (mb : Nat) (na : Nat) (mk : Nat) (mi : Nat) (sd : Int64) (m1 : Nat) (m2 : Nat) (m3 : Nat) (ml : Nat) (mf : Nat) (mw : Nat) (mn : Nat) (sf : Nat → Int32) (st : Nat → Nat) (q : Nat) (g : Nat → Int32) (L : List Sg) (li : Nat) (ye : Int32) (br : Int32) (A : Nat) (a : Nat) (hst : ∀ w, w < W → sf w = nI (st w)) (hst2 : ∀ w, w < W → st w ≤ 2) (hg : PGR g L li ye br) (hv : okL W A L) (hW4 : W ≤ 4) (hl : li < 256) (ha : a ≤ 16) : CO l D (TY cI cZ cS) yX5_doPlan cX5_doPlan 5 (some .boolean) 3 71 0 0 [.ref y, .ref q, .int (nI a)] [(y, .inr (5, [.int zt, .ref mt, .int (nI ts), .int (nI pl), .int (nI W), .int (nI ll), .ref md, .ref ms, .int (nI rW), .ref mrd, .ref mrs, .ref mrp, .ref mp, .ref mb, .int (nI na), .ref mk, .ref mi, .long sd, .ref m1, .ref m2, .ref m3, .ref ml, .ref mf, .ref mw, .ref mn])), (ms, .inl (cI, 4, .inl sf)), (q, .inl (cI, 52, .inl g))] (σ := (Nat → Int32) × (Int32)) (fun u => some (.int (bz (canB W li L a)))) (fun u => [(y, .inr (5, [.int zt, .ref mt, .int (nI ts), .int (nI pl), .int (nI W), .int (nI ll), .ref md, .ref ms, .int (nI rW), .ref mrd, .ref mrs, .ref mrp, .ref mp, .ref mb, .int (nI na), .ref mk, .ref mi, .long sd, .ref m1, .ref m2, .ref m3, .ref ml, .ref mf, .ref mw, .ref mn])), (ms, .inl (cI, 4, .inl sf)), (q, .inl (cI, 52, .inl u.1))]) (fun u => (PGR u.1 (afterL st W li L a) li ye u.2)) := by
  refine CO_mkz (by decide +kernel) (Nat.le_of_ble_eq_true rfl) (fun K ok ret => ?_)
  show XX K [(y, .inr (5, [.int zt, .ref mt, .int (nI ts), .int (nI pl), .int (nI W), .int (nI ll), .ref md, .ref ms, .int (nI rW), .ref mrd, .ref mrs, .ref mrp, .ref mp, .ref mb, .int (nI na), .ref mk, .ref mi, .long sd, .ref m1, .ref m2, .ref m3, .ref ml, .ref mf, .ref mw, .ref mn])), (ms, .inl (cI, 4, .inl sf)), (q, .inl (cI, 52, .inl g))] [(0, .ref y), (1, .ref q), (2, .int (nI a))] 0 []
  have h8 := hv.1
  refine x_iload_n ok 2 dX5_doPlan_0 rfl rfl ?_
  refine x_iconst ok (nI 1) dX5_doPlan_1 (by decide) ?_
  refine x_isub ok (((nI a) - (nI 1))) dX5_doPlan_2 (rfl) ?_
  refine x_iconst ok (nI 2) dX5_doPlan_3 (by decide) ?_
  refine x_idiv ok ((((nI a) - (nI 1)) / (nI 2))) dX5_doPlan_4 (by decide) (rfl) ?_
  refine x_istore_n ok (lv' := [(3, .int (((nI a) - (nI 1)) / (nI 2))), (0, .ref y), (1, .ref q), (2, .int (nI a))]) dX5_doPlan_5 rfl (by decide) rfl ?_
  refine x_iload_n ok 3 dX5_doPlan_6 rfl rfl ?_
  refine x_iconst ok (nI 1) dX5_doPlan_7 (by decide) ?_
  refine x_isub ok (((nI a) - (nI 1))) dX5_doPlan_8 (rfl) ?_
  refine x_iconst ok (nI 2) dX5_doPlan_9 (by decide) ?_
  refine x_irem ok ((((nI a) - (nI 1)) - ((nI a) - (nI 1)) / (nI 2) * (nI 2))) dX5_doPlan_10 (by decide) (rfl) ?_
  refine x_istore ok (lv' := [(4, .int (((nI a) - (nI 1)) - ((nI a) - (nI 1)) / (nI 2) * (nI 2))), (3, .int (((nI a) - (nI 1)) / (nI 2))), (0, .ref y), (1, .ref q), (2, .int (nI a))]) dX5_doPlan_11 (by decide) rfl ?_
  refine x_iload_n ok 4 dX5_doPlan_13 rfl rfl ?_
  refine x_if_neN ok 19 dX5_doPlan_14 (by decide) (by omega) (fun c_14 => ?_) (fun c_14 => ?_)
  · skip
    obtain ⟨s, es⟩ : ∃ s, s = (a - 1) / 2 := ⟨_, rfl⟩
    obtain ⟨d, ed⟩ : ∃ d, d = (a - 1) % 2 := ⟨_, rfl⟩
    rw [show ((nI a) - (nI 1)) - ((nI a) - (nI 1)) / (nI 2) * (nI 2) = nI (d) from by rw [ed, pk_sub (show 1 ≤ a by omega)]; exact pk_rem (by omega) (by omega) (by omega)]
    rw [show ((nI a) - (nI 1)) / (nI 2) = nI (s) from by rw [es, pk_sub (show 1 ≤ a by omega)]; exact pk_div (by omega) (by omega) (by omega)]
    refine x_iload_n ok 1 dX5_doPlan_19 rfl rfl ?_
    refine x_aload_n ok 3 dX5_doPlan_20 rfl rfl ?_
    refine x_bipush ok (nI 48) dX5_doPlan_21 (by decide) ?_
    refine x_iald ok 2 0 48 dX5_doPlan_23 rfl rfl (rfl) (by omega) (by decide) (nI L.length) (hg.2.1) ?_
    refine x_icmp_geN ok 47 dX5_doPlan_24 (by decide) (by omega) (by omega) (fun c_24 => ?_) (fun c_24 => ?_)
    · skip
      have hcan : ¬ canB W li L a = true := fun q => by have := ((can_i c_14).mp q).1; omega
      refine x_iconst ok (nI 0) dX5_doPlan_47 (by decide) ?_
      exact ret (g, br) _ _ _ (false) dX5_doPlan_48 (rfl) (by cases q : canB W li L a with | true => exact absurd q hcan | false => rfl) (by rw [after_n hcan]; exact hg)
    · skip
      refine x_aload_n ok 3 dX5_doPlan_27 rfl rfl ?_
      refine x_bipush ok (nI 48) dX5_doPlan_28 (by decide) ?_
      refine x_iald ok 2 0 48 dX5_doPlan_30 rfl rfl (rfl) (by omega) (by decide) (nI L.length) (hg.2.1) ?_
      refine x_bipush ok (nI 8) dX5_doPlan_31 (by decide) ?_
      refine x_icmp_eqN ok 47 dX5_doPlan_33 (by decide) (by omega) (by omega) (fun c_33 => ?_) (fun c_33 => ?_)
      · skip
        have hcan : ¬ canB W li L a = true := fun q => by have := ((can_i c_14).mp q).2.2; omega
        refine x_iconst ok (nI 0) dX5_doPlan_47 (by decide) ?_
        exact ret (g, br) _ _ _ (false) dX5_doPlan_48 (rfl) (by cases q : canB W li L a with | true => exact absurd q hcan | false => rfl) (by rw [after_n hcan]; exact hg)
      · skip
        refine x_aload_n ok 2 dX5_doPlan_36 rfl rfl ?_
        refine x_aload_n ok 3 dX5_doPlan_37 rfl rfl ?_
        refine x_iload_n ok 1 dX5_doPlan_38 rfl rfl ?_
        refine x_iload ok 0 dX5_doPlan_39 rfl ?_
        refine qX5_147 ok (As := [.ref q, .int (nI s), .int (nI d)]) (st := []) 0 rfl (d_canSing l D cI cZ cS y zt mt ts pl W ll md ms rW mrd mrs mrp mp mb na mk mi sd m1 m2 m3 ml mf mw mn q g L li ye br A s d (by first | assumption | omega) (by first | assumption | omega) (by first | assumption | omega) (by first | assumption | omega) (by first | assumption | omega) (by first | assumption | omega)) rfl (Nat.le_of_ble_eq_true rfl) (Nat.le_of_ble_eq_true rfl) (Nat.le_of_ble_eq_true rfl) dX5_doPlan_41 [0, 2] (by decide) rfl (ws' := fun u => [(y, .inr (5, [.int zt, .ref mt, .int (nI ts), .int (nI pl), .int (nI W), .int (nI ll), .ref md, .ref ms, .int (nI rW), .ref mrd, .ref mrs, .ref mrp, .ref mp, .ref mb, .int (nI na), .ref mk, .ref mi, .long sd, .ref m1, .ref m2, .ref m3, .ref ml, .ref mf, .ref mw, .ref mn])), (ms, .inl (cI, 4, .inl sf)), (q, .inl (cI, 52, .inl g))]) (st' := fun u => [.int (bz (way W li (sg L s 1) d))]) (fun _ => rfl) (fun _ => rfl) (fun _ => rfl) (fun _ _ => ?_)
        refine x_if_neB ok 49 dX5_doPlan_44 (by decide) (fun c_44 => ?_) (fun c_44 => ?_)
        · skip
          have hcan : canB W li L a = true := (can_i c_14).mpr ⟨by omega, by rw [← es, ← ed]; exact c_44, by omega⟩
          have haft : afterL st W li L a = sungL st L s (jN L s d) 6 (sg L s 3) := by rw [after_y c_14 hcan, ← es, ← ed]
          obtain ⟨v0, v1, v2, v2b, v3, v4, v5⟩ := hv.2 s (by omega)
          refine x_aload_n ok 2 dX5_doPlan_49 rfl rfl ?_
          refine x_aload_n ok 3 dX5_doPlan_50 rfl rfl ?_
          refine x_iload_n ok 1 dX5_doPlan_51 rfl rfl ?_
          refine x_iload ok 0 dX5_doPlan_52 rfl ?_
          refine x_bipush ok (nI 6) dX5_doPlan_54 (by decide) ?_
          refine x_aload_n ok 3 dX5_doPlan_56 rfl rfl ?_
          refine x_bipush ok (nI 6) dX5_doPlan_57 (by decide) ?_
          refine x_iload_n ok 1 dX5_doPlan_59 rfl rfl ?_
          refine x_imul ok (nI (s * 6)) dX5_doPlan_60 (nN (pk_mul _ _) (by omega)) ?_
          refine x_iconst ok (nI 3) dX5_doPlan_61 (by decide) ?_
          refine x_iadd ok (nI (s * 6 + 3)) dX5_doPlan_62 (nN (nI_add _ _) (by omega)) ?_
          refine x_iald ok 2 0 (s * 6 + 3) dX5_doPlan_63 rfl rfl (rfl) (by omega) (by decide) (nI (sg L s 3)) (hg.1 s 3 (by omega) (by omega)) ?_
          refine qX5_151 ok (As := [.ref q, .int (nI s), .int (nI d), .int (nI 6), .int (nI (sg L s 3))]) (st := []) 0 rfl (d_goSing l D cI cZ cS y zt mt ts pl W ll md ms rW mrd mrs mrp mp mb na mk mi sd m1 m2 m3 ml mf mw mn sf st q g L li ye br A s d 6 (sg L s 3) (by first | assumption | omega) (by first | assumption | omega) (by first | assumption | omega) (by first | assumption | omega) (by first | assumption | omega) (by first | assumption | omega) (by first | assumption | omega) (by first | assumption | omega) (by first | assumption | omega) (by first | assumption | omega) (by first | assumption | omega) (by first | assumption | omega)) rfl (Nat.le_of_ble_eq_true rfl) (Nat.le_of_ble_eq_true rfl) (Nat.le_of_ble_eq_true rfl) dX5_doPlan_64 [0, 1, 2] (by decide) rfl (ws' := fun u => [(y, .inr (5, [.int zt, .ref mt, .int (nI ts), .int (nI pl), .int (nI W), .int (nI ll), .ref md, .ref ms, .int (nI rW), .ref mrd, .ref mrs, .ref mrp, .ref mp, .ref mb, .int (nI na), .ref mk, .ref mi, .long sd, .ref m1, .ref m2, .ref m3, .ref ml, .ref mf, .ref mw, .ref mn])), (ms, .inl (cI, 4, .inl sf)), (q, .inl (cI, 52, .inl u))]) (st' := fun u => []) (fun _ => rfl) (fun _ => rfl) (fun _ => rfl) (fun u64 hu64 => ?_)
          obtain ⟨g264, rfl⟩ : ∃ z, z = u64 := ⟨_, rfl⟩
          have hg264 := hu64
          have hg264 : PGR g264 (sungL st L s (jN L s d) 6 (sg L s 3)) li ye (br + nI 6) := hg264
          show XX K [(y, .inr (5, [.int zt, .ref mt, .int (nI ts), .int (nI pl), .int (nI W), .int (nI ll), .ref md, .ref ms, .int (nI rW), .ref mrd, .ref mrs, .ref mrp, .ref mp, .ref mb, .int (nI na), .ref mk, .ref mi, .long sd, .ref m1, .ref m2, .ref m3, .ref ml, .ref mf, .ref mw, .ref mn])), (ms, .inl (cI, 4, .inl sf)), (q, .inl (cI, 52, .inl g264))] [(4, .int (nI d)), (3, .int (nI s)), (0, .ref y), (1, .ref q), (2, .int (nI a))] 67 []
          refine x_iconst ok (nI 1) dX5_doPlan_67 (by decide) ?_
          exact ret (g264, (br + nI 6)) _ _ _ (true) dX5_doPlan_68 (rfl) (by rw [hcan]) (by rw [haft]; exact hg264)
        · skip
          have hcan : ¬ canB W li L a = true := fun q => c_44 (by rw [es, ed]; exact ((can_i c_14).mp q).2.1)
          refine x_iconst ok (nI 0) dX5_doPlan_47 (by decide) ?_
          exact ret (g, br) _ _ _ (false) dX5_doPlan_48 (rfl) (by cases q : canB W li L a with | true => exact absurd q hcan | false => rfl) (by rw [after_n hcan]; exact hg)
  · skip
    have hcan : canB W li L a = true := by rw [c_14]; exact (after_0 (st := st)).1
    have haft : afterL st W li L a = L := by rw [c_14]; exact after_0.2
    refine x_iconst ok (nI 1) dX5_doPlan_17 (by decide) ?_
    exact ret (g, br) _ _ _ (true) dX5_doPlan_18 (rfl) (by rw [hcan]) (by rw [haft]; exact hg)

set_option maxHeartbeats 4000000 in
set_option maxRecDepth 100000 in
theorem e_plan (l : Launch) (D : va_G) (cI cZ cS : ClassId) (y : Nat) (zt : Int32) (mt : Nat) (ts : Nat) (pl : Nat) (W : Nat) (ll : Nat) (md : Nat) (ms : Nat) (rW : Nat) (mrd : Nat) (mrs : Nat) (mrp : Nat) (mp : Nat) (mb : Nat) (na : Nat) (mk : Nat) (mi : Nat) (sd : Int64) (m1 : Nat) (m2 : Nat) (m3 : Nat) (ml : Nat) (mf : Nat) (mw : Nat) (mn : Nat) (sf : Nat → Int32) (st : Nat → Nat) (g : Nat → Int32) (L : List Sg) (li : Nat) (ye : Int32) (br : Int32) (A : Nat) (of : Nat → Int32) (tf2 : Nat → Int32) (lf : Nat → Int32) (z : Int32) (z2 : Int32) (hst : ∀ w, w < W → sf w = nI (st w)) (hst2 : ∀ w, w < W → st w ≤ 2) (hg : PGR g L li ye br) (hv : okL W A L) (hW4 : W ≤ 4) (hl : li < 256) (hA : A < 900000) : CO l D (TY cI cZ cS) yX5_plan cX5_plan 11 (some .int) 4 95 0 0 [.ref y, .int z, .int z2] [(y, .inr (5, [.int zt, .ref mt, .int (nI ts), .int (nI pl), .int (nI W), .int (nI ll), .ref md, .ref ms, .int (nI rW), .ref mrd, .ref mrs, .ref mrp, .ref mp, .ref mb, .int (nI na), .ref mk, .ref mi, .long sd, .ref m1, .ref m2, .ref m3, .ref ml, .ref mf, .ref mw, .ref mn])), (ms, .inl (cI, 4, .inl sf)), (mp, .inl (cI, 52, .inl g)), (m1, .inl (cI, 52, .inl of)), (m2, .inl (cI, 52, .inl tf2)), (ml, .inl (cI, 8, .inl lf))] (σ := (Nat → Int32) × (Nat → Int32) × (Nat → Int32)) (fun u => some (.int (planI ll st W li L z z2))) (fun u => [(y, .inr (5, [.int (nI 0), .ref mt, .int (nI ts), .int (nI pl), .int (nI W), .int (nI ll), .ref md, .ref ms, .int (nI rW), .ref mrd, .ref mrs, .ref mrp, .ref mp, .ref mb, .int (nI na), .ref mk, .ref mi, .long sd, .ref m1, .ref m2, .ref m3, .ref ml, .ref mf, .ref mw, .ref mn])), (ms, .inl (cI, 4, .inl sf)), (mp, .inl (cI, 52, .inl g)), (m1, .inl (cI, 52, .inl u.1)), (m2, .inl (cI, 52, .inl u.2.1)), (ml, .inl (cI, 8, .inl u.2.2))]) (fun u => True) := by
  refine CO_mki (by decide +kernel) (Nat.le_of_ble_eq_true rfl) (fun K ok ret => ?_)
  show XX K [(y, .inr (5, [.int zt, .ref mt, .int (nI ts), .int (nI pl), .int (nI W), .int (nI ll), .ref md, .ref ms, .int (nI rW), .ref mrd, .ref mrs, .ref mrp, .ref mp, .ref mb, .int (nI na), .ref mk, .ref mi, .long sd, .ref m1, .ref m2, .ref m3, .ref ml, .ref mf, .ref mw, .ref mn])), (ms, .inl (cI, 4, .inl sf)), (mp, .inl (cI, 52, .inl g)), (m1, .inl (cI, 52, .inl of)), (m2, .inl (cI, 52, .inl tf2)), (ml, .inl (cI, 8, .inl lf))] [(0, .ref y), (1, .int z), (2, .int z2)] 0 []
  have h8 := hv.1
  refine x_aload_n ok 0 dX5_plan_0 rfl rfl ?_
  refine x_iconst ok (nI 0) dX5_plan_1 (by decide) ?_
  refine pX5_62 ok dX5_plan_2 0 rfl rfl rfl (Nat.le_of_ble_eq_true rfl) (ws' := [(y, .inr (5, [.int (nI 0), .ref mt, .int (nI ts), .int (nI pl), .int (nI W), .int (nI ll), .ref md, .ref ms, .int (nI rW), .ref mrd, .ref mrs, .ref mrp, .ref mp, .ref mb, .int (nI na), .ref mk, .ref mi, .long sd, .ref m1, .ref m2, .ref m3, .ref ml, .ref mf, .ref mw, .ref mn])), (ms, .inl (cI, 4, .inl sf)), (mp, .inl (cI, 52, .inl g)), (m1, .inl (cI, 52, .inl of)), (m2, .inl (cI, 52, .inl tf2)), (ml, .inl (cI, 8, .inl lf))]) rfl ?_
  refine x_iload_n ok 1 dX5_plan_5 rfl rfl ?_
  refine x_i2l ok ((z).toInt64) dX5_plan_6 rfl ?_
  refine x_lconst ok ((nI 1).toInt64) dX5_plan_7 (by decide) ?_
  refine x_ldc2v ok KX5_172 (v' := (nI 2).toInt64) (by decide) dX5_plan_8 ?_
  refine qX5_69 ok (As := [.long ((z).toInt64), .long ((nI 1).toInt64), .long ((nI 2).toInt64)]) (st := []) (d_in l D cI cZ cS z (nI 1) (nI 2) ) rfl (Nat.le_of_ble_eq_true rfl) (Nat.le_of_ble_eq_true rfl) (Nat.le_of_ble_eq_true rfl) dX5_plan_11 [] (by decide) rfl (ws' := fun u => [(y, .inr (5, [.int (nI 0), .ref mt, .int (nI ts), .int (nI pl), .int (nI W), .int (nI ll), .ref md, .ref ms, .int (nI rW), .ref mrd, .ref mrs, .ref mrp, .ref mp, .ref mb, .int (nI na), .ref mk, .ref mi, .long sd, .ref m1, .ref m2, .ref m3, .ref ml, .ref mf, .ref mw, .ref mn])), (ms, .inl (cI, 4, .inl sf)), (mp, .inl (cI, 52, .inl g)), (m1, .inl (cI, 52, .inl of)), (m2, .inl (cI, 52, .inl tf2)), (ml, .inl (cI, 8, .inl lf))]) (st' := fun u => [.int (bz (inB z (nI 1) (nI 2)))]) (fun _ => rfl) (fun _ => rfl) (fun _ => rfl) (fun _ _ => ?_)
  refine x_if_eqB ok 27 dX5_plan_14 (by decide) (fun c_14 => ?_) (fun c_14 => ?_)
  · skip
    refine x_bipush ok ((-2)) dX5_plan_27 (by decide) ?_
    exact ret (of, tf2, lf) _ _ _ ((-2)) dX5_plan_29 (rfl) (by rw [planI, if_neg (fun z => c_14 z.1)]) (trivial)
  · skip
    obtain ⟨j, hj0, hj, e_z⟩ := inB_t (by omega) (by omega) c_14
    subst e_z
    have ej := cl_n (show j < 2 ^ 31 by omega)
    refine x_iload_n ok 2 dX5_plan_17 rfl rfl ?_
    refine x_i2l ok ((z2).toInt64) dX5_plan_18 rfl ?_
    refine x_lconst ok ((nI 0).toInt64) dX5_plan_19 (by decide) ?_
    refine x_lconst ok ((nI 1).toInt64) dX5_plan_20 (by decide) ?_
    refine qX5_69 ok (As := [.long ((z2).toInt64), .long ((nI 0).toInt64), .long ((nI 1).toInt64)]) (st := []) (d_in l D cI cZ cS z2 (nI 0) (nI 1) ) rfl (Nat.le_of_ble_eq_true rfl) (Nat.le_of_ble_eq_true rfl) (Nat.le_of_ble_eq_true rfl) dX5_plan_21 [] (by decide) rfl (ws' := fun u => [(y, .inr (5, [.int (nI 0), .ref mt, .int (nI ts), .int (nI pl), .int (nI W), .int (nI ll), .ref md, .ref ms, .int (nI rW), .ref mrd, .ref mrs, .ref mrp, .ref mp, .ref mb, .int (nI na), .ref mk, .ref mi, .long sd, .ref m1, .ref m2, .ref m3, .ref ml, .ref mf, .ref mw, .ref mn])), (ms, .inl (cI, 4, .inl sf)), (mp, .inl (cI, 52, .inl g)), (m1, .inl (cI, 52, .inl of)), (m2, .inl (cI, 52, .inl tf2)), (ml, .inl (cI, 8, .inl lf))]) (st' := fun u => [.int (bz (inB z2 (nI 0) (nI 1)))]) (fun _ => rfl) (fun _ => rfl) (fun _ => rfl) (fun _ _ => ?_)
    refine x_if_neB ok 30 dX5_plan_24 (by decide) (fun c_24 => ?_) (fun c_24 => ?_)
    · skip
      obtain ⟨q, hq0, hq, e_z2⟩ := inB_t (by omega) (by omega) c_24
      subst e_z2
      have eq := cl_n (show q < 2 ^ 31 by omega)
      have hj12 : j = 1 ∨ j = 2 := by omega
      refine x_bipush ok ((-9)) dX5_plan_30 (by decide) ?_
      refine x_istore_n ok (lv' := [(3, .int (-9)), (0, .ref y), (1, .int (nI j)), (2, .int (nI q))]) dX5_plan_32 rfl (by decide) rfl ?_
      refine x_iconst ok (nI 0) dX5_plan_33 (by decide) ?_
      refine x_istore ok (lv' := [(4, .int (nI 0)), (3, .int (-9)), (0, .ref y), (1, .int (nI j)), (2, .int (nI q))]) dX5_plan_34 (by decide) rfl ?_
      refine x_iconst ok (nI 0) dX5_plan_36 (by decide) ?_
      refine x_istore ok (lv' := [(5, .int (nI 0)), (4, .int (nI 0)), (3, .int (-9)), (0, .ref y), (1, .int (nI j)), (2, .int (nI q))]) dX5_plan_37 (by decide) rfl ?_
      refine x_iconst ok (nI 0) dX5_plan_39 (by decide) ?_
      refine x_istore ok (lv' := [(6, .int (nI 0)), (5, .int (nI 0)), (4, .int (nI 0)), (3, .int (-9)), (0, .ref y), (1, .int (nI j)), (2, .int (nI q))]) dX5_plan_40 (by decide) rfl ?_
      have L_42 : ∀ (n_42 : Nat) (a : Nat) (vm : Int32) (few : Nat) (fi : Nat) (g9 : Nat → Int32) (g8 : Nat → Int32) (lf9 : Nat → Int32), 17 - a < n_42 → (a ≤ 17) → (plS vm few fi (plM ll st W li j L a)) → XX K [(y, .inr (5, [.int (nI 0), .ref mt, .int (nI ts), .int (nI pl), .int (nI W), .int (nI ll), .ref md, .ref ms, .int (nI rW), .ref mrd, .ref mrs, .ref mrp, .ref mp, .ref mb, .int (nI na), .ref mk, .ref mi, .long sd, .ref m1, .ref m2, .ref m3, .ref ml, .ref mf, .ref mw, .ref mn])), (ms, .inl (cI, 4, .inl sf)), (mp, .inl (cI, 52, .inl g)), (m1, .inl (cI, 52, .inl g9)), (m2, .inl (cI, 52, .inl g8)), (ml, .inl (cI, 8, .inl lf9))] [(6, .int (nI a)), (5, .int (nI fi)), (4, .int (nI few)), (3, .int vm), (0, .ref y), (1, .int (nI j)), (2, .int (nI q))] 42 [] := by
        intro n_42
        induction n_42 with
        | zero => intro a vm few fi g9 g8 lf9 hm; exact absurd hm (Nat.not_lt_zero _)
        | succ n_42 ih_42 =>
          intro a vm few fi g9 g8 lf9 hm_42 ha hS
          refine x_iload ok 0 dX5_plan_42 rfl ?_
          refine x_bipush ok (nI 16) dX5_plan_44 (by decide) ?_
          refine x_icmp_gtN ok 224 dX5_plan_46 (by decide) (by omega) (by omega) (fun c_46 => ?_) (fun c_46 => ?_)
          · skip
            have e_a : 17 = a := by omega
            subst e_a
            have hpe := plan_end hW4 hv hS
            refine x_iload_n ok 6 dX5_plan_224 rfl rfl ?_
            refine x_if_neN ok 232 dX5_plan_225 (by decide) (by omega) (fun c_225 => ?_) (fun c_225 => ?_)
            · skip
              refine x_iload ok 1 dX5_plan_232 rfl ?_
              exact ret (g9, g8, lf9) _ _ _ (nI fi) dX5_plan_234 (rfl) (by rw [planI, if_pos ⟨c_14, c_24⟩, ej]; simp only; rw [if_neg (fun z => c_225 ((nI_eq (by omega) (by omega)).mp z)), hpe.2]) (trivial)
            · skip
              refine x_iload_n ok 3 dX5_plan_228 rfl rfl ?_
              refine x_goto ok 234 dX5_plan_229 (by decide) ?_
              exact ret (g9, g8, lf9) _ _ _ (vm) dX5_plan_234 (rfl) (by rw [planI, if_pos ⟨c_14, c_24⟩, ej, c_225, hpe.1]; rfl) (trivial)
          · skip
            have hva := after_ok (st := st) (li := li) (a := a) hW4 hv
            have hvy := year_ok (st := st) (li := li) hva
            have h8a := hva.1
            have h8y := hvy.1
            refine x_aload_n ok 4 dX5_plan_49 rfl rfl ?_
            refine gX5_28 ok dX5_plan_50 0 rfl rfl ?_
            refine x_aload_n ok 4 dX5_plan_53 rfl rfl ?_
            refine gX5_41 ok dX5_plan_54 0 rfl rfl ?_
            refine qX5_159 ok (As := [.ref mp, .ref m1]) (st := []) (d_copy l D cI cZ cS mp g L li ye br m1 g9 (by first | assumption | omega) (by first | assumption | omega)) rfl (Nat.le_of_ble_eq_true rfl) (Nat.le_of_ble_eq_true rfl) (Nat.le_of_ble_eq_true rfl) dX5_plan_57 [2, 3] (by decide) rfl (ws' := fun u => [(y, .inr (5, [.int (nI 0), .ref mt, .int (nI ts), .int (nI pl), .int (nI W), .int (nI ll), .ref md, .ref ms, .int (nI rW), .ref mrd, .ref mrs, .ref mrp, .ref mp, .ref mb, .int (nI na), .ref mk, .ref mi, .long sd, .ref m1, .ref m2, .ref m3, .ref ml, .ref mf, .ref mw, .ref mn])), (ms, .inl (cI, 4, .inl sf)), (mp, .inl (cI, 52, .inl g)), (m1, .inl (cI, 52, .inl u)), (m2, .inl (cI, 52, .inl g8)), (ml, .inl (cI, 8, .inl lf9))]) (st' := fun u => []) (fun _ => rfl) (fun _ => rfl) (fun _ => rfl) (fun u57 hu57 => ?_)
            obtain ⟨g257, rfl⟩ : ∃ z, z = u57 := ⟨_, rfl⟩
            have hg257 := hu57
            have hg257 : PGR g257 L li ye br := hg257
            show XX K [(y, .inr (5, [.int (nI 0), .ref mt, .int (nI ts), .int (nI pl), .int (nI W), .int (nI ll), .ref md, .ref ms, .int (nI rW), .ref mrd, .ref mrs, .ref mrp, .ref mp, .ref mb, .int (nI na), .ref mk, .ref mi, .long sd, .ref m1, .ref m2, .ref m3, .ref ml, .ref mf, .ref mw, .ref mn])), (ms, .inl (cI, 4, .inl sf)), (mp, .inl (cI, 52, .inl g)), (m1, .inl (cI, 52, .inl g257)), (m2, .inl (cI, 52, .inl g8)), (ml, .inl (cI, 8, .inl lf9))] [(6, .int (nI a)), (5, .int (nI fi)), (4, .int (nI few)), (3, .int vm), (0, .ref y), (1, .int (nI j)), (2, .int (nI q))] 60 []
            refine x_aload_n ok 4 dX5_plan_60 rfl rfl ?_
            refine x_aload_n ok 4 dX5_plan_61 rfl rfl ?_
            refine gX5_41 ok dX5_plan_62 0 rfl rfl ?_
            refine x_iload ok 0 dX5_plan_65 rfl ?_
            refine qX5_174 ok (As := [.ref m1, .int (nI a)]) (st := []) 0 rfl (d_doPlan l D cI cZ cS y (nI 0) mt ts pl W ll md ms rW mrd mrs mrp mp mb na mk mi sd m1 m2 m3 ml mf mw mn sf st m1 g257 L li ye br A a (by first | assumption | omega) (by first | assumption | omega) (hg257) (by first | assumption | omega) (by first | assumption | omega) (by first | assumption | omega) (by first | assumption | omega)) rfl (Nat.le_of_ble_eq_true rfl) (Nat.le_of_ble_eq_true rfl) (Nat.le_of_ble_eq_true rfl) dX5_plan_67 [0, 1, 3] (by decide) rfl (ws' := fun u => [(y, .inr (5, [.int (nI 0), .ref mt, .int (nI ts), .int (nI pl), .int (nI W), .int (nI ll), .ref md, .ref ms, .int (nI rW), .ref mrd, .ref mrs, .ref mrp, .ref mp, .ref mb, .int (nI na), .ref mk, .ref mi, .long sd, .ref m1, .ref m2, .ref m3, .ref ml, .ref mf, .ref mw, .ref mn])), (ms, .inl (cI, 4, .inl sf)), (mp, .inl (cI, 52, .inl g)), (m1, .inl (cI, 52, .inl u.1)), (m2, .inl (cI, 52, .inl g8)), (ml, .inl (cI, 8, .inl lf9))]) (st' := fun u => [.int (bz (canB W li L a))]) (fun _ => rfl) (fun _ => rfl) (fun _ => rfl) (fun u67 hu67 => ?_)
            obtain ⟨g267, b267⟩ := u67
            have hg267 := hu67
            have hg267 : PGR g267 (afterL st W li L a) li ye b267 := hg267
            show XX K [(y, .inr (5, [.int (nI 0), .ref mt, .int (nI ts), .int (nI pl), .int (nI W), .int (nI ll), .ref md, .ref ms, .int (nI rW), .ref mrd, .ref mrs, .ref mrp, .ref mp, .ref mb, .int (nI na), .ref mk, .ref mi, .long sd, .ref m1, .ref m2, .ref m3, .ref ml, .ref mf, .ref mw, .ref mn])), (ms, .inl (cI, 4, .inl sf)), (mp, .inl (cI, 52, .inl g)), (m1, .inl (cI, 52, .inl g267)), (m2, .inl (cI, 52, .inl g8)), (ml, .inl (cI, 8, .inl lf9))] [(6, .int (nI a)), (5, .int (nI fi)), (4, .int (nI few)), (3, .int vm), (0, .ref y), (1, .int (nI j)), (2, .int (nI q))] 70 [.int (bz (canB W li L a))]
            refine x_istore ok (lv' := [(7, .int (bz (canB W li L a))), (6, .int (nI a)), (5, .int (nI fi)), (4, .int (nI few)), (3, .int vm), (0, .ref y), (1, .int (nI j)), (2, .int (nI q))]) dX5_plan_70 (by decide) rfl ?_
            refine x_aload_n ok 5 dX5_plan_72 rfl rfl ?_
            refine x_aload_n ok 5 dX5_plan_73 rfl rfl ?_
            refine gX5_41 ok dX5_plan_74 0 rfl rfl ?_
            refine x_bipush ok ((-9)) dX5_plan_77 (by decide) ?_
            refine qX5_136 ok (As := [.ref m1, .int (-9)]) (st := []) 0 rfl (d_goYear l D cI cZ cS y (nI 0) mt ts pl W ll md ms rW mrd mrs mrp mp mb na mk mi sd m1 m2 m3 ml mf mw mn sf st m1 g267 (afterL st W li L a) li ye b267 lf9 A (-9) (by first | assumption | omega) (by first | assumption | omega) (hg267) (hva) (by first | assumption | omega) (by first | assumption | omega) (by first | assumption | omega)) rfl (Nat.le_of_ble_eq_true rfl) (Nat.le_of_ble_eq_true rfl) (Nat.le_of_ble_eq_true rfl) dX5_plan_79 [0, 1, 3, 5] (by decide) rfl (ws' := fun u => [(y, .inr (5, [.int (nI 0), .ref mt, .int (nI ts), .int (nI pl), .int (nI W), .int (nI ll), .ref md, .ref ms, .int (nI rW), .ref mrd, .ref mrs, .ref mrp, .ref mp, .ref mb, .int (nI na), .ref mk, .ref mi, .long sd, .ref m1, .ref m2, .ref m3, .ref ml, .ref mf, .ref mw, .ref mn])), (ms, .inl (cI, 4, .inl sf)), (mp, .inl (cI, 52, .inl g)), (m1, .inl (cI, 52, .inl u.1)), (m2, .inl (cI, 52, .inl g8)), (ml, .inl (cI, 8, .inl u.2))]) (st' := fun u => [.int (wrN (lossN st li (afterL st W li L a)) (afterL st W li L a) (-9) (afterL st W li L a).length)]) (fun _ => rfl) (fun _ => rfl) (fun _ => rfl) (fun u79 hu79 => ?_)
            obtain ⟨g279, lf279⟩ := u79
            have hg279 := hu79
            have hg279 : PGR g279 (yearL st li (afterL st W li L a)) li (ye + nI 1) b267 := hg279
            show XX K [(y, .inr (5, [.int (nI 0), .ref mt, .int (nI ts), .int (nI pl), .int (nI W), .int (nI ll), .ref md, .ref ms, .int (nI rW), .ref mrd, .ref mrs, .ref mrp, .ref mp, .ref mb, .int (nI na), .ref mk, .ref mi, .long sd, .ref m1, .ref m2, .ref m3, .ref ml, .ref mf, .ref mw, .ref mn])), (ms, .inl (cI, 4, .inl sf)), (mp, .inl (cI, 52, .inl g)), (m1, .inl (cI, 52, .inl g279)), (m2, .inl (cI, 52, .inl g8)), (ml, .inl (cI, 8, .inl lf279))] [(7, .int (bz (canB W li L a))), (6, .int (nI a)), (5, .int (nI fi)), (4, .int (nI few)), (3, .int vm), (0, .ref y), (1, .int (nI j)), (2, .int (nI q))] 82 [.int (wrN (lossN st li (afterL st W li L a)) (afterL st W li L a) (-9) (afterL st W li L a).length)]
            refine x_pop ok dX5_plan_82 rfl ?_
            refine x_iconst ok (nI 0) dX5_plan_83 (by decide) ?_
            refine x_istore ok (lv' := [(8, .int (nI 0)), (7, .int (bz (canB W li L a))), (6, .int (nI a)), (5, .int (nI fi)), (4, .int (nI few)), (3, .int vm), (0, .ref y), (1, .int (nI j)), (2, .int (nI q))]) dX5_plan_84 (by decide) rfl ?_
            have L_86 : ∀ (n_86 : Nat) (b : Nat) (vn : Int32) (fe : Nat) (fj : Nat) (h9 : Nat → Int32) (l8 : Nat → Int32), (if j = 2 then 16 else 0) + 1 - b < n_86 → (b ≤ (if j = 2 then 16 else 0) + 1) → (b = 0 ∨ canB W li L a = true) → (plS vn fe fj (plN (plM ll st W li j L a) true (sgn1 a + bsx ll st W li j (yearL st li (doL st L a)) b) a)) → XX K [(y, .inr (5, [.int (nI 0), .ref mt, .int (nI ts), .int (nI pl), .int (nI W), .int (nI ll), .ref md, .ref ms, .int (nI rW), .ref mrd, .ref mrs, .ref mrp, .ref mp, .ref mb, .int (nI na), .ref mk, .ref mi, .long sd, .ref m1, .ref m2, .ref m3, .ref ml, .ref mf, .ref mw, .ref mn])), (ms, .inl (cI, 4, .inl sf)), (mp, .inl (cI, 52, .inl g)), (m1, .inl (cI, 52, .inl g279)), (m2, .inl (cI, 52, .inl h9)), (ml, .inl (cI, 8, .inl l8))] [(8, .int (nI b)), (7, .int (bz (canB W li L a))), (6, .int (nI a)), (5, .int (nI fj)), (4, .int (nI fe)), (3, .int vn), (0, .ref y), (1, .int (nI j)), (2, .int (nI q))] 86 [] := by
              intro n_86
              induction n_86 with
              | zero => intro b vn fe fj h9 l8 hm; exact absurd hm (Nat.not_lt_zero _)
              | succ n_86 ih_86 =>
                intro b vn fe fj h9 l8 hm_86 hB hb0 hT
                refine x_iload ok 0 dX5_plan_86 rfl ?_
                refine x_iload_n ok 7 dX5_plan_88 rfl rfl ?_
                refine x_iconst ok (nI 2) dX5_plan_89 (by decide) ?_
                have J_99 : ∀ (v99_1 : Nat), v99_1 = (if j = 2 then 16 else 0) → XX K [(y, .inr (5, [.int (nI 0), .ref mt, .int (nI ts), .int (nI pl), .int (nI W), .int (nI ll), .ref md, .ref ms, .int (nI rW), .ref mrd, .ref mrs, .ref mrp, .ref mp, .ref mb, .int (nI na), .ref mk, .ref mi, .long sd, .ref m1, .ref m2, .ref m3, .ref ml, .ref mf, .ref mw, .ref mn])), (ms, .inl (cI, 4, .inl sf)), (mp, .inl (cI, 52, .inl g)), (m1, .inl (cI, 52, .inl g279)), (m2, .inl (cI, 52, .inl h9)), (ml, .inl (cI, 8, .inl l8))] [(8, .int (nI b)), (7, .int (bz (canB W li L a))), (6, .int (nI a)), (5, .int (nI fj)), (4, .int (nI fe)), (3, .int vn), (0, .ref y), (1, .int (nI j)), (2, .int (nI q))] 99 [.int (nI v99_1), .int (nI b)] := by
                  intro v99_1 e_v99_1
                  have hv99 : v99_1 ≤ 16 := by rw [e_v99_1]; split <;> omega
                  have hB2 : b ≤ v99_1 + 1 := by rw [e_v99_1]; exact hB
                  refine x_icmp_gtN ok 218 dX5_plan_99 (by decide) (by omega) (by omega) (fun c_99 => ?_) (fun c_99 => ?_)
                  · skip
                    have eb : b = (if j = 2 then 16 else 0) + 1 := by rw [← e_v99_1]; omega
                    have hcA : canB W li L a = true := by rcases hb0 with q | q; (omega); (exact q)
                    refine x_iinc ok (v := nI (a + 1)) (lv' := [(6, .int (nI (a + 1))), (8, .int (nI b)), (7, .int (bz (canB W li L a))), (5, .int (nI fj)), (4, .int (nI fe)), (3, .int vn), (0, .ref y), (1, .int (nI j)), (2, .int (nI q))]) dX5_plan_218 2 rfl (nN (nI_inc _ 1) (by omega)) (by decide) rfl ?_
                    refine x_goto ok 42 dX5_plan_221 (by decide) ?_
                    refine x_loc ok [0, 3, 4, 5, 6, 7, 8] (lv' := [(6, .int (nI (a + 1))), (5, .int (nI fj)), (4, .int (nI fe)), (3, .int vn), (0, .ref y), (1, .int (nI j)), (2, .int (nI q))]) rfl ?_
                    exact ih_42 (a + 1) vn fe fj g279 h9 l8 (by omega) (by first | assumption | omega) (by rw [plM, hcA, ← pl_end hW4 hv hcA hj12, ← eb]; exact hT)
                  · skip
                    have hfe := hT.1
                    have hb16 : b ≤ 16 := by have : v99_1 ≤ 16 := (by rw [e_v99_1]; split <;> omega); omega
                    refine x_iload ok 1 dX5_plan_102 rfl ?_
                    refine x_if_eqB ok 218 dX5_plan_104 (by decide) (fun c_104 => ?_) (fun c_104 => ?_)
                    · skip
                      have eb0 : b = 0 := hb0.resolve_right c_104
                      refine x_iinc ok (v := nI (a + 1)) (lv' := [(6, .int (nI (a + 1))), (8, .int (nI b)), (7, .int (bz (canB W li L a))), (5, .int (nI fj)), (4, .int (nI fe)), (3, .int vn), (0, .ref y), (1, .int (nI j)), (2, .int (nI q))]) dX5_plan_218 2 rfl (nN (nI_inc _ 1) (by omega)) (by decide) rfl ?_
                      refine x_goto ok 42 dX5_plan_221 (by decide) ?_
                      refine x_loc ok [0, 3, 4, 5, 6, 7, 8] (lv' := [(6, .int (nI (a + 1))), (5, .int (nI fj)), (4, .int (nI fe)), (3, .int vn), (0, .ref y), (1, .int (nI j)), (2, .int (nI q))]) rfl ?_
                      exact ih_42 (a + 1) vn fe fj g279 h9 l8 (by omega) (by first | assumption | omega) (by rw [eb0, pl_0 hS] at hT; rw [plM, plN, if_neg (fun z => c_104 z.1)]; exact hT)
                    · skip
                      have eA := after_d (st := st) c_104
                      refine x_aload_n ok 6 dX5_plan_107 rfl rfl ?_
                      refine gX5_41 ok dX5_plan_108 0 rfl rfl ?_
                      refine x_aload_n ok 6 dX5_plan_111 rfl rfl ?_
                      refine gX5_44 ok dX5_plan_112 0 rfl rfl ?_
                      refine qX5_159 ok (As := [.ref m1, .ref m2]) (st := []) (d_copy l D cI cZ cS m1 g279 (yearL st li (afterL st W li L a)) li (ye + nI 1) b267 m2 h9 (hg279) (by first | assumption | omega)) rfl (Nat.le_of_ble_eq_true rfl) (Nat.le_of_ble_eq_true rfl) (Nat.le_of_ble_eq_true rfl) dX5_plan_115 [3, 4] (by decide) rfl (ws' := fun u => [(y, .inr (5, [.int (nI 0), .ref mt, .int (nI ts), .int (nI pl), .int (nI W), .int (nI ll), .ref md, .ref ms, .int (nI rW), .ref mrd, .ref mrs, .ref mrp, .ref mp, .ref mb, .int (nI na), .ref mk, .ref mi, .long sd, .ref m1, .ref m2, .ref m3, .ref ml, .ref mf, .ref mw, .ref mn])), (ms, .inl (cI, 4, .inl sf)), (mp, .inl (cI, 52, .inl g)), (m1, .inl (cI, 52, .inl g279)), (m2, .inl (cI, 52, .inl u)), (ml, .inl (cI, 8, .inl l8))]) (st' := fun u => []) (fun _ => rfl) (fun _ => rfl) (fun _ => rfl) (fun u115 hu115 => ?_)
                      obtain ⟨g2115, rfl⟩ : ∃ z, z = u115 := ⟨_, rfl⟩
                      have hg2115 := hu115
                      have hg2115 : PGR g2115 (yearL st li (afterL st W li L a)) li (ye + nI 1) b267 := hg2115
                      show XX K [(y, .inr (5, [.int (nI 0), .ref mt, .int (nI ts), .int (nI pl), .int (nI W), .int (nI ll), .ref md, .ref ms, .int (nI rW), .ref mrd, .ref mrs, .ref mrp, .ref mp, .ref mb, .int (nI na), .ref mk, .ref mi, .long sd, .ref m1, .ref m2, .ref m3, .ref ml, .ref mf, .ref mw, .ref mn])), (ms, .inl (cI, 4, .inl sf)), (mp, .inl (cI, 52, .inl g)), (m1, .inl (cI, 52, .inl g279)), (m2, .inl (cI, 52, .inl g2115)), (ml, .inl (cI, 8, .inl l8))] [(8, .int (nI b)), (7, .int (bz (canB W li L a))), (6, .int (nI a)), (5, .int (nI fj)), (4, .int (nI fe)), (3, .int vn), (0, .ref y), (1, .int (nI j)), (2, .int (nI q))] 118 []
                      refine x_aload_n ok 6 dX5_plan_118 rfl rfl ?_
                      refine x_aload_n ok 6 dX5_plan_119 rfl rfl ?_
                      refine gX5_44 ok dX5_plan_120 0 rfl rfl ?_
                      refine x_iload ok 0 dX5_plan_123 rfl ?_
                      refine qX5_174 ok (As := [.ref m2, .int (nI b)]) (st := []) 0 rfl (d_doPlan l D cI cZ cS y (nI 0) mt ts pl W ll md ms rW mrd mrs mrp mp mb na mk mi sd m1 m2 m3 ml mf mw mn sf st m2 g2115 (yearL st li (afterL st W li L a)) li (ye + nI 1) b267 (A + 1) b (by first | assumption | omega) (by first | assumption | omega) (hg2115) (hvy) (by first | assumption | omega) (by first | assumption | omega) (by first | assumption | omega)) rfl (Nat.le_of_ble_eq_true rfl) (Nat.le_of_ble_eq_true rfl) (Nat.le_of_ble_eq_true rfl) dX5_plan_125 [0, 1, 4] (by decide) rfl (ws' := fun u => [(y, .inr (5, [.int (nI 0), .ref mt, .int (nI ts), .int (nI pl), .int (nI W), .int (nI ll), .ref md, .ref ms, .int (nI rW), .ref mrd, .ref mrs, .ref mrp, .ref mp, .ref mb, .int (nI na), .ref mk, .ref mi, .long sd, .ref m1, .ref m2, .ref m3, .ref ml, .ref mf, .ref mw, .ref mn])), (ms, .inl (cI, 4, .inl sf)), (mp, .inl (cI, 52, .inl g)), (m1, .inl (cI, 52, .inl g279)), (m2, .inl (cI, 52, .inl u.1)), (ml, .inl (cI, 8, .inl l8))]) (st' := fun u => [.int (bz (canB W li (yearL st li (afterL st W li L a)) b))]) (fun _ => rfl) (fun _ => rfl) (fun _ => rfl) (fun u125 hu125 => ?_)
                      obtain ⟨g2125, b2125⟩ := u125
                      have hg2125 := hu125
                      have hg2125 : PGR g2125 (afterL st W li (yearL st li (afterL st W li L a)) b) li (ye + nI 1) b2125 := hg2125
                      show XX K [(y, .inr (5, [.int (nI 0), .ref mt, .int (nI ts), .int (nI pl), .int (nI W), .int (nI ll), .ref md, .ref ms, .int (nI rW), .ref mrd, .ref mrs, .ref mrp, .ref mp, .ref mb, .int (nI na), .ref mk, .ref mi, .long sd, .ref m1, .ref m2, .ref m3, .ref ml, .ref mf, .ref mw, .ref mn])), (ms, .inl (cI, 4, .inl sf)), (mp, .inl (cI, 52, .inl g)), (m1, .inl (cI, 52, .inl g279)), (m2, .inl (cI, 52, .inl g2125)), (ml, .inl (cI, 8, .inl l8))] [(8, .int (nI b)), (7, .int (bz (canB W li L a))), (6, .int (nI a)), (5, .int (nI fj)), (4, .int (nI fe)), (3, .int vn), (0, .ref y), (1, .int (nI j)), (2, .int (nI q))] 128 [.int (bz (canB W li (yearL st li (afterL st W li L a)) b))]
                      refine x_if_eqB ok 212 dX5_plan_128 (by decide) (fun c_128 => ?_) (fun c_128 => ?_)
                      · skip
                        have hnb : ¬ canB W li (yearL st li (doL st L a)) b = true := by rw [← eA]; exact c_128
                        refine x_iinc ok (v := nI (b + 1)) (lv' := [(8, .int (nI (b + 1))), (7, .int (bz (canB W li L a))), (6, .int (nI a)), (5, .int (nI fj)), (4, .int (nI fe)), (3, .int vn), (0, .ref y), (1, .int (nI j)), (2, .int (nI q))]) dX5_plan_212 0 rfl (nN (nI_inc _ 1) (by omega)) (by decide) rfl ?_
                        refine x_goto ok 86 dX5_plan_215 (by decide) ?_
                        exact ih_86 (b + 1) vn fe fj g2125 l8 (by rw [← e_v99_1]; rw [← e_v99_1] at hm_86; omega) (by rw [← e_v99_1]; omega) (Or.inr c_104) (by rw [pl_no hnb]; exact hT)
                      · skip
                        have hcb : canB W li (yearL st li (doL st L a)) b = true := by rw [← eA]; exact c_128
                        have hvb := after_ok (st := st) (li := li) (a := b) hW4 hvy
                        have hvz := years_ok (st := st) (li := li) hvb (j + 2)
                        have hzl := and_lt64 (a := ll) (lawsN_lt hvz)
                        refine x_aload_n ok 6 dX5_plan_131 rfl rfl ?_
                        refine x_aload_n ok 6 dX5_plan_132 rfl rfl ?_
                        refine gX5_44 ok dX5_plan_133 0 rfl rfl ?_
                        refine x_iload_n ok 7 dX5_plan_136 rfl rfl ?_
                        refine x_iconst ok (nI 2) dX5_plan_137 (by decide) ?_
                        refine x_iadd ok (nI (j + 2)) dX5_plan_138 (nN (nI_add _ _) (by omega)) ?_
                        refine qX5_168 ok (As := [.ref m2, .int (nI (j + 2))]) (st := []) 0 rfl (d_goYears l D cI cZ cS y (nI 0) mt ts pl W ll md ms rW mrd mrs mrp mp mb na mk mi sd m1 m2 m3 ml mf mw mn sf st m2 g2125 (afterL st W li (yearL st li (afterL st W li L a)) b) li (ye + nI 1) b2125 l8 (A + 1) (j + 2) (by first | assumption | omega) (by first | assumption | omega) (hg2125) (hvb) (by first | assumption | omega) (by first | assumption | omega) (by first | assumption | omega)) rfl (Nat.le_of_ble_eq_true rfl) (Nat.le_of_ble_eq_true rfl) (Nat.le_of_ble_eq_true rfl) dX5_plan_139 [0, 1, 4, 5] (by decide) rfl (ws' := fun u => [(y, .inr (5, [.int (nI 0), .ref mt, .int (nI ts), .int (nI pl), .int (nI W), .int (nI ll), .ref md, .ref ms, .int (nI rW), .ref mrd, .ref mrs, .ref mrp, .ref mp, .ref mb, .int (nI na), .ref mk, .ref mi, .long sd, .ref m1, .ref m2, .ref m3, .ref ml, .ref mf, .ref mw, .ref mn])), (ms, .inl (cI, 4, .inl sf)), (mp, .inl (cI, 52, .inl g)), (m1, .inl (cI, 52, .inl g279)), (m2, .inl (cI, 52, .inl u.1)), (ml, .inl (cI, 8, .inl u.2.1))]) (st' := fun u => []) (fun _ => rfl) (fun _ => rfl) (fun _ => rfl) (fun u139 hu139 => ?_)
                        obtain ⟨g2139, lf2139, y2139⟩ := u139
                        have hg2139 := hu139
                        have hg2139 : PGR g2139 (yearsL st li (j + 2) (afterL st W li (yearL st li (afterL st W li L a)) b)) li y2139 b2125 := hg2139
                        show XX K [(y, .inr (5, [.int (nI 0), .ref mt, .int (nI ts), .int (nI pl), .int (nI W), .int (nI ll), .ref md, .ref ms, .int (nI rW), .ref mrd, .ref mrs, .ref mrp, .ref mp, .ref mb, .int (nI na), .ref mk, .ref mi, .long sd, .ref m1, .ref m2, .ref m3, .ref ml, .ref mf, .ref mw, .ref mn])), (ms, .inl (cI, 4, .inl sf)), (mp, .inl (cI, 52, .inl g)), (m1, .inl (cI, 52, .inl g279)), (m2, .inl (cI, 52, .inl g2139)), (ml, .inl (cI, 8, .inl lf2139))] [(8, .int (nI b)), (7, .int (bz (canB W li L a))), (6, .int (nI a)), (5, .int (nI fj)), (4, .int (nI fe)), (3, .int vn), (0, .ref y), (1, .int (nI j)), (2, .int (nI q))] 142 []
                        refine x_aload_n ok 6 dX5_plan_142 rfl rfl ?_
                        refine gX5_44 ok dX5_plan_143 0 rfl rfl ?_
                        refine qX5_106 ok (As := [.ref m2]) (st := []) (d_lawsOf l D cI cZ cS m2 g2139 (yearsL st li (j + 2) (afterL st W li (yearL st li (afterL st W li L a)) b)) li y2139 b2125 W (A + 1 + (j + 2)) (hg2139) (hvz)) rfl (Nat.le_of_ble_eq_true rfl) (Nat.le_of_ble_eq_true rfl) (Nat.le_of_ble_eq_true rfl) dX5_plan_146 [4] (by decide) rfl (ws' := fun u => [(y, .inr (5, [.int (nI 0), .ref mt, .int (nI ts), .int (nI pl), .int (nI W), .int (nI ll), .ref md, .ref ms, .int (nI rW), .ref mrd, .ref mrs, .ref mrp, .ref mp, .ref mb, .int (nI na), .ref mk, .ref mi, .long sd, .ref m1, .ref m2, .ref m3, .ref ml, .ref mf, .ref mw, .ref mn])), (ms, .inl (cI, 4, .inl sf)), (mp, .inl (cI, 52, .inl g)), (m1, .inl (cI, 52, .inl g279)), (m2, .inl (cI, 52, .inl g2139)), (ml, .inl (cI, 8, .inl lf2139))]) (st' := fun u => [.int (nI (lawsN (yearsL st li (j + 2) (afterL st W li (yearL st li (afterL st W li L a)) b))))]) (fun _ => rfl) (fun _ => rfl) (fun _ => rfl) (fun _ _ => ?_)
                        refine x_aload_n ok 6 dX5_plan_149 rfl rfl ?_
                        refine gX5_110 ok dX5_plan_150 0 rfl rfl ?_
                        refine x_iand ok (nI (ll &&& (lawsN (yearsL st li (j + 2) (afterL st W li (yearL st li (afterL st W li L a)) b))))) dX5_plan_153 ((fa_and _ _).trans (congrArg nI (Nat.and_comm _ _))) ?_
                        refine qX5_178 ok (As := [.int (nI (ll &&& (lawsN (yearsL st li (j + 2) (afterL st W li (yearL st li (afterL st W li L a)) b)))))]) (st := []) (d_many l D cI cZ cS (ll &&& (lawsN (yearsL st li (j + 2) (afterL st W li (yearL st li (afterL st W li L a)) b)))) (by first | assumption | omega)) rfl (Nat.le_of_ble_eq_true rfl) (Nat.le_of_ble_eq_true rfl) (Nat.le_of_ble_eq_true rfl) dX5_plan_154 [] (by decide) rfl (ws' := fun u => [(y, .inr (5, [.int (nI 0), .ref mt, .int (nI ts), .int (nI pl), .int (nI W), .int (nI ll), .ref md, .ref ms, .int (nI rW), .ref mrd, .ref mrs, .ref mrp, .ref mp, .ref mb, .int (nI na), .ref mk, .ref mi, .long sd, .ref m1, .ref m2, .ref m3, .ref ml, .ref mf, .ref mw, .ref mn])), (ms, .inl (cI, 4, .inl sf)), (mp, .inl (cI, 52, .inl g)), (m1, .inl (cI, 52, .inl g279)), (m2, .inl (cI, 52, .inl g2139)), (ml, .inl (cI, 8, .inl lf2139))]) (st' := fun u => [.int (nI (popN (ll &&& (lawsN (yearsL st li (j + 2) (afterL st W li (yearL st li (afterL st W li L a)) b))))))]) (fun _ => rfl) (fun _ => rfl) (fun _ => rfl) (fun _ _ => ?_)
                        obtain ⟨got, e_got⟩ : ∃ y : Nat, y = popN (ll &&& (lawsN (yearsL st li (j + 2) (afterL st W li (yearL st li (afterL st W li L a)) b)))) := ⟨_, rfl⟩
                        rw [← e_got]
                        refine x_istore ok (lv' := [(9, .int (nI got)), (8, .int (nI b)), (7, .int (bz (canB W li L a))), (6, .int (nI a)), (5, .int (nI fj)), (4, .int (nI fe)), (3, .int vn), (0, .ref y), (1, .int (nI j)), (2, .int (nI q))]) dX5_plan_157 (by decide) rfl ?_
                        have hg6 : got ≤ 6 := by rw [e_got]; exact ll_le (ll := ll) hvz
                        have hgo : got = llN ll (yearsL st li (j + 2) (doL st (yearL st li (doL st L a)) b)) := by rw [e_got, after_d c_128, eA]; rfl
                        refine x_iload ok 3 dX5_plan_159 rfl ?_
                        have J_169 : ∀ (v169_1 : Nat), v169_1 = (if a = 0 then 0 else 1) → XX K [(y, .inr (5, [.int (nI 0), .ref mt, .int (nI ts), .int (nI pl), .int (nI W), .int (nI ll), .ref md, .ref ms, .int (nI rW), .ref mrd, .ref mrs, .ref mrp, .ref mp, .ref mb, .int (nI na), .ref mk, .ref mi, .long sd, .ref m1, .ref m2, .ref m3, .ref ml, .ref mf, .ref mw, .ref mn])), (ms, .inl (cI, 4, .inl sf)), (mp, .inl (cI, 52, .inl g)), (m1, .inl (cI, 52, .inl g279)), (m2, .inl (cI, 52, .inl g2139)), (ml, .inl (cI, 8, .inl lf2139))] [(9, .int (nI got)), (8, .int (nI b)), (7, .int (bz (canB W li L a))), (6, .int (nI a)), (5, .int (nI fj)), (4, .int (nI fe)), (3, .int vn), (0, .ref y), (1, .int (nI j)), (2, .int (nI q))] 169 [.int (nI v169_1)] := by
                          intro v169_1 e_v169_1
                          have h169 : v169_1 ≤ 1 := by rw [e_v169_1]; split <;> omega
                          refine x_iload ok 1 dX5_plan_169 rfl ?_
                          have J_179 : ∀ (v179_1 : Nat), v179_1 = (if b = 0 then 0 else 1) → XX K [(y, .inr (5, [.int (nI 0), .ref mt, .int (nI ts), .int (nI pl), .int (nI W), .int (nI ll), .ref md, .ref ms, .int (nI rW), .ref mrd, .ref mrs, .ref mrp, .ref mp, .ref mb, .int (nI na), .ref mk, .ref mi, .long sd, .ref m1, .ref m2, .ref m3, .ref ml, .ref mf, .ref mw, .ref mn])), (ms, .inl (cI, 4, .inl sf)), (mp, .inl (cI, 52, .inl g)), (m1, .inl (cI, 52, .inl g279)), (m2, .inl (cI, 52, .inl g2139)), (ml, .inl (cI, 8, .inl lf2139))] [(9, .int (nI got)), (8, .int (nI b)), (7, .int (bz (canB W li L a))), (6, .int (nI a)), (5, .int (nI fj)), (4, .int (nI fe)), (3, .int vn), (0, .ref y), (1, .int (nI j)), (2, .int (nI q))] 179 [.int (nI v179_1), .int (nI v169_1)] := by
                            intro v179_1 e_v179_1
                            have h179 : v179_1 ≤ 1 := by rw [e_v179_1]; split <;> omega
                            refine x_iadd ok (nI (v169_1 + v179_1)) dX5_plan_179 (nN (nI_add _ _) (by omega)) ?_
                            obtain ⟨sung, e_sung⟩ : ∃ y : Nat, y = v169_1 + v179_1 := ⟨_, rfl⟩
                            rw [← e_sung]
                            refine x_istore ok (lv' := [(10, .int (nI sung)), (9, .int (nI got)), (8, .int (nI b)), (7, .int (bz (canB W li L a))), (6, .int (nI a)), (5, .int (nI fj)), (4, .int (nI fe)), (3, .int vn), (0, .ref y), (1, .int (nI j)), (2, .int (nI q))]) dX5_plan_180 (by decide) rfl ?_
                            have hsu2 : sung ≤ 2 := by omega
                            have hsu : sung = (if a = 0 then 0 else 1) + (if b = 0 then 0 else 1) := by rw [e_sung, e_v169_1, e_v179_1]
                            refine x_iload ok 1 dX5_plan_182 rfl ?_
                            refine x_iload_n ok 7 dX5_plan_184 rfl rfl ?_
                            refine x_icmp_gt ok 201 dX5_plan_185 (by decide) (fun c_185 => ?_) (fun c_185 => ?_)
                            · skip
                              refine x_iload ok 1 dX5_plan_201 rfl ?_
                              refine x_istore_n ok (lv' := [(3, .int (nI got)), (10, .int (nI sung)), (9, .int (nI got)), (8, .int (nI b)), (7, .int (bz (canB W li L a))), (6, .int (nI a)), (5, .int (nI fj)), (4, .int (nI fe)), (0, .ref y), (1, .int (nI j)), (2, .int (nI q))]) dX5_plan_203 rfl (by decide) rfl ?_
                              refine x_iload ok 1 dX5_plan_204 rfl ?_
                              refine x_istore ok (lv' := [(4, .int (nI sung)), (3, .int (nI got)), (10, .int (nI sung)), (9, .int (nI got)), (8, .int (nI b)), (7, .int (bz (canB W li L a))), (6, .int (nI a)), (5, .int (nI fj)), (0, .ref y), (1, .int (nI j)), (2, .int (nI q))]) dX5_plan_206 (by decide) rfl ?_
                              refine x_iload ok 6 dX5_plan_208 rfl ?_
                              refine x_istore ok (lv' := [(5, .int (nI a)), (4, .int (nI sung)), (3, .int (nI got)), (10, .int (nI sung)), (9, .int (nI got)), (8, .int (nI b)), (7, .int (bz (canB W li L a))), (6, .int (nI a)), (0, .ref y), (1, .int (nI j)), (2, .int (nI q))]) dX5_plan_210 (by decide) rfl ?_
                              refine x_iinc ok (v := nI (b + 1)) (lv' := [(8, .int (nI (b + 1))), (5, .int (nI a)), (4, .int (nI sung)), (3, .int (nI got)), (10, .int (nI sung)), (9, .int (nI got)), (7, .int (bz (canB W li L a))), (6, .int (nI a)), (0, .ref y), (1, .int (nI j)), (2, .int (nI q))]) dX5_plan_212 5 rfl (nN (nI_inc _ 1) (by omega)) (by decide) rfl ?_
                              refine x_goto ok 86 dX5_plan_215 (by decide) ?_
                              refine x_loc ok [0, 6, 7, 1, 2, 3, 8, 9, 10] (lv' := [(8, .int (nI (b + 1))), (7, .int (bz (canB W li L a))), (6, .int (nI a)), (5, .int (nI a)), (4, .int (nI sung)), (3, .int (nI got)), (0, .ref y), (1, .int (nI j)), (2, .int (nI q))]) rfl ?_
                              exact ih_86 (b + 1) (nI got) sung a g2139 lf2139 (by rw [← e_v99_1]; rw [← e_v99_1] at hm_86; omega) (by rw [← e_v99_1]; omega) (Or.inr c_104) (pl_y hT hcb hgo hg6 hsu (Or.inl c_185))
                            · skip
                              refine x_iload ok 1 dX5_plan_188 rfl ?_
                              refine x_iload_n ok 7 dX5_plan_190 rfl rfl ?_
                              refine x_icmp_ne ok 212 dX5_plan_191 (by decide) (fun c_191 => ?_) (fun c_191 => ?_)
                              · skip
                                refine x_iinc ok (v := nI (b + 1)) (lv' := [(8, .int (nI (b + 1))), (10, .int (nI sung)), (9, .int (nI got)), (7, .int (bz (canB W li L a))), (6, .int (nI a)), (5, .int (nI fj)), (4, .int (nI fe)), (3, .int vn), (0, .ref y), (1, .int (nI j)), (2, .int (nI q))]) dX5_plan_212 2 rfl (nN (nI_inc _ 1) (by omega)) (by decide) rfl ?_
                                refine x_goto ok 86 dX5_plan_215 (by decide) ?_
                                refine x_loc ok [0, 3, 4, 5, 6, 7, 8, 9, 10] (lv' := [(8, .int (nI (b + 1))), (7, .int (bz (canB W li L a))), (6, .int (nI a)), (5, .int (nI fj)), (4, .int (nI fe)), (3, .int vn), (0, .ref y), (1, .int (nI j)), (2, .int (nI q))]) rfl ?_
                                exact ih_86 (b + 1) vn fe fj g2139 lf2139 (by rw [← e_v99_1]; rw [← e_v99_1] at hm_86; omega) (by rw [← e_v99_1]; omega) (Or.inr c_104) (pl_n hT hcb hgo hg6 hsu c_185 (Or.inl c_191))
                              · skip
                                refine x_iload ok 0 dX5_plan_194 rfl ?_
                                refine x_iload ok 6 dX5_plan_196 rfl ?_
                                refine x_icmp_geN ok 212 dX5_plan_198 (by decide) (by omega) (by omega) (fun c_198 => ?_) (fun c_198 => ?_)
                                · skip
                                  refine x_iinc ok (v := nI (b + 1)) (lv' := [(8, .int (nI (b + 1))), (10, .int (nI sung)), (9, .int (nI got)), (7, .int (bz (canB W li L a))), (6, .int (nI a)), (5, .int (nI fj)), (4, .int (nI fe)), (3, .int vn), (0, .ref y), (1, .int (nI j)), (2, .int (nI q))]) dX5_plan_212 2 rfl (nN (nI_inc _ 1) (by omega)) (by decide) rfl ?_
                                  refine x_goto ok 86 dX5_plan_215 (by decide) ?_
                                  refine x_loc ok [0, 3, 4, 5, 6, 7, 8, 9, 10] (lv' := [(8, .int (nI (b + 1))), (7, .int (bz (canB W li L a))), (6, .int (nI a)), (5, .int (nI fj)), (4, .int (nI fe)), (3, .int vn), (0, .ref y), (1, .int (nI j)), (2, .int (nI q))]) rfl ?_
                                  exact ih_86 (b + 1) vn fe fj g2139 lf2139 (by rw [← e_v99_1]; rw [← e_v99_1] at hm_86; omega) (by rw [← e_v99_1]; omega) (Or.inr c_104) (pl_n hT hcb hgo hg6 hsu c_185 (Or.inr (by omega)))
                                · skip
                                  refine x_iload ok 1 dX5_plan_201 rfl ?_
                                  refine x_istore_n ok (lv' := [(3, .int (nI got)), (10, .int (nI sung)), (9, .int (nI got)), (8, .int (nI b)), (7, .int (bz (canB W li L a))), (6, .int (nI a)), (5, .int (nI fj)), (4, .int (nI fe)), (0, .ref y), (1, .int (nI j)), (2, .int (nI q))]) dX5_plan_203 rfl (by decide) rfl ?_
                                  refine x_iload ok 1 dX5_plan_204 rfl ?_
                                  refine x_istore ok (lv' := [(4, .int (nI sung)), (3, .int (nI got)), (10, .int (nI sung)), (9, .int (nI got)), (8, .int (nI b)), (7, .int (bz (canB W li L a))), (6, .int (nI a)), (5, .int (nI fj)), (0, .ref y), (1, .int (nI j)), (2, .int (nI q))]) dX5_plan_206 (by decide) rfl ?_
                                  refine x_iload ok 6 dX5_plan_208 rfl ?_
                                  refine x_istore ok (lv' := [(5, .int (nI a)), (4, .int (nI sung)), (3, .int (nI got)), (10, .int (nI sung)), (9, .int (nI got)), (8, .int (nI b)), (7, .int (bz (canB W li L a))), (6, .int (nI a)), (0, .ref y), (1, .int (nI j)), (2, .int (nI q))]) dX5_plan_210 (by decide) rfl ?_
                                  refine x_iinc ok (v := nI (b + 1)) (lv' := [(8, .int (nI (b + 1))), (5, .int (nI a)), (4, .int (nI sung)), (3, .int (nI got)), (10, .int (nI sung)), (9, .int (nI got)), (7, .int (bz (canB W li L a))), (6, .int (nI a)), (0, .ref y), (1, .int (nI j)), (2, .int (nI q))]) dX5_plan_212 5 rfl (nN (nI_inc _ 1) (by omega)) (by decide) rfl ?_
                                  refine x_goto ok 86 dX5_plan_215 (by decide) ?_
                                  refine x_loc ok [0, 6, 7, 1, 2, 3, 8, 9, 10] (lv' := [(8, .int (nI (b + 1))), (7, .int (bz (canB W li L a))), (6, .int (nI a)), (5, .int (nI a)), (4, .int (nI sung)), (3, .int (nI got)), (0, .ref y), (1, .int (nI j)), (2, .int (nI q))]) rfl ?_
                                  exact ih_86 (b + 1) (nI got) sung a g2139 lf2139 (by rw [← e_v99_1]; rw [← e_v99_1] at hm_86; omega) (by rw [← e_v99_1]; omega) (Or.inr c_104) (pl_y hT hcb hgo hg6 hsu (Or.inr ⟨c_191, by omega⟩))
                          refine x_if_leN ok 178 dX5_plan_171 (by decide) (by omega) (fun c_171 => ?_) (fun c_171 => ?_)
                          · skip
                            refine x_iconst ok (nI 0) dX5_plan_178 (by decide) ?_
                            exact J_179 0 (by first | rfl | (simp only [if_pos c_171]; done) | (simp [c_171]; done))
                          · skip
                            refine x_iconst ok (nI 1) dX5_plan_174 (by decide) ?_
                            refine x_goto ok 179 dX5_plan_175 (by decide) ?_
                            exact J_179 1 (by first | rfl | (simp only [if_neg c_171]; done) | (simp [c_171]; done))
                        refine x_if_leN ok 168 dX5_plan_161 (by decide) (by omega) (fun c_161 => ?_) (fun c_161 => ?_)
                        · skip
                          refine x_iconst ok (nI 0) dX5_plan_168 (by decide) ?_
                          exact J_169 0 (by first | rfl | (simp only [if_pos c_161]; done) | (simp [c_161]; done))
                        · skip
                          refine x_iconst ok (nI 1) dX5_plan_164 (by decide) ?_
                          refine x_goto ok 169 dX5_plan_165 (by decide) ?_
                          exact J_169 1 (by first | rfl | (simp only [if_neg c_161]; done) | (simp [c_161]; done))
                refine x_icmp_neN ok 98 dX5_plan_90 (by decide) (by omega) (by omega) (fun c_90 => ?_) (fun c_90 => ?_)
                · skip
                  refine x_iconst ok (nI 0) dX5_plan_98 (by decide) ?_
                  exact J_99 0 (by first | rfl | (simp only [if_neg c_90]; done) | (simp [c_90]; done))
                · skip
                  refine x_bipush ok (nI 16) dX5_plan_93 (by decide) ?_
                  refine x_goto ok 99 dX5_plan_95 (by decide) ?_
                  exact J_99 16 (by first | rfl | (simp only [if_pos c_90]; done) | (simp [c_90]; done))
            exact L_86 _ 0 vm few fi g8 lf279 (Nat.lt_succ_self _) (Nat.zero_le _) (Or.inl rfl) (by rw [pl_0 hS]; exact hS)
      exact L_42 _ 0 (-9) 0 0 of tf2 lf (Nat.lt_succ_self _) (by first | assumption | omega) (plS_0)
    · skip
      refine x_bipush ok ((-2)) dX5_plan_27 (by decide) ?_
      exact ret (of, tf2, lf) _ _ _ ((-2)) dX5_plan_29 (rfl) (by rw [planI, if_neg (fun z => c_24 z.2)]) (trivial)
