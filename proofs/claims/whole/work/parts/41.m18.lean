set_option maxHeartbeats 4000000 in
set_option maxRecDepth 100000 in
theorem e_fault (l : Launch) (D : va_G) (cI cZ cS : ClassId) (y : Nat) (zt : Int32) (mt : Nat) (ts : Nat) (pl : Nat) (W : Nat) (ll : Nat) (md : Nat) (ms : Nat) (rW : Nat) (mrd : Nat) (mrs : Nat) (mrp : Nat) (mp : Nat) (mb : Nat) (na : Nat) (mk : Nat) (mi : Nat) (sd : Int64) (m1 : Nat) (m2 : Nat) (m3 : Nat) (ml : Nat) (mf : Nat) (mw : Nat) (mn : Nat) (T : List Nat) (f : Nat → Int32) (df : Nat → Int32) (tf : Nat → Int32) (g : Nat → Int32) (hT : tx f T) (hO : okT T) : CO l D (TY cI cZ cS) yX5_fault cX5_fault 1 (some .int) 5 113 0 0 [.ref y] [(y, .inr (5, [.int zt, .ref mt, .int (nI T.length), .int (nI pl), .int (nI W), .int (nI ll), .ref md, .ref ms, .int (nI rW), .ref mrd, .ref mrs, .ref mrp, .ref mp, .ref mb, .int (nI na), .ref mk, .ref mi, .long sd, .ref m1, .ref m2, .ref m3, .ref ml, .ref mf, .ref mw, .ref mn])), (mt, .inl (cI, 56, .inl f)), (mrd, .inl (cI, 4, .inl df)), (mrs, .inl (cI, 4, .inl tf)), (mrp, .inl (cI, 52, .inl g))] (σ := (Nat) × (Nat → Int32) × (Nat → Int32) × (Nat → Int32)) (fun u => some (.int ((landP T).1))) (fun u => [(y, .inr (5, [.int (nI 0), .ref mt, .int (nI T.length), .int (nI u.1), .int (nI W), .int (nI ll), .ref md, .ref ms, .int (nI ((landP T).2.1.length)), .ref mrd, .ref mrs, .ref mrp, .ref mp, .ref mb, .int (nI na), .ref mk, .ref mi, .long sd, .ref m1, .ref m2, .ref m3, .ref ml, .ref mf, .ref mw, .ref mn])), (mt, .inl (cI, 56, .inl f)), (mrd, .inl (cI, 4, .inl u.2.1)), (mrs, .inl (cI, 4, .inl u.2.2.1)), (mrp, .inl (cI, 52, .inl u.2.2.2))]) (fun u => True) := by
  refine CO_mki (by decide +kernel) (Nat.le_of_ble_eq_true rfl) (fun K ok ret => ?_)
  show XX K [(y, .inr (5, [.int zt, .ref mt, .int (nI T.length), .int (nI pl), .int (nI W), .int (nI ll), .ref md, .ref ms, .int (nI rW), .ref mrd, .ref mrs, .ref mrp, .ref mp, .ref mb, .int (nI na), .ref mk, .ref mi, .long sd, .ref m1, .ref m2, .ref m3, .ref ml, .ref mf, .ref mw, .ref mn])), (mt, .inl (cI, 56, .inl f)), (mrd, .inl (cI, 4, .inl df)), (mrs, .inl (cI, 4, .inl tf)), (mrp, .inl (cI, 52, .inl g))] [(0, .ref y)] 0 []
  refine x_aload_n ok 0 dX5_fault_0 rfl rfl ?_
  refine x_iconst ok (nI 0) dX5_fault_1 (by decide) ?_
  refine pX5_62 ok dX5_fault_2 0 rfl rfl rfl (Nat.le_of_ble_eq_true rfl) (ws' := [(y, .inr (5, [.int (nI 0), .ref mt, .int (nI T.length), .int (nI pl), .int (nI W), .int (nI ll), .ref md, .ref ms, .int (nI rW), .ref mrd, .ref mrs, .ref mrp, .ref mp, .ref mb, .int (nI na), .ref mk, .ref mi, .long sd, .ref m1, .ref m2, .ref m3, .ref ml, .ref mf, .ref mw, .ref mn])), (mt, .inl (cI, 56, .inl f)), (mrd, .inl (cI, 4, .inl df)), (mrs, .inl (cI, 4, .inl tf)), (mrp, .inl (cI, 52, .inl g))]) rfl ?_
  refine x_aload_n ok 0 dX5_fault_5 rfl rfl ?_
  refine qX5_102 ok (As := []) (st := []) 0 rfl (d_readLand l D cI cZ cS y (nI 0) mt ts pl W ll md ms rW mrd mrs mrp mp mb na mk mi sd m1 m2 m3 ml mf mw mn T f df tf g (by first | assumption | omega) (by first | assumption | omega)) rfl (Nat.le_of_ble_eq_true rfl) (Nat.le_of_ble_eq_true rfl) (Nat.le_of_ble_eq_true rfl) dX5_fault_6 [0, 1, 2, 3, 4] (by decide) rfl (ws' := fun u => [(y, .inr (5, [.int (nI 0), .ref mt, .int (nI T.length), .int (nI u.1), .int (nI W), .int (nI ll), .ref md, .ref ms, .int (nI ((landP T).2.1.length)), .ref mrd, .ref mrs, .ref mrp, .ref mp, .ref mb, .int (nI na), .ref mk, .ref mi, .long sd, .ref m1, .ref m2, .ref m3, .ref ml, .ref mf, .ref mw, .ref mn])), (mt, .inl (cI, 56, .inl f)), (mrd, .inl (cI, 4, .inl u.2.1)), (mrs, .inl (cI, 4, .inl u.2.2.1)), (mrp, .inl (cI, 52, .inl u.2.2.2))]) (st' := fun u => [.int ((landP T).1)]) (fun _ => rfl) (fun _ => rfl) (fun _ => rfl) (fun u6 hu6 => ?_)
  obtain ⟨pn6, dg6, tq6, g26⟩ := u6
  obtain ⟨hD26, hT26, hg26⟩ := hu6
  have hD26 : wD dg6 (landP T).2.1 := hD26
  have hT26 : wT tq6 (landP T).2.1 := hT26
  have hg26 : PGR g26 (landP T).2.2 0 (nI 0) (nI 0) := hg26
  show XX K [(y, .inr (5, [.int (nI 0), .ref mt, .int (nI T.length), .int (nI pn6), .int (nI W), .int (nI ll), .ref md, .ref ms, .int (nI ((landP T).2.1.length)), .ref mrd, .ref mrs, .ref mrp, .ref mp, .ref mb, .int (nI na), .ref mk, .ref mi, .long sd, .ref m1, .ref m2, .ref m3, .ref ml, .ref mf, .ref mw, .ref mn])), (mt, .inl (cI, 56, .inl f)), (mrd, .inl (cI, 4, .inl dg6)), (mrs, .inl (cI, 4, .inl tq6)), (mrp, .inl (cI, 52, .inl g26))] [(0, .ref y)] 9 [.int ((landP T).1)]
  exact ret (pn6, dg6, tq6, g26) _ _ _ ((landP T).1) dX5_fault_9 (rfl) (rfl) (trivial)

set_option maxHeartbeats 4000000 in
set_option maxRecDepth 100000 in
theorem e_write0 (l : Launch) (D : va_G) (cI cZ cS : ClassId) (y : Nat) (zt : Int32) (mt : Nat) (ts : Nat) (pl : Nat) (W : Nat) (ll : Nat) (md : Nat) (ms : Nat) (rW : Nat) (mrd : Nat) (mrs : Nat) (mrp : Nat) (mp : Nat) (mb : Nat) (na : Nat) (mk : Nat) (mi : Nat) (sd : Int64) (m1 : Nat) (m2 : Nat) (m3 : Nat) (ml : Nat) (mf : Nat) (mw : Nat) (mn : Nat) (T : List Nat) (f : Nat → Int32) (z : Int32) (hT : tx f T) (hO : okT T) (hz : ¬ inB z (nI 0) (nI 255) = true) : CO l D (TY cI cZ cS) yX5_write cX5_write 2 (some .int) 1 25 0 0 [.ref y, .int z] [(y, .inr (5, [.int zt, .ref mt, .int (nI T.length), .int (nI pl), .int (nI W), .int (nI ll), .ref md, .ref ms, .int (nI rW), .ref mrd, .ref mrs, .ref mrp, .ref mp, .ref mb, .int (nI na), .ref mk, .ref mi, .long sd, .ref m1, .ref m2, .ref m3, .ref ml, .ref mf, .ref mw, .ref mn])), (mt, .inl (cI, 56, .inl f))] (σ := Unit) (fun u => some (.int (wrC T z))) (fun u => [(y, .inr (5, [.int (nI 0), .ref mt, .int (nI T.length), .int (nI pl), .int (nI W), .int (nI ll), .ref md, .ref ms, .int (nI rW), .ref mrd, .ref mrs, .ref mrp, .ref mp, .ref mb, .int (nI na), .ref mk, .ref mi, .long sd, .ref m1, .ref m2, .ref m3, .ref ml, .ref mf, .ref mw, .ref mn])), (mt, .inl (cI, 56, .inl f))]) (fun u => True) := by
  refine CO_mki (by decide +kernel) (Nat.le_of_ble_eq_true rfl) (fun K ok ret => ?_)
  show XX K [(y, .inr (5, [.int zt, .ref mt, .int (nI T.length), .int (nI pl), .int (nI W), .int (nI ll), .ref md, .ref ms, .int (nI rW), .ref mrd, .ref mrs, .ref mrp, .ref mp, .ref mb, .int (nI na), .ref mk, .ref mi, .long sd, .ref m1, .ref m2, .ref m3, .ref ml, .ref mf, .ref mw, .ref mn])), (mt, .inl (cI, 56, .inl f))] [(0, .ref y), (1, .int z)] 0 []
  refine x_aload_n ok 0 dX5_write_0 rfl rfl ?_
  refine x_iconst ok (nI 0) dX5_write_1 (by decide) ?_
  refine pX5_62 ok dX5_write_2 0 rfl rfl rfl (Nat.le_of_ble_eq_true rfl) (ws' := [(y, .inr (5, [.int (nI 0), .ref mt, .int (nI T.length), .int (nI pl), .int (nI W), .int (nI ll), .ref md, .ref ms, .int (nI rW), .ref mrd, .ref mrs, .ref mrp, .ref mp, .ref mb, .int (nI na), .ref mk, .ref mi, .long sd, .ref m1, .ref m2, .ref m3, .ref ml, .ref mf, .ref mw, .ref mn])), (mt, .inl (cI, 56, .inl f))]) rfl ?_
  refine x_iload_n ok 1 dX5_write_5 rfl rfl ?_
  refine x_i2l ok ((z).toInt64) dX5_write_6 rfl ?_
  refine x_lconst ok ((nI 0).toInt64) dX5_write_7 (by decide) ?_
  refine x_ldc2v ok KX5_73 (v' := (nI 255).toInt64) (by decide) dX5_write_8 ?_
  refine x_eq (st' := [.long ((nI 255).toInt64), .long ((nI 0).toInt64), .long ((z).toInt64)]) rfl rfl (rfl) ?_
  refine x_eq (st' := [.long ((nI 255).toInt64), .long ((nI 0).toInt64), .long ((z).toInt64)]) rfl rfl (rfl) ?_
  refine qX5_69 ok (As := [.long ((z).toInt64), .long ((nI 0).toInt64), .long ((nI 255).toInt64)]) (st := []) (d_in l D cI cZ cS z (nI 0) (nI 255) ) rfl (Nat.le_of_ble_eq_true rfl) (Nat.le_of_ble_eq_true rfl) (Nat.le_of_ble_eq_true rfl) dX5_write_11 [] (by decide) rfl (ws' := fun u => [(y, .inr (5, [.int (nI 0), .ref mt, .int (nI T.length), .int (nI pl), .int (nI W), .int (nI ll), .ref md, .ref ms, .int (nI rW), .ref mrd, .ref mrs, .ref mrp, .ref mp, .ref mb, .int (nI na), .ref mk, .ref mi, .long sd, .ref m1, .ref m2, .ref m3, .ref ml, .ref mf, .ref mw, .ref mn])), (mt, .inl (cI, 56, .inl f))]) (st' := fun u => [.int (bz (inB z (nI 0) (nI 255)))]) (fun _ => rfl) (fun _ => rfl) (fun _ => rfl) (fun _ _ => ?_)
  refine x_if_neB ok 20 dX5_write_14 (by decide) (fun c_14 => absurd c_14 (hz)) (fun c_14 => ?_)
  refine x_bipush ok ((-2)) dX5_write_17 (by decide) ?_
  exact ret () _ _ _ ((-2)) dX5_write_19 (rfl) (by rw [wrC, if_neg hz]) (trivial)

set_option maxHeartbeats 4000000 in
set_option maxRecDepth 100000 in
theorem e_write1 (l : Launch) (D : va_G) (cI cZ cS : ClassId) (y : Nat) (zt : Int32) (mt : Nat) (ts : Nat) (pl : Nat) (W : Nat) (ll : Nat) (md : Nat) (ms : Nat) (rW : Nat) (mrd : Nat) (mrs : Nat) (mrp : Nat) (mp : Nat) (mb : Nat) (na : Nat) (mk : Nat) (mi : Nat) (sd : Int64) (m1 : Nat) (m2 : Nat) (m3 : Nat) (ml : Nat) (mf : Nat) (mw : Nat) (mn : Nat) (T : List Nat) (f : Nat → Int32) (j : Nat) (hT : tx f T) (hO : okT T) (hj : j ≤ 255) : CO l D (TY cI cZ cS) yX5_write cX5_write 2 (some .int) 1 25 0 0 [.ref y, .int (nI j)] [(y, .inr (5, [.int zt, .ref mt, .int (nI T.length), .int (nI pl), .int (nI W), .int (nI ll), .ref md, .ref ms, .int (nI rW), .ref mrd, .ref mrs, .ref mrp, .ref mp, .ref mb, .int (nI na), .ref mk, .ref mi, .long sd, .ref m1, .ref m2, .ref m3, .ref ml, .ref mf, .ref mw, .ref mn])), (mt, .inl (cI, 56, .inl f))] (σ := (Nat → Int32)) (fun u => some (.int (wrC T (nI j)))) (fun u => [(y, .inr (5, [.int (nI 0), .ref mt, .int (nI ((appT T j).length)), .int (nI pl), .int (nI W), .int (nI ll), .ref md, .ref ms, .int (nI rW), .ref mrd, .ref mrs, .ref mrp, .ref mp, .ref mb, .int (nI na), .ref mk, .ref mi, .long sd, .ref m1, .ref m2, .ref m3, .ref ml, .ref mf, .ref mw, .ref mn])), (mt, .inl (cI, 56, .inl u))]) (fun u => (tx u (appT T j))) := by
  refine CO_mki (by decide +kernel) (Nat.le_of_ble_eq_true rfl) (fun K ok ret => ?_)
  show XX K [(y, .inr (5, [.int zt, .ref mt, .int (nI T.length), .int (nI pl), .int (nI W), .int (nI ll), .ref md, .ref ms, .int (nI rW), .ref mrd, .ref mrs, .ref mrp, .ref mp, .ref mb, .int (nI na), .ref mk, .ref mi, .long sd, .ref m1, .ref m2, .ref m3, .ref ml, .ref mf, .ref mw, .ref mn])), (mt, .inl (cI, 56, .inl f))] [(0, .ref y), (1, .int (nI j))] 0 []
  have htl := hO.1
  have hib : inB (nI j) (nI 0) (nI 255) = true := inB_n (a := 0) (by omega) (Nat.zero_le j) hj
  refine x_aload_n ok 0 dX5_write_0 rfl rfl ?_
  refine x_iconst ok (nI 0) dX5_write_1 (by decide) ?_
  refine pX5_62 ok dX5_write_2 0 rfl rfl rfl (Nat.le_of_ble_eq_true rfl) (ws' := [(y, .inr (5, [.int (nI 0), .ref mt, .int (nI T.length), .int (nI pl), .int (nI W), .int (nI ll), .ref md, .ref ms, .int (nI rW), .ref mrd, .ref mrs, .ref mrp, .ref mp, .ref mb, .int (nI na), .ref mk, .ref mi, .long sd, .ref m1, .ref m2, .ref m3, .ref ml, .ref mf, .ref mw, .ref mn])), (mt, .inl (cI, 56, .inl f))]) rfl ?_
  refine x_iload_n ok 1 dX5_write_5 rfl rfl ?_
  refine x_i2l ok ((nI j).toInt64) dX5_write_6 rfl ?_
  refine x_lconst ok ((nI 0).toInt64) dX5_write_7 (by decide) ?_
  refine x_ldc2v ok KX5_73 (v' := (nI 255).toInt64) (by decide) dX5_write_8 ?_
  refine x_eq (st' := [.long ((nI 255).toInt64), .long ((nI 0).toInt64), .long ((nI j).toInt64)]) rfl rfl (rfl) ?_
  refine x_eq (st' := [.long ((nI 255).toInt64), .long ((nI 0).toInt64), .long ((nI j).toInt64)]) rfl rfl (rfl) ?_
  refine qX5_69 ok (As := [.long ((nI j).toInt64), .long ((nI 0).toInt64), .long ((nI 255).toInt64)]) (st := []) (d_in l D cI cZ cS (nI j) (nI 0) (nI 255) ) rfl (Nat.le_of_ble_eq_true rfl) (Nat.le_of_ble_eq_true rfl) (Nat.le_of_ble_eq_true rfl) dX5_write_11 [] (by decide) rfl (ws' := fun u => [(y, .inr (5, [.int (nI 0), .ref mt, .int (nI T.length), .int (nI pl), .int (nI W), .int (nI ll), .ref md, .ref ms, .int (nI rW), .ref mrd, .ref mrs, .ref mrp, .ref mp, .ref mb, .int (nI na), .ref mk, .ref mi, .long sd, .ref m1, .ref m2, .ref m3, .ref ml, .ref mf, .ref mw, .ref mn])), (mt, .inl (cI, 56, .inl f))]) (st' := fun u => [.int (bz (inB (nI j) (nI 0) (nI 255)))]) (fun _ => rfl) (fun _ => rfl) (fun _ => rfl) (fun _ _ => ?_)
  refine x_if_neB ok 20 dX5_write_14 (by decide) (fun c_14 => ?_) (fun c_14 => absurd c_14 (fun q => q hib))
  refine x_aload_n ok 0 dX5_write_20 rfl rfl ?_
  refine gX5_75 ok dX5_write_21 0 rfl rfl ?_
  refine x_bipush ok (nI 56) dX5_write_24 (by decide) ?_
  refine x_icmp_neN ok 32 dX5_write_26 (by decide) (by omega) (by omega) (fun c_26 => ?_) (fun c_26 => ?_)
  · skip
    refine x_aload_n ok 0 dX5_write_32 rfl rfl ?_
    refine gX5_7 ok dX5_write_33 0 rfl rfl ?_
    refine x_aload_n ok 0 dX5_write_36 rfl rfl ?_
    refine gX5_75 ok dX5_write_37 0 rfl rfl ?_
    refine x_iload_n ok 1 dX5_write_40 rfl rfl ?_
    refine x_iast ok 1 0 T.length (ws' := [(y, .inr (5, [.int (nI 0), .ref mt, .int (nI T.length), .int (nI pl), .int (nI W), .int (nI ll), .ref md, .ref ms, .int (nI rW), .ref mrd, .ref mrs, .ref mrp, .ref mp, .ref mb, .int (nI na), .ref mk, .ref mi, .long sd, .ref m1, .ref m2, .ref m3, .ref ml, .ref mf, .ref mw, .ref mn])), (mt, .inl (cI, 56, .inl (upd f T.length (nI j))))]) dX5_write_41 rfl rfl (rfl) (by omega) (by decide) (rfl) rfl ?_
    refine x_aload_n ok 0 dX5_write_42 rfl rfl ?_
    refine x_dup ok dX5_write_43 rfl ?_
    refine gX5_75 ok dX5_write_44 0 rfl rfl ?_
    refine x_iconst ok (nI 1) dX5_write_47 (by decide) ?_
    refine x_iadd ok (nI (T.length + 1)) dX5_write_48 (nN (nI_add _ _) (by omega)) ?_
    refine pX5_75 ok dX5_write_49 0 rfl rfl rfl (Nat.le_of_ble_eq_true rfl) (ws' := [(y, .inr (5, [.int (nI 0), .ref mt, .int (nI (T.length + 1)), .int (nI pl), .int (nI W), .int (nI ll), .ref md, .ref ms, .int (nI rW), .ref mrd, .ref mrs, .ref mrp, .ref mp, .ref mb, .int (nI na), .ref mk, .ref mi, .long sd, .ref m1, .ref m2, .ref m3, .ref ml, .ref mf, .ref mw, .ref mn])), (mt, .inl (cI, 56, .inl (upd f T.length (nI j))))]) rfl ?_
    refine x_aload_n ok 0 dX5_write_52 rfl rfl ?_
    refine gX5_75 ok dX5_write_53 0 rfl rfl ?_
    exact ret (upd f T.length (nI j)) _ _ _ (nI (T.length + 1)) dX5_write_56 (by rw [show (appT T j).length = T.length + 1 by rw [appT, if_pos (by omega)]; simp]) (by rw [wrC, if_pos hib, if_pos (by omega)]) (tx_app hT (by omega))
  · skip
    refine x_bipush ok ((-4)) dX5_write_29 (by decide) ?_
    exact ret f _ _ _ ((-4)) dX5_write_31 (by rw [show appT T j = T by rw [appT, if_neg (by omega)]]) (by rw [wrC, if_pos hib, if_neg (by omega)]) (tx_app2 hT (by omega))

set_option maxHeartbeats 4000000 in
set_option maxRecDepth 100000 in
theorem e_wipe (l : Launch) (D : va_G) (cI cZ cS : ClassId) (y : Nat) (zt : Int32) (mt : Nat) (ts : Nat) (pl : Nat) (W : Nat) (ll : Nat) (md : Nat) (ms : Nat) (rW : Nat) (mrd : Nat) (mrs : Nat) (mrp : Nat) (mp : Nat) (mb : Nat) (na : Nat) (mk : Nat) (mi : Nat) (sd : Int64) (m1 : Nat) (m2 : Nat) (m3 : Nat) (ml : Nat) (mf : Nat) (mw : Nat) (mn : Nat)  : CO l D (TY cI cZ cS) yX5_wipe cX5_wipe 2 (some .int) 0 0 0 0 [.ref y] [(y, .inr (5, [.int zt, .ref mt, .int (nI ts), .int (nI pl), .int (nI W), .int (nI ll), .ref md, .ref ms, .int (nI rW), .ref mrd, .ref mrs, .ref mrp, .ref mp, .ref mb, .int (nI na), .ref mk, .ref mi, .long sd, .ref m1, .ref m2, .ref m3, .ref ml, .ref mf, .ref mw, .ref mn]))] (σ := Unit) (fun u => some (.int (nI ts))) (fun u => [(y, .inr (5, [.int (nI 0), .ref mt, .int (nI 0), .int (nI pl), .int (nI W), .int (nI ll), .ref md, .ref ms, .int (nI rW), .ref mrd, .ref mrs, .ref mrp, .ref mp, .ref mb, .int (nI na), .ref mk, .ref mi, .long sd, .ref m1, .ref m2, .ref m3, .ref ml, .ref mf, .ref mw, .ref mn]))]) (fun u => True) := by
  refine CO_mki (by decide +kernel) (Nat.le_of_ble_eq_true rfl) (fun K ok ret => ?_)
  show XX K [(y, .inr (5, [.int zt, .ref mt, .int (nI ts), .int (nI pl), .int (nI W), .int (nI ll), .ref md, .ref ms, .int (nI rW), .ref mrd, .ref mrs, .ref mrp, .ref mp, .ref mb, .int (nI na), .ref mk, .ref mi, .long sd, .ref m1, .ref m2, .ref m3, .ref ml, .ref mf, .ref mw, .ref mn]))] [(0, .ref y)] 0 []
  refine x_aload_n ok 0 dX5_wipe_0 rfl rfl ?_
  refine x_iconst ok (nI 0) dX5_wipe_1 (by decide) ?_
  refine pX5_62 ok dX5_wipe_2 0 rfl rfl rfl (Nat.le_of_ble_eq_true rfl) (ws' := [(y, .inr (5, [.int (nI 0), .ref mt, .int (nI ts), .int (nI pl), .int (nI W), .int (nI ll), .ref md, .ref ms, .int (nI rW), .ref mrd, .ref mrs, .ref mrp, .ref mp, .ref mb, .int (nI na), .ref mk, .ref mi, .long sd, .ref m1, .ref m2, .ref m3, .ref ml, .ref mf, .ref mw, .ref mn]))]) rfl ?_
  refine x_aload_n ok 0 dX5_wipe_5 rfl rfl ?_
  refine gX5_75 ok dX5_wipe_6 0 rfl rfl ?_
  refine x_istore_n ok (lv' := [(1, .int (nI ts)), (0, .ref y)]) dX5_wipe_9 rfl (by decide) rfl ?_
  refine x_aload_n ok 1 dX5_wipe_10 rfl rfl ?_
  refine x_iconst ok (nI 0) dX5_wipe_11 (by decide) ?_
  refine pX5_75 ok dX5_wipe_12 0 rfl rfl rfl (Nat.le_of_ble_eq_true rfl) (ws' := [(y, .inr (5, [.int (nI 0), .ref mt, .int (nI 0), .int (nI pl), .int (nI W), .int (nI ll), .ref md, .ref ms, .int (nI rW), .ref mrd, .ref mrs, .ref mrp, .ref mp, .ref mb, .int (nI na), .ref mk, .ref mi, .long sd, .ref m1, .ref m2, .ref m3, .ref ml, .ref mf, .ref mw, .ref mn]))]) rfl ?_
  refine x_iload_n ok 0 dX5_wipe_15 rfl rfl ?_
  exact ret () _ _ _ (nI ts) dX5_wipe_16 (rfl) (rfl) (trivial)

set_option maxHeartbeats 4000000 in
set_option maxRecDepth 100000 in
theorem e_land0 (l : Launch) (D : va_G) (cI cZ cS : ClassId) (y : Nat) (zt : Int32) (mt : Nat) (ts : Nat) (pl : Nat) (W : Nat) (ll : Nat) (md : Nat) (ms : Nat) (rW : Nat) (mrd : Nat) (mrs : Nat) (mrp : Nat) (mp : Nat) (mb : Nat) (na : Nat) (mk : Nat) (mi : Nat) (sd : Int64) (m1 : Nat) (m2 : Nat) (m3 : Nat) (ml : Nat) (mf : Nat) (mw : Nat) (mn : Nat) (T : List Nat) (f : Nat → Int32) (df : Nat → Int32) (tf : Nat → Int32) (g : Nat → Int32) (hT : tx f T) (hO : okT T) (h9 : ¬ (landP T).1 = -9) : CO l D (TY cI cZ cS) yX5_land cX5_land 2 (some .int) 5 113 0 0 [.ref y] [(y, .inr (5, [.int zt, .ref mt, .int (nI T.length), .int (nI pl), .int (nI W), .int (nI ll), .ref md, .ref ms, .int (nI rW), .ref mrd, .ref mrs, .ref mrp, .ref mp, .ref mb, .int (nI na), .ref mk, .ref mi, .long sd, .ref m1, .ref m2, .ref m3, .ref ml, .ref mf, .ref mw, .ref mn])), (mt, .inl (cI, 56, .inl f)), (mrd, .inl (cI, 4, .inl df)), (mrs, .inl (cI, 4, .inl tf)), (mrp, .inl (cI, 52, .inl g))] (σ := (Nat) × (Nat → Int32) × (Nat → Int32) × (Nat → Int32)) (fun u => some (.int ((-3)))) (fun u => [(y, .inr (5, [.int (nI 0), .ref mt, .int (nI T.length), .int (nI u.1), .int (nI W), .int (nI ll), .ref md, .ref ms, .int (nI ((landP T).2.1.length)), .ref mrd, .ref mrs, .ref mrp, .ref mp, .ref mb, .int (nI na), .ref mk, .ref mi, .long sd, .ref m1, .ref m2, .ref m3, .ref ml, .ref mf, .ref mw, .ref mn])), (mt, .inl (cI, 56, .inl f)), (mrd, .inl (cI, 4, .inl u.2.1)), (mrs, .inl (cI, 4, .inl u.2.2.1)), (mrp, .inl (cI, 52, .inl u.2.2.2))]) (fun u => True) := by
  refine CO_mki (by decide +kernel) (Nat.le_of_ble_eq_true rfl) (fun K ok ret => ?_)
  show XX K [(y, .inr (5, [.int zt, .ref mt, .int (nI T.length), .int (nI pl), .int (nI W), .int (nI ll), .ref md, .ref ms, .int (nI rW), .ref mrd, .ref mrs, .ref mrp, .ref mp, .ref mb, .int (nI na), .ref mk, .ref mi, .long sd, .ref m1, .ref m2, .ref m3, .ref ml, .ref mf, .ref mw, .ref mn])), (mt, .inl (cI, 56, .inl f)), (mrd, .inl (cI, 4, .inl df)), (mrs, .inl (cI, 4, .inl tf)), (mrp, .inl (cI, 52, .inl g))] [(0, .ref y)] 0 []
  refine x_aload_n ok 0 dX5_land_0 rfl rfl ?_
  refine x_iconst ok (nI 0) dX5_land_1 (by decide) ?_
  refine pX5_62 ok dX5_land_2 0 rfl rfl rfl (Nat.le_of_ble_eq_true rfl) (ws' := [(y, .inr (5, [.int (nI 0), .ref mt, .int (nI T.length), .int (nI pl), .int (nI W), .int (nI ll), .ref md, .ref ms, .int (nI rW), .ref mrd, .ref mrs, .ref mrp, .ref mp, .ref mb, .int (nI na), .ref mk, .ref mi, .long sd, .ref m1, .ref m2, .ref m3, .ref ml, .ref mf, .ref mw, .ref mn])), (mt, .inl (cI, 56, .inl f)), (mrd, .inl (cI, 4, .inl df)), (mrs, .inl (cI, 4, .inl tf)), (mrp, .inl (cI, 52, .inl g))]) rfl ?_
  refine x_aload_n ok 0 dX5_land_5 rfl rfl ?_
  refine qX5_102 ok (As := []) (st := []) 0 rfl (d_readLand l D cI cZ cS y (nI 0) mt ts pl W ll md ms rW mrd mrs mrp mp mb na mk mi sd m1 m2 m3 ml mf mw mn T f df tf g (by first | assumption | omega) (by first | assumption | omega)) rfl (Nat.le_of_ble_eq_true rfl) (Nat.le_of_ble_eq_true rfl) (Nat.le_of_ble_eq_true rfl) dX5_land_6 [0, 1, 2, 3, 4] (by decide) rfl (ws' := fun u => [(y, .inr (5, [.int (nI 0), .ref mt, .int (nI T.length), .int (nI u.1), .int (nI W), .int (nI ll), .ref md, .ref ms, .int (nI ((landP T).2.1.length)), .ref mrd, .ref mrs, .ref mrp, .ref mp, .ref mb, .int (nI na), .ref mk, .ref mi, .long sd, .ref m1, .ref m2, .ref m3, .ref ml, .ref mf, .ref mw, .ref mn])), (mt, .inl (cI, 56, .inl f)), (mrd, .inl (cI, 4, .inl u.2.1)), (mrs, .inl (cI, 4, .inl u.2.2.1)), (mrp, .inl (cI, 52, .inl u.2.2.2))]) (st' := fun u => [.int ((landP T).1)]) (fun _ => rfl) (fun _ => rfl) (fun _ => rfl) (fun u6 hu6 => ?_)
  obtain ⟨pn6, dg6, tq6, g26⟩ := u6
  obtain ⟨hD26, hT26, hg26⟩ := hu6
  have hD26 : wD dg6 (landP T).2.1 := hD26
  have hT26 : wT tq6 (landP T).2.1 := hT26
  have hg26 : PGR g26 (landP T).2.2 0 (nI 0) (nI 0) := hg26
  show XX K [(y, .inr (5, [.int (nI 0), .ref mt, .int (nI T.length), .int (nI pn6), .int (nI W), .int (nI ll), .ref md, .ref ms, .int (nI ((landP T).2.1.length)), .ref mrd, .ref mrs, .ref mrp, .ref mp, .ref mb, .int (nI na), .ref mk, .ref mi, .long sd, .ref m1, .ref m2, .ref m3, .ref ml, .ref mf, .ref mw, .ref mn])), (mt, .inl (cI, 56, .inl f)), (mrd, .inl (cI, 4, .inl dg6)), (mrs, .inl (cI, 4, .inl tq6)), (mrp, .inl (cI, 52, .inl g26))] [(0, .ref y)] 9 [.int ((landP T).1)]
  refine x_bipush ok ((-9)) dX5_land_9 (by decide) ?_
  refine x_icmp_eq ok 17 dX5_land_11 (by decide) (fun c_11 => absurd c_11 (h9)) (fun c_11 => ?_)
  refine x_bipush ok ((-3)) dX5_land_14 (by decide) ?_
  exact ret (pn6, dg6, tq6, g26) _ _ _ ((-3)) dX5_land_16 (rfl) (rfl) (trivial)

set_option maxHeartbeats 4000000 in
set_option maxRecDepth 100000 in
theorem e_land1 (l : Launch) (D : va_G) (cI cZ cS : ClassId) (y : Nat) (zt : Int32) (mt : Nat) (ts : Nat) (pl : Nat) (W : Nat) (ll : Nat) (md : Nat) (ms : Nat) (rW : Nat) (mrd : Nat) (mrs : Nat) (mrp : Nat) (mp : Nat) (mb : Nat) (na : Nat) (mk : Nat) (mi : Nat) (sd : Int64) (m1 : Nat) (m2 : Nat) (m3 : Nat) (ml : Nat) (mf : Nat) (mw : Nat) (mn : Nat) (T : List Nat) (f : Nat → Int32) (df : Nat → Int32) (tf : Nat → Int32) (g : Nat → Int32) (d0 : Nat → Int32) (t0 : Nat → Int32) (p0 : Nat → Int32) (kf : Nat → Int32) (hT : tx f T) (hO : okT T) (h9 : (landP T).1 = -9) : CO l D (TY cI cZ cS) yX5_land cX5_land 2 (some .int) 5 113 0 0 [.ref y] [(y, .inr (5, [.int zt, .ref mt, .int (nI T.length), .int (nI pl), .int (nI W), .int (nI ll), .ref md, .ref ms, .int (nI rW), .ref mrd, .ref mrs, .ref mrp, .ref mp, .ref mb, .int (nI na), .ref mk, .ref mi, .long sd, .ref m1, .ref m2, .ref m3, .ref ml, .ref mf, .ref mw, .ref mn])), (mt, .inl (cI, 56, .inl f)), (mrd, .inl (cI, 4, .inl df)), (mrs, .inl (cI, 4, .inl tf)), (mrp, .inl (cI, 52, .inl g)), (md, .inl (cI, 4, .inl d0)), (ms, .inl (cI, 4, .inl t0)), (mp, .inl (cI, 52, .inl p0)), (mi, .inl (cZ, 2, .inl kf))] (σ := (Nat) × (Nat → Int32) × (Nat → Int32) × (Nat → Int32) × (Nat → Int32) × (Nat → Int32) × (Nat → Int32)) (fun u => some (.int (nI (10 * (landP T).2.1.length + (landP T).2.2.length)))) (fun u => [(y, .inr (5, [.int (nI 0), .ref mt, .int (nI T.length), .int (nI u.1), .int (nI ((landP T).2.1.length)), .int (nI (lawsN (landP T).2.2)), .ref md, .ref ms, .int (nI ((landP T).2.1.length)), .ref mrd, .ref mrs, .ref mrp, .ref mp, .ref mb, .int (nI 0), .ref mk, .ref mi, .long sd, .ref m1, .ref m2, .ref m3, .ref ml, .ref mf, .ref mw, .ref mn])), (mt, .inl (cI, 56, .inl f)), (mrd, .inl (cI, 4, .inl u.2.1)), (mrs, .inl (cI, 4, .inl u.2.2.1)), (mrp, .inl (cI, 52, .inl u.2.2.2.1)), (md, .inl (cI, 4, .inl u.2.2.2.2.1)), (ms, .inl (cI, 4, .inl u.2.2.2.2.2.1)), (mp, .inl (cI, 52, .inl u.2.2.2.2.2.2)), (mi, .inl (cZ, 2, .inl (upd (upd kf 0 (nI 0)) 1 (nI 0))))]) (fun u => (wD u.2.2.2.2.1 (landP T).2.1) ∧ (wT u.2.2.2.2.2.1 (landP T).2.1) ∧ (PGR u.2.2.2.2.2.2 (landP T).2.2 0 (nI 0) (nI 0))) := by
  refine CO_mki (by decide +kernel) (Nat.le_of_ble_eq_true rfl) (fun K ok ret => ?_)
  show XX K [(y, .inr (5, [.int zt, .ref mt, .int (nI T.length), .int (nI pl), .int (nI W), .int (nI ll), .ref md, .ref ms, .int (nI rW), .ref mrd, .ref mrs, .ref mrp, .ref mp, .ref mb, .int (nI na), .ref mk, .ref mi, .long sd, .ref m1, .ref m2, .ref m3, .ref ml, .ref mf, .ref mw, .ref mn])), (mt, .inl (cI, 56, .inl f)), (mrd, .inl (cI, 4, .inl df)), (mrs, .inl (cI, 4, .inl tf)), (mrp, .inl (cI, 52, .inl g)), (md, .inl (cI, 4, .inl d0)), (ms, .inl (cI, 4, .inl t0)), (mp, .inl (cI, 52, .inl p0)), (mi, .inl (cZ, 2, .inl kf))] [(0, .ref y)] 0 []
  have hok := land_ok hO.1 h9
  have hw4 := hok.1.1
  have hl8 := hok.2.1.1
  refine x_aload_n ok 0 dX5_land_0 rfl rfl ?_
  refine x_iconst ok (nI 0) dX5_land_1 (by decide) ?_
  refine pX5_62 ok dX5_land_2 0 rfl rfl rfl (Nat.le_of_ble_eq_true rfl) (ws' := [(y, .inr (5, [.int (nI 0), .ref mt, .int (nI T.length), .int (nI pl), .int (nI W), .int (nI ll), .ref md, .ref ms, .int (nI rW), .ref mrd, .ref mrs, .ref mrp, .ref mp, .ref mb, .int (nI na), .ref mk, .ref mi, .long sd, .ref m1, .ref m2, .ref m3, .ref ml, .ref mf, .ref mw, .ref mn])), (mt, .inl (cI, 56, .inl f)), (mrd, .inl (cI, 4, .inl df)), (mrs, .inl (cI, 4, .inl tf)), (mrp, .inl (cI, 52, .inl g)), (md, .inl (cI, 4, .inl d0)), (ms, .inl (cI, 4, .inl t0)), (mp, .inl (cI, 52, .inl p0)), (mi, .inl (cZ, 2, .inl kf))]) rfl ?_
  refine x_aload_n ok 0 dX5_land_5 rfl rfl ?_
  refine qX5_102 ok (As := []) (st := []) 0 rfl (d_readLand l D cI cZ cS y (nI 0) mt ts pl W ll md ms rW mrd mrs mrp mp mb na mk mi sd m1 m2 m3 ml mf mw mn T f df tf g (by first | assumption | omega) (by first | assumption | omega)) rfl (Nat.le_of_ble_eq_true rfl) (Nat.le_of_ble_eq_true rfl) (Nat.le_of_ble_eq_true rfl) dX5_land_6 [0, 1, 2, 3, 4] (by decide) rfl (ws' := fun u => [(y, .inr (5, [.int (nI 0), .ref mt, .int (nI T.length), .int (nI u.1), .int (nI W), .int (nI ll), .ref md, .ref ms, .int (nI ((landP T).2.1.length)), .ref mrd, .ref mrs, .ref mrp, .ref mp, .ref mb, .int (nI na), .ref mk, .ref mi, .long sd, .ref m1, .ref m2, .ref m3, .ref ml, .ref mf, .ref mw, .ref mn])), (mt, .inl (cI, 56, .inl f)), (mrd, .inl (cI, 4, .inl u.2.1)), (mrs, .inl (cI, 4, .inl u.2.2.1)), (mrp, .inl (cI, 52, .inl u.2.2.2)), (md, .inl (cI, 4, .inl d0)), (ms, .inl (cI, 4, .inl t0)), (mp, .inl (cI, 52, .inl p0)), (mi, .inl (cZ, 2, .inl kf))]) (st' := fun u => [.int ((landP T).1)]) (fun _ => rfl) (fun _ => rfl) (fun _ => rfl) (fun u6 hu6 => ?_)
  obtain ⟨pn6, dg6, tq6, g26⟩ := u6
  obtain ⟨hD26, hT26, hg26⟩ := hu6
  have hD26 : wD dg6 (landP T).2.1 := hD26
  have hT26 : wT tq6 (landP T).2.1 := hT26
  have hg26 : PGR g26 (landP T).2.2 0 (nI 0) (nI 0) := hg26
  show XX K [(y, .inr (5, [.int (nI 0), .ref mt, .int (nI T.length), .int (nI pn6), .int (nI W), .int (nI ll), .ref md, .ref ms, .int (nI ((landP T).2.1.length)), .ref mrd, .ref mrs, .ref mrp, .ref mp, .ref mb, .int (nI na), .ref mk, .ref mi, .long sd, .ref m1, .ref m2, .ref m3, .ref ml, .ref mf, .ref mw, .ref mn])), (mt, .inl (cI, 56, .inl f)), (mrd, .inl (cI, 4, .inl dg6)), (mrs, .inl (cI, 4, .inl tq6)), (mrp, .inl (cI, 52, .inl g26)), (md, .inl (cI, 4, .inl d0)), (ms, .inl (cI, 4, .inl t0)), (mp, .inl (cI, 52, .inl p0)), (mi, .inl (cZ, 2, .inl kf))] [(0, .ref y)] 9 [.int ((landP T).1)]
  refine x_bipush ok ((-9)) dX5_land_9 (by decide) ?_
  refine x_icmp_eq ok 17 dX5_land_11 (by decide) (fun c_11 => ?_) (fun c_11 => absurd c_11 (fun q => q h9))
  refine x_aload_n ok 0 dX5_land_17 rfl rfl ?_
  refine x_aload_n ok 0 dX5_land_18 rfl rfl ?_
  refine gX5_85 ok dX5_land_19 0 rfl rfl ?_
  refine pX5_66 ok dX5_land_22 0 rfl rfl rfl (Nat.le_of_ble_eq_true rfl) (ws' := [(y, .inr (5, [.int (nI 0), .ref mt, .int (nI T.length), .int (nI pn6), .int (nI ((landP T).2.1.length)), .int (nI ll), .ref md, .ref ms, .int (nI ((landP T).2.1.length)), .ref mrd, .ref mrs, .ref mrp, .ref mp, .ref mb, .int (nI na), .ref mk, .ref mi, .long sd, .ref m1, .ref m2, .ref m3, .ref ml, .ref mf, .ref mw, .ref mn])), (mt, .inl (cI, 56, .inl f)), (mrd, .inl (cI, 4, .inl dg6)), (mrs, .inl (cI, 4, .inl tq6)), (mrp, .inl (cI, 52, .inl g26)), (md, .inl (cI, 4, .inl d0)), (ms, .inl (cI, 4, .inl t0)), (mp, .inl (cI, 52, .inl p0)), (mi, .inl (cZ, 2, .inl kf))]) rfl ?_
  refine x_iconst ok (nI 0) dX5_land_25 (by decide) ?_
  refine x_istore_n ok (lv' := [(1, .int (nI 0)), (0, .ref y)]) dX5_land_26 rfl (by decide) rfl ?_
  have L_27 : ∀ (n_27 : Nat) (i : Nat) (d9 : Nat → Int32) (s9 : Nat → Int32), (landP T).2.1.length - i < n_27 → (i ≤ (landP T).2.1.length) → (∀ j, j < i → d9 j = dg6 j) → (∀ j, j < i → s9 j = tq6 j) → XX K [(y, .inr (5, [.int (nI 0), .ref mt, .int (nI T.length), .int (nI pn6), .int (nI ((landP T).2.1.length)), .int (nI ll), .ref md, .ref ms, .int (nI ((landP T).2.1.length)), .ref mrd, .ref mrs, .ref mrp, .ref mp, .ref mb, .int (nI na), .ref mk, .ref mi, .long sd, .ref m1, .ref m2, .ref m3, .ref ml, .ref mf, .ref mw, .ref mn])), (mt, .inl (cI, 56, .inl f)), (mrd, .inl (cI, 4, .inl dg6)), (mrs, .inl (cI, 4, .inl tq6)), (mrp, .inl (cI, 52, .inl g26)), (md, .inl (cI, 4, .inl d9)), (ms, .inl (cI, 4, .inl s9)), (mp, .inl (cI, 52, .inl p0)), (mi, .inl (cZ, 2, .inl kf))] [(1, .int (nI i)), (0, .ref y)] 27 [] := by
    intro n_27
    induction n_27 with
    | zero => intro i d9 s9 hm; exact absurd hm (Nat.not_lt_zero _)
    | succ n_27 ih_27 =>
      intro i d9 s9 hm_27 hi hd9 hs9
      refine x_iload_n ok 0 dX5_land_27 rfl rfl ?_
      refine x_aload_n ok 1 dX5_land_28 rfl rfl ?_
      refine gX5_66 ok dX5_land_29 0 rfl rfl ?_
      refine x_icmp_geN ok 65 dX5_land_32 (by decide) (by omega) (by omega) (fun c_32 => ?_) (fun c_32 => ?_)
      · skip
        have hD3 : wD d9 (landP T).2.1 := fun w hw => by rw [hd9 w (by omega)]; exact hD26 w hw
        have hT3 : wT s9 (landP T).2.1 := fun w hw => by rw [hs9 w (by omega)]; exact hT26 w hw
        refine x_iconst ok (nI 0) dX5_land_65 (by decide) ?_
        refine x_istore_n ok (lv' := [(1, .int (nI 0)), (0, .ref y)]) dX5_land_66 rfl (by decide) rfl ?_
        have L_67 : ∀ (n_67 : Nat) (k : Nat) (g9 : Nat → Int32), 52 - k < n_67 → (k ≤ 52) → (∀ j, j < k → g9 j = g26 j) → XX K [(y, .inr (5, [.int (nI 0), .ref mt, .int (nI T.length), .int (nI pn6), .int (nI ((landP T).2.1.length)), .int (nI ll), .ref md, .ref ms, .int (nI ((landP T).2.1.length)), .ref mrd, .ref mrs, .ref mrp, .ref mp, .ref mb, .int (nI na), .ref mk, .ref mi, .long sd, .ref m1, .ref m2, .ref m3, .ref ml, .ref mf, .ref mw, .ref mn])), (mt, .inl (cI, 56, .inl f)), (mrd, .inl (cI, 4, .inl dg6)), (mrs, .inl (cI, 4, .inl tq6)), (mrp, .inl (cI, 52, .inl g26)), (md, .inl (cI, 4, .inl d9)), (ms, .inl (cI, 4, .inl s9)), (mp, .inl (cI, 52, .inl g9)), (mi, .inl (cZ, 2, .inl kf))] [(1, .int (nI k)), (0, .ref y)] 67 [] := by
          intro n_67
          induction n_67 with
          | zero => intro k g9 hm; exact absurd hm (Nat.not_lt_zero _)
          | succ n_67 ih_67 =>
            intro k g9 hm_67 hk h8
            refine x_iload_n ok 0 dX5_land_67 rfl rfl ?_
            refine x_bipush ok (nI 52) dX5_land_68 (by decide) ?_
            refine x_icmp_geN ok 91 dX5_land_70 (by decide) (by omega) (by omega) (fun c_70 => ?_) (fun c_70 => ?_)
            · skip
              have hpg : PGR g9 (landP T).2.2 0 (nI 0) (nI 0) := pgr_same hg26 hl8 (fun j hj => h8 j (by omega))
              refine x_aload_n ok 1 dX5_land_91 rfl rfl ?_
              refine x_aload_n ok 1 dX5_land_92 rfl rfl ?_
              refine gX5_28 ok dX5_land_93 0 rfl rfl ?_
              refine qX5_106 ok (As := [.ref mp]) (st := [.ref y]) (d_lawsOf l D cI cZ cS mp g9 ((landP T).2.2) 0 (nI 0) (nI 0) ((landP T).2.1.length) 0 (hpg) (hok.2.1)) rfl (Nat.le_of_ble_eq_true rfl) (Nat.le_of_ble_eq_true rfl) (Nat.le_of_ble_eq_true rfl) dX5_land_96 [7] (by decide) rfl (ws' := fun u => [(y, .inr (5, [.int (nI 0), .ref mt, .int (nI T.length), .int (nI pn6), .int (nI ((landP T).2.1.length)), .int (nI ll), .ref md, .ref ms, .int (nI ((landP T).2.1.length)), .ref mrd, .ref mrs, .ref mrp, .ref mp, .ref mb, .int (nI na), .ref mk, .ref mi, .long sd, .ref m1, .ref m2, .ref m3, .ref ml, .ref mf, .ref mw, .ref mn])), (mt, .inl (cI, 56, .inl f)), (mrd, .inl (cI, 4, .inl dg6)), (mrs, .inl (cI, 4, .inl tq6)), (mrp, .inl (cI, 52, .inl g26)), (md, .inl (cI, 4, .inl d9)), (ms, .inl (cI, 4, .inl s9)), (mp, .inl (cI, 52, .inl g9)), (mi, .inl (cZ, 2, .inl kf))]) (st' := fun u => [.int (nI (lawsN ((landP T).2.2))), .ref y]) (fun _ => rfl) (fun _ => rfl) (fun _ => rfl) (fun _ _ => ?_)
              refine pX5_110 ok dX5_land_99 0 rfl rfl rfl (Nat.le_of_ble_eq_true rfl) (ws' := [(y, .inr (5, [.int (nI 0), .ref mt, .int (nI T.length), .int (nI pn6), .int (nI ((landP T).2.1.length)), .int (nI (lawsN ((landP T).2.2))), .ref md, .ref ms, .int (nI ((landP T).2.1.length)), .ref mrd, .ref mrs, .ref mrp, .ref mp, .ref mb, .int (nI na), .ref mk, .ref mi, .long sd, .ref m1, .ref m2, .ref m3, .ref ml, .ref mf, .ref mw, .ref mn])), (mt, .inl (cI, 56, .inl f)), (mrd, .inl (cI, 4, .inl dg6)), (mrs, .inl (cI, 4, .inl tq6)), (mrp, .inl (cI, 52, .inl g26)), (md, .inl (cI, 4, .inl d9)), (ms, .inl (cI, 4, .inl s9)), (mp, .inl (cI, 52, .inl g9)), (mi, .inl (cZ, 2, .inl kf))]) rfl ?_
              refine x_aload_n ok 1 dX5_land_102 rfl rfl ?_
              refine x_iconst ok (nI 0) dX5_land_103 (by decide) ?_
              refine pX5_113 ok dX5_land_104 0 rfl rfl rfl (Nat.le_of_ble_eq_true rfl) (ws' := [(y, .inr (5, [.int (nI 0), .ref mt, .int (nI T.length), .int (nI pn6), .int (nI ((landP T).2.1.length)), .int (nI (lawsN ((landP T).2.2))), .ref md, .ref ms, .int (nI ((landP T).2.1.length)), .ref mrd, .ref mrs, .ref mrp, .ref mp, .ref mb, .int (nI 0), .ref mk, .ref mi, .long sd, .ref m1, .ref m2, .ref m3, .ref ml, .ref mf, .ref mw, .ref mn])), (mt, .inl (cI, 56, .inl f)), (mrd, .inl (cI, 4, .inl dg6)), (mrs, .inl (cI, 4, .inl tq6)), (mrp, .inl (cI, 52, .inl g26)), (md, .inl (cI, 4, .inl d9)), (ms, .inl (cI, 4, .inl s9)), (mp, .inl (cI, 52, .inl g9)), (mi, .inl (cZ, 2, .inl kf))]) rfl ?_
              refine x_aload_n ok 1 dX5_land_107 rfl rfl ?_
              refine gX5_37 ok dX5_land_108 0 rfl rfl ?_
              refine x_iconst ok (nI 0) dX5_land_111 (by decide) ?_
              refine x_iconst ok (nI 0) dX5_land_112 (by decide) ?_
              refine x_zast ok 8 1 0 (ws' := [(y, .inr (5, [.int (nI 0), .ref mt, .int (nI T.length), .int (nI pn6), .int (nI ((landP T).2.1.length)), .int (nI (lawsN ((landP T).2.2))), .ref md, .ref ms, .int (nI ((landP T).2.1.length)), .ref mrd, .ref mrs, .ref mrp, .ref mp, .ref mb, .int (nI 0), .ref mk, .ref mi, .long sd, .ref m1, .ref m2, .ref m3, .ref ml, .ref mf, .ref mw, .ref mn])), (mt, .inl (cI, 56, .inl f)), (mrd, .inl (cI, 4, .inl dg6)), (mrs, .inl (cI, 4, .inl tq6)), (mrp, .inl (cI, 52, .inl g26)), (md, .inl (cI, 4, .inl d9)), (ms, .inl (cI, 4, .inl s9)), (mp, .inl (cI, 52, .inl g9)), (mi, .inl (cZ, 2, .inl (upd kf 0 (nI 0))))]) dX5_land_113 rfl rfl (rfl) (by omega) (by decide) (by decide) (rfl) rfl ?_
              refine x_aload_n ok 1 dX5_land_114 rfl rfl ?_
              refine gX5_37 ok dX5_land_115 0 rfl rfl ?_
              refine x_iconst ok (nI 1) dX5_land_118 (by decide) ?_
              refine x_iconst ok (nI 0) dX5_land_119 (by decide) ?_
              refine x_zast ok 8 1 1 (ws' := [(y, .inr (5, [.int (nI 0), .ref mt, .int (nI T.length), .int (nI pn6), .int (nI ((landP T).2.1.length)), .int (nI (lawsN ((landP T).2.2))), .ref md, .ref ms, .int (nI ((landP T).2.1.length)), .ref mrd, .ref mrs, .ref mrp, .ref mp, .ref mb, .int (nI 0), .ref mk, .ref mi, .long sd, .ref m1, .ref m2, .ref m3, .ref ml, .ref mf, .ref mw, .ref mn])), (mt, .inl (cI, 56, .inl f)), (mrd, .inl (cI, 4, .inl dg6)), (mrs, .inl (cI, 4, .inl tq6)), (mrp, .inl (cI, 52, .inl g26)), (md, .inl (cI, 4, .inl d9)), (ms, .inl (cI, 4, .inl s9)), (mp, .inl (cI, 52, .inl g9)), (mi, .inl (cZ, 2, .inl (upd (upd kf 0 (nI 0)) 1 (nI 0))))]) dX5_land_120 rfl rfl (rfl) (by omega) (by decide) (by decide) (rfl) rfl ?_
              refine x_bipush ok (nI 10) dX5_land_121 (by decide) ?_
              refine x_aload_n ok 1 dX5_land_123 rfl rfl ?_
              refine gX5_66 ok dX5_land_124 0 rfl rfl ?_
              refine x_imul ok (nI (10 * (landP T).2.1.length)) dX5_land_127 (pk_mul _ _) ?_
              refine x_aload_n ok 1 dX5_land_128 rfl rfl ?_
              refine gX5_28 ok dX5_land_129 0 rfl rfl ?_
              refine x_bipush ok (nI 48) dX5_land_132 (by decide) ?_
              refine x_iald ok 7 0 48 dX5_land_134 rfl rfl (rfl) (by omega) (by decide) (nI ((landP T).2.2.length)) (hpg.2.1) ?_
              refine x_iadd ok (nI (10 * (landP T).2.1.length + (landP T).2.2.length)) dX5_land_135 (nI_add _ _) ?_
              exact ret (pn6, dg6, tq6, g26, d9, s9, g9) _ _ _ (nI (10 * (landP T).2.1.length + (landP T).2.2.length)) dX5_land_136 (rfl) (by first | rfl | (simp [c_32, c_70]; done)) (⟨hD3, hT3, hpg⟩)
            · skip
              refine x_aload_n ok 1 dX5_land_73 rfl rfl ?_
              refine gX5_28 ok dX5_land_74 0 rfl rfl ?_
              refine x_iload_n ok 0 dX5_land_77 rfl rfl ?_
              refine x_aload_n ok 1 dX5_land_78 rfl rfl ?_
              refine gX5_25 ok dX5_land_79 0 rfl rfl ?_
              refine x_iload_n ok 0 dX5_land_82 rfl rfl ?_
              refine x_iald ok 4 0 k dX5_land_83 rfl rfl (rfl) (by omega) (by decide) ((g26 k)) (rfl) ?_
              refine x_iast ok 7 0 k (ws' := [(y, .inr (5, [.int (nI 0), .ref mt, .int (nI T.length), .int (nI pn6), .int (nI ((landP T).2.1.length)), .int (nI ll), .ref md, .ref ms, .int (nI ((landP T).2.1.length)), .ref mrd, .ref mrs, .ref mrp, .ref mp, .ref mb, .int (nI na), .ref mk, .ref mi, .long sd, .ref m1, .ref m2, .ref m3, .ref ml, .ref mf, .ref mw, .ref mn])), (mt, .inl (cI, 56, .inl f)), (mrd, .inl (cI, 4, .inl dg6)), (mrs, .inl (cI, 4, .inl tq6)), (mrp, .inl (cI, 52, .inl g26)), (md, .inl (cI, 4, .inl d9)), (ms, .inl (cI, 4, .inl s9)), (mp, .inl (cI, 52, .inl (upd g9 k (g26 k)))), (mi, .inl (cZ, 2, .inl kf))]) dX5_land_84 rfl rfl (rfl) (by omega) (by decide) (rfl) rfl ?_
              refine x_iinc ok (v := nI (k + 1)) (lv' := [(1, .int (nI (k + 1))), (0, .ref y)]) dX5_land_85 0 rfl (nN (nI_inc _ 1) (by omega)) (by decide) rfl ?_
              refine x_goto ok 67 dX5_land_88 (by decide) ?_
              exact ih_67 (k + 1) (upd g9 k (g26 k)) (by omega) (by first | assumption | omega) (fun j hj => by rcases Nat.lt_or_ge j k with q | q; (rw [upd_n (by omega)]; exact h8 j q); (rw [show j = k by omega, upd_s]))
        exact L_67 _ 0 p0 (Nat.lt_succ_self _) (by first | assumption | omega) (fun j hj => absurd hj (Nat.not_lt_zero j))
      · skip
        refine x_aload_n ok 1 dX5_land_35 rfl rfl ?_
        refine gX5_13 ok dX5_land_36 0 rfl rfl ?_
        refine x_iload_n ok 0 dX5_land_39 rfl rfl ?_
        refine x_aload_n ok 1 dX5_land_40 rfl rfl ?_
        refine gX5_19 ok dX5_land_41 0 rfl rfl ?_
        refine x_iload_n ok 0 dX5_land_44 rfl rfl ?_
        refine x_iald ok 2 0 i dX5_land_45 rfl rfl (rfl) (by omega) (by decide) ((dg6 i)) (rfl) ?_
        refine x_iast ok 5 0 i (ws' := [(y, .inr (5, [.int (nI 0), .ref mt, .int (nI T.length), .int (nI pn6), .int (nI ((landP T).2.1.length)), .int (nI ll), .ref md, .ref ms, .int (nI ((landP T).2.1.length)), .ref mrd, .ref mrs, .ref mrp, .ref mp, .ref mb, .int (nI na), .ref mk, .ref mi, .long sd, .ref m1, .ref m2, .ref m3, .ref ml, .ref mf, .ref mw, .ref mn])), (mt, .inl (cI, 56, .inl f)), (mrd, .inl (cI, 4, .inl dg6)), (mrs, .inl (cI, 4, .inl tq6)), (mrp, .inl (cI, 52, .inl g26)), (md, .inl (cI, 4, .inl (upd d9 i (dg6 i)))), (ms, .inl (cI, 4, .inl s9)), (mp, .inl (cI, 52, .inl p0)), (mi, .inl (cZ, 2, .inl kf))]) dX5_land_46 rfl rfl (rfl) (by omega) (by decide) (rfl) rfl ?_
        refine x_aload_n ok 1 dX5_land_47 rfl rfl ?_
        refine gX5_16 ok dX5_land_48 0 rfl rfl ?_
        refine x_iload_n ok 0 dX5_land_51 rfl rfl ?_
        refine x_aload_n ok 1 dX5_land_52 rfl rfl ?_
        refine gX5_22 ok dX5_land_53 0 rfl rfl ?_
        refine x_iload_n ok 0 dX5_land_56 rfl rfl ?_
        refine x_iald ok 3 0 i dX5_land_57 rfl rfl (rfl) (by omega) (by decide) ((tq6 i)) (rfl) ?_
        refine x_iast ok 6 0 i (ws' := [(y, .inr (5, [.int (nI 0), .ref mt, .int (nI T.length), .int (nI pn6), .int (nI ((landP T).2.1.length)), .int (nI ll), .ref md, .ref ms, .int (nI ((landP T).2.1.length)), .ref mrd, .ref mrs, .ref mrp, .ref mp, .ref mb, .int (nI na), .ref mk, .ref mi, .long sd, .ref m1, .ref m2, .ref m3, .ref ml, .ref mf, .ref mw, .ref mn])), (mt, .inl (cI, 56, .inl f)), (mrd, .inl (cI, 4, .inl dg6)), (mrs, .inl (cI, 4, .inl tq6)), (mrp, .inl (cI, 52, .inl g26)), (md, .inl (cI, 4, .inl (upd d9 i (dg6 i)))), (ms, .inl (cI, 4, .inl (upd s9 i (tq6 i)))), (mp, .inl (cI, 52, .inl p0)), (mi, .inl (cZ, 2, .inl kf))]) dX5_land_58 rfl rfl (rfl) (by omega) (by decide) (rfl) rfl ?_
        refine x_iinc ok (v := nI (i + 1)) (lv' := [(1, .int (nI (i + 1))), (0, .ref y)]) dX5_land_59 0 rfl (nN (nI_inc _ 1) (by omega)) (by decide) rfl ?_
        refine x_goto ok 27 dX5_land_62 (by decide) ?_
        exact ih_27 (i + 1) (upd d9 i (dg6 i)) (upd s9 i (tq6 i)) (by omega) (by first | assumption | omega) (fun j hj => by rcases Nat.lt_or_ge j i with q | q; (rw [upd_n (by omega)]; exact hd9 j q); (rw [show j = i by omega, upd_s])) (fun j hj => by rcases Nat.lt_or_ge j i with q | q; (rw [upd_n (by omega)]; exact hs9 j q); (rw [show j = i by omega, upd_s]))
  exact L_27 _ 0 d0 t0 (Nat.lt_succ_self _) (by first | assumption | omega) (fun j hj => absurd hj (Nat.not_lt_zero j)) (fun j hj => absurd hj (Nat.not_lt_zero j))
