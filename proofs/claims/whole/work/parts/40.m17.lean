set_option maxHeartbeats 4000000 in
set_option maxRecDepth 100000 in
theorem d_figure (l : Launch) (D : va_G) (cI cZ cS : ClassId) (y : Nat) (zt : Int32) (mt : Nat) (ts : Nat) (pl : Nat) (W : Nat) (ll : Nat) (md : Nat) (ms : Nat) (rW : Nat) (mrd : Nat) (mrs : Nat) (mrp : Nat) (mp : Nat) (mb : Nat) (na : Nat) (mk : Nat) (mi : Nat) (sd : Int64) (m1 : Nat) (m2 : Nat) (m3 : Nat) (ml : Nat) (mf : Nat) (mw : Nat) (mn : Nat) (T : List Nat) (f : Nat → Int32) (lo : Nat) (up : Nat) (hT : tx f T) (hO : okT T) (hpl : pl ≤ T.length) (hlo : lo < 100) (hup : up < 100) : CO l D (TY cI cZ cS) yX5_figure cX5_figure 3 (some .int) 1 25 0 0 [.ref y, .int (nI lo), .int (nI up)] [(y, .inr (5, [.int zt, .ref mt, .int (nI T.length), .int (nI pl), .int (nI W), .int (nI ll), .ref md, .ref ms, .int (nI rW), .ref mrd, .ref mrs, .ref mrp, .ref mp, .ref mb, .int (nI na), .ref mk, .ref mi, .long sd, .ref m1, .ref m2, .ref m3, .ref ml, .ref mf, .ref mw, .ref mn])), (mt, .inl (cI, 56, .inl f))] (σ := Unit) (fun u => some (.int (fgV T pl lo up))) (fun u => [(y, .inr (5, [.int zt, .ref mt, .int (nI T.length), .int (nI (fgP T pl lo up)), .int (nI W), .int (nI ll), .ref md, .ref ms, .int (nI rW), .ref mrd, .ref mrs, .ref mrp, .ref mp, .ref mb, .int (nI na), .ref mk, .ref mi, .long sd, .ref m1, .ref m2, .ref m3, .ref ml, .ref mf, .ref mw, .ref mn])), (mt, .inl (cI, 56, .inl f))]) (fun u => True) := by
  refine CO_mki (by decide +kernel) (Nat.le_of_ble_eq_true rfl) (fun K ok ret => ?_)
  show XX K [(y, .inr (5, [.int zt, .ref mt, .int (nI T.length), .int (nI pl), .int (nI W), .int (nI ll), .ref md, .ref ms, .int (nI rW), .ref mrd, .ref mrs, .ref mrp, .ref mp, .ref mb, .int (nI na), .ref mk, .ref mi, .long sd, .ref m1, .ref m2, .ref m3, .ref ml, .ref mf, .ref mw, .ref mn])), (mt, .inl (cI, 56, .inl f))] [(0, .ref y), (1, .int (nI lo)), (2, .int (nI up))] 0 []
  have htl := hO.1
  refine x_aload_n ok 0 dX5_figure_0 rfl rfl ?_
  refine gX5_78 ok dX5_figure_1 0 rfl rfl ?_
  refine x_aload_n ok 0 dX5_figure_4 rfl rfl ?_
  refine gX5_75 ok dX5_figure_5 0 rfl rfl ?_
  refine x_icmp_eqN ok 34 dX5_figure_8 (by decide) (by omega) (by omega) (fun c_8 => ?_) (fun c_8 => ?_)
  · skip
    have hd : ¬ dgB T pl lo up = true := by simp only [dgB, Bool.and_eq_true, decide_eq_true_eq]; omega
    refine x_bipush ok ((-9)) dX5_figure_34 (by decide) ?_
    exact ret () _ _ _ ((-9)) dX5_figure_36 (by rw [(fgV_f hd).2]) ((fgV_f hd).1) (trivial)
  · skip
    have h256 := hO.2 pl (by omega)
    refine x_aload_n ok 0 dX5_figure_11 rfl rfl ?_
    refine gX5_7 ok dX5_figure_12 0 rfl rfl ?_
    refine x_aload_n ok 0 dX5_figure_15 rfl rfl ?_
    refine gX5_78 ok dX5_figure_16 0 rfl rfl ?_
    refine x_iald ok 1 0 pl dX5_figure_19 rfl rfl (rfl) (by omega) (by decide) (nI (tg T pl)) (hT pl (by omega)) ?_
    refine x_bipush ok (nI 48) dX5_figure_20 (by decide) ?_
    refine x_isub ok (((nI (tg T pl)) - (nI 48))) dX5_figure_22 (rfl) ?_
    refine x_i2l ok ((((nI (tg T pl)) - (nI 48))).toInt64) dX5_figure_23 rfl ?_
    refine x_iload_n ok 1 dX5_figure_24 rfl rfl ?_
    refine x_i2l ok ((nI lo).toInt64) dX5_figure_25 rfl ?_
    refine x_iload_n ok 2 dX5_figure_26 rfl rfl ?_
    refine x_i2l ok ((nI up).toInt64) dX5_figure_27 rfl ?_
    refine qX5_69 ok (As := [.long ((((nI (tg T pl)) - (nI 48))).toInt64), .long ((nI lo).toInt64), .long ((nI up).toInt64)]) (st := []) (d_in l D cI cZ cS ((nI (tg T pl)) - (nI 48)) (nI lo) (nI up) ) rfl (Nat.le_of_ble_eq_true rfl) (Nat.le_of_ble_eq_true rfl) (Nat.le_of_ble_eq_true rfl) dX5_figure_28 [] (by decide) rfl (ws' := fun u => [(y, .inr (5, [.int zt, .ref mt, .int (nI T.length), .int (nI pl), .int (nI W), .int (nI ll), .ref md, .ref ms, .int (nI rW), .ref mrd, .ref mrs, .ref mrp, .ref mp, .ref mb, .int (nI na), .ref mk, .ref mi, .long sd, .ref m1, .ref m2, .ref m3, .ref ml, .ref mf, .ref mw, .ref mn])), (mt, .inl (cI, 56, .inl f))]) (st' := fun u => [.int (bz (inB ((nI (tg T pl)) - (nI 48)) (nI lo) (nI up)))]) (fun _ => rfl) (fun _ => rfl) (fun _ => rfl) (fun _ _ => ?_)
    refine x_if_neB ok 37 dX5_figure_31 (by decide) (fun c_31 => ?_) (fun c_31 => ?_)
    · skip
      have hd : dgB T pl lo up = true := by rw [inB_48 h256 hlo hup] at c_31; simp only [Bool.and_eq_true, decide_eq_true_eq] at c_31; simp only [dgB, Bool.and_eq_true, decide_eq_true_eq]; omega
      have hdb := dgB_b hd hup
      have h48 : 48 ≤ tg T pl := by simp only [dgB, Bool.and_eq_true, decide_eq_true_eq] at hd; omega
      refine x_aload_n ok 0 dX5_figure_37 rfl rfl ?_
      refine x_dup ok dX5_figure_38 rfl ?_
      refine gX5_78 ok dX5_figure_39 0 rfl rfl ?_
      refine x_iconst ok (nI 1) dX5_figure_42 (by decide) ?_
      refine x_iadd ok (nI (pl + 1)) dX5_figure_43 (nN (nI_add _ _) (by omega)) ?_
      refine pX5_78 ok dX5_figure_44 0 rfl rfl rfl (Nat.le_of_ble_eq_true rfl) (ws' := [(y, .inr (5, [.int zt, .ref mt, .int (nI T.length), .int (nI (pl + 1)), .int (nI W), .int (nI ll), .ref md, .ref ms, .int (nI rW), .ref mrd, .ref mrs, .ref mrp, .ref mp, .ref mb, .int (nI na), .ref mk, .ref mi, .long sd, .ref m1, .ref m2, .ref m3, .ref ml, .ref mf, .ref mw, .ref mn])), (mt, .inl (cI, 56, .inl f))]) rfl ?_
      refine x_aload_n ok 0 dX5_figure_47 rfl rfl ?_
      refine gX5_7 ok dX5_figure_48 0 rfl rfl ?_
      refine x_aload_n ok 0 dX5_figure_51 rfl rfl ?_
      refine gX5_78 ok dX5_figure_52 0 rfl rfl ?_
      refine x_iconst ok (nI 1) dX5_figure_55 (by decide) ?_
      refine x_isub ok (nI ((pl + 1) - 1)) dX5_figure_56 (pk_sub (by omega)) ?_
      refine x_iald ok 1 0 ((pl + 1) - 1) dX5_figure_57 rfl rfl (rfl) (by omega) (by decide) (nI (tg T pl)) (by rw [show pl + 1 - 1 = pl by omega]; exact hT pl (by omega)) ?_
      refine x_bipush ok (nI 48) dX5_figure_58 (by decide) ?_
      refine x_isub ok (nI ((tg T pl) - 48)) dX5_figure_60 (pk_sub (by omega)) ?_
      exact ret () _ _ _ (nI ((tg T pl) - 48)) dX5_figure_61 (by rw [(fgV_t hd).2]) ((fgV_t hd).1) (trivial)
    · skip
      have hd : ¬ dgB T pl lo up = true := fun q => c_31 (by rw [inB_48 h256 hlo hup]; simp only [dgB, Bool.and_eq_true, decide_eq_true_eq] at q; simp; omega)
      refine x_bipush ok ((-9)) dX5_figure_34 (by decide) ?_
      exact ret () _ _ _ ((-9)) dX5_figure_36 (by rw [(fgV_f hd).2]) ((fgV_f hd).1) (trivial)

set_option maxHeartbeats 4000000 in
set_option maxRecDepth 100000 in
theorem d_readWell (l : Launch) (D : va_G) (cI cZ cS : ClassId) (y : Nat) (zt : Int32) (mt : Nat) (ts : Nat) (pl : Nat) (W : Nat) (ll : Nat) (md : Nat) (ms : Nat) (rW : Nat) (mrd : Nat) (mrs : Nat) (mrp : Nat) (mp : Nat) (mb : Nat) (na : Nat) (mk : Nat) (mi : Nat) (sd : Int64) (m1 : Nat) (m2 : Nat) (m3 : Nat) (ml : Nat) (mf : Nat) (mw : Nat) (mn : Nat) (T : List Nat) (f : Nat → Int32) (Ws : List (Nat × Nat)) (df : Nat → Int32) (tf : Nat → Int32) (hT : tx f T) (hO : okT T) (hpl : pl ≤ T.length) (hw4 : Ws.length < 4) (hD : wD df Ws) (hTw : wT tf Ws) : CO l D (TY cI cZ cS) yX5_readWell cX5_readWell 3 (some .boolean) 2 47 0 0 [.ref y] [(y, .inr (5, [.int zt, .ref mt, .int (nI T.length), .int (nI pl), .int (nI W), .int (nI ll), .ref md, .ref ms, .int (nI Ws.length), .ref mrd, .ref mrs, .ref mrp, .ref mp, .ref mb, .int (nI na), .ref mk, .ref mi, .long sd, .ref m1, .ref m2, .ref m3, .ref ml, .ref mf, .ref mw, .ref mn])), (mt, .inl (cI, 56, .inl f)), (mrd, .inl (cI, 4, .inl df)), (mrs, .inl (cI, 4, .inl tf))] (σ := (Nat → Int32) × (Nat → Int32)) (fun u => some (.int (bz (wlOk T pl)))) (fun u => [(y, .inr (5, [.int zt, .ref mt, .int (nI T.length), .int (nI (wlP T pl)), .int (nI W), .int (nI ll), .ref md, .ref ms, .int (nI ((wlW T pl Ws).length)), .ref mrd, .ref mrs, .ref mrp, .ref mp, .ref mb, .int (nI na), .ref mk, .ref mi, .long sd, .ref m1, .ref m2, .ref m3, .ref ml, .ref mf, .ref mw, .ref mn])), (mt, .inl (cI, 56, .inl f)), (mrd, .inl (cI, 4, .inl u.1)), (mrs, .inl (cI, 4, .inl u.2))]) (fun u => (wD u.1 (wlW T pl Ws)) ∧ (wT u.2 (wlW T pl Ws))) := by
  refine CO_mkz (by decide +kernel) (Nat.le_of_ble_eq_true rfl) (fun K ok ret => ?_)
  show XX K [(y, .inr (5, [.int zt, .ref mt, .int (nI T.length), .int (nI pl), .int (nI W), .int (nI ll), .ref md, .ref ms, .int (nI Ws.length), .ref mrd, .ref mrs, .ref mrp, .ref mp, .ref mb, .int (nI na), .ref mk, .ref mi, .long sd, .ref m1, .ref m2, .ref m3, .ref ml, .ref mf, .ref mw, .ref mn])), (mt, .inl (cI, 56, .inl f)), (mrd, .inl (cI, 4, .inl df)), (mrs, .inl (cI, 4, .inl tf))] [(0, .ref y)] 0 []
  refine x_aload_n ok 0 dX5_readWell_0 rfl rfl ?_
  refine x_iconst ok (nI 1) dX5_readWell_1 (by decide) ?_
  refine x_bipush ok (nI 9) dX5_readWell_2 (by decide) ?_
  refine qX5_81 ok (As := [.int (nI 1), .int (nI 9)]) (st := []) 0 rfl (d_figure l D cI cZ cS y zt mt ts pl W ll md ms Ws.length mrd mrs mrp mp mb na mk mi sd m1 m2 m3 ml mf mw mn T f 1 9 (by first | assumption | omega) (by first | assumption | omega) (by first | assumption | omega) (by first | assumption | omega) (by first | assumption | omega)) rfl (Nat.le_of_ble_eq_true rfl) (Nat.le_of_ble_eq_true rfl) (Nat.le_of_ble_eq_true rfl) dX5_readWell_4 [0, 1] (by decide) rfl (ws' := fun u => [(y, .inr (5, [.int zt, .ref mt, .int (nI T.length), .int (nI (fgP T pl 1 9)), .int (nI W), .int (nI ll), .ref md, .ref ms, .int (nI Ws.length), .ref mrd, .ref mrs, .ref mrp, .ref mp, .ref mb, .int (nI na), .ref mk, .ref mi, .long sd, .ref m1, .ref m2, .ref m3, .ref ml, .ref mf, .ref mw, .ref mn])), (mt, .inl (cI, 56, .inl f)), (mrd, .inl (cI, 4, .inl df)), (mrs, .inl (cI, 4, .inl tf))]) (st' := fun u => [.int (fgV T pl 1 9)]) (fun _ => rfl) (fun _ => rfl) (fun _ => rfl) (fun _ _ => ?_)
  refine x_istore_n ok (lv' := [(1, .int (fgV T pl 1 9)), (0, .ref y)]) dX5_readWell_7 rfl (by decide) rfl ?_
  refine x_iload_n ok 0 dX5_readWell_8 rfl rfl ?_
  refine x_bipush ok ((-9)) dX5_readWell_9 (by decide) ?_
  refine x_icmp_ne ok 19 dX5_readWell_11 (by decide) (fun c_11 => ?_) (fun c_11 => ?_)
  · skip
    have hd1 : dgB T pl 1 9 = true := Classical.byContradiction fun q => c_11 ((fgV_9 (by omega)).mpr q)
    have hb1 := dgB_b hd1 (by omega)
    rw [show fgV T pl 1 9 = nI (tg T pl - 48) from (fgV_t hd1).1]
    rw [show fgP T pl 1 9 = (pl + 1) from (fgV_t hd1).2]
    refine x_aload_n ok 1 dX5_readWell_19 rfl rfl ?_
    refine x_iconst ok (nI 0) dX5_readWell_20 (by decide) ?_
    refine x_iconst ok (nI 2) dX5_readWell_21 (by decide) ?_
    refine qX5_81 ok (As := [.int (nI 0), .int (nI 2)]) (st := []) 0 rfl (d_figure l D cI cZ cS y zt mt ts (pl + 1) W ll md ms Ws.length mrd mrs mrp mp mb na mk mi sd m1 m2 m3 ml mf mw mn T f 0 2 (by first | assumption | omega) (by first | assumption | omega) (by first | assumption | omega) (by first | assumption | omega) (by first | assumption | omega)) rfl (Nat.le_of_ble_eq_true rfl) (Nat.le_of_ble_eq_true rfl) (Nat.le_of_ble_eq_true rfl) dX5_readWell_22 [0, 1] (by decide) rfl (ws' := fun u => [(y, .inr (5, [.int zt, .ref mt, .int (nI T.length), .int (nI (fgP T (pl + 1) 0 2)), .int (nI W), .int (nI ll), .ref md, .ref ms, .int (nI Ws.length), .ref mrd, .ref mrs, .ref mrp, .ref mp, .ref mb, .int (nI na), .ref mk, .ref mi, .long sd, .ref m1, .ref m2, .ref m3, .ref ml, .ref mf, .ref mw, .ref mn])), (mt, .inl (cI, 56, .inl f)), (mrd, .inl (cI, 4, .inl df)), (mrs, .inl (cI, 4, .inl tf))]) (st' := fun u => [.int (fgV T (pl + 1) 0 2)]) (fun _ => rfl) (fun _ => rfl) (fun _ => rfl) (fun _ _ => ?_)
    refine x_istore_n ok (lv' := [(2, .int (fgV T (pl + 1) 0 2)), (1, .int (nI (tg T pl - 48))), (0, .ref y)]) dX5_readWell_25 rfl (by decide) rfl ?_
    refine x_iload_n ok 0 dX5_readWell_26 rfl rfl ?_
    refine x_bipush ok ((-9)) dX5_readWell_27 (by decide) ?_
    refine x_icmp_ne ok 34 dX5_readWell_29 (by decide) (fun c_29 => ?_) (fun c_29 => ?_)
    · skip
      have hd2 : dgB T (pl + 1) 0 2 = true := Classical.byContradiction fun q => c_29 ((fgV_9 (by omega)).mpr q)
      have hb2 := dgB_b hd2 (by omega)
      rw [show fgV T (pl + 1) 0 2 = nI (tg T (pl + 1) - 48) from (fgV_t hd2).1]
      rw [show fgP T (pl + 1) 0 2 = (pl + 2) from (fgV_t hd2).2]
      refine x_aload_n ok 2 dX5_readWell_34 rfl rfl ?_
      refine gX5_19 ok dX5_readWell_35 0 rfl rfl ?_
      refine x_aload_n ok 2 dX5_readWell_38 rfl rfl ?_
      refine gX5_85 ok dX5_readWell_39 0 rfl rfl ?_
      refine x_iload_n ok 1 dX5_readWell_42 rfl rfl ?_
      refine x_iast ok 2 0 Ws.length (ws' := [(y, .inr (5, [.int zt, .ref mt, .int (nI T.length), .int (nI (pl + 2)), .int (nI W), .int (nI ll), .ref md, .ref ms, .int (nI Ws.length), .ref mrd, .ref mrs, .ref mrp, .ref mp, .ref mb, .int (nI na), .ref mk, .ref mi, .long sd, .ref m1, .ref m2, .ref m3, .ref ml, .ref mf, .ref mw, .ref mn])), (mt, .inl (cI, 56, .inl f)), (mrd, .inl (cI, 4, .inl (upd df Ws.length (nI (tg T pl - 48))))), (mrs, .inl (cI, 4, .inl tf))]) dX5_readWell_43 rfl rfl (rfl) (by omega) (by decide) (rfl) rfl ?_
      refine x_aload_n ok 2 dX5_readWell_44 rfl rfl ?_
      refine gX5_22 ok dX5_readWell_45 0 rfl rfl ?_
      refine x_aload_n ok 2 dX5_readWell_48 rfl rfl ?_
      refine gX5_85 ok dX5_readWell_49 0 rfl rfl ?_
      refine x_iload_n ok 0 dX5_readWell_52 rfl rfl ?_
      refine x_iast ok 3 0 Ws.length (ws' := [(y, .inr (5, [.int zt, .ref mt, .int (nI T.length), .int (nI (pl + 2)), .int (nI W), .int (nI ll), .ref md, .ref ms, .int (nI Ws.length), .ref mrd, .ref mrs, .ref mrp, .ref mp, .ref mb, .int (nI na), .ref mk, .ref mi, .long sd, .ref m1, .ref m2, .ref m3, .ref ml, .ref mf, .ref mw, .ref mn])), (mt, .inl (cI, 56, .inl f)), (mrd, .inl (cI, 4, .inl (upd df Ws.length (nI (tg T pl - 48))))), (mrs, .inl (cI, 4, .inl (upd tf Ws.length (nI (tg T (pl + 1) - 48)))))]) dX5_readWell_53 rfl rfl (rfl) (by omega) (by decide) (rfl) rfl ?_
      refine x_aload_n ok 2 dX5_readWell_54 rfl rfl ?_
      refine x_dup ok dX5_readWell_55 rfl ?_
      refine gX5_85 ok dX5_readWell_56 0 rfl rfl ?_
      refine x_iconst ok (nI 1) dX5_readWell_59 (by decide) ?_
      refine x_iadd ok (nI (Ws.length + 1)) dX5_readWell_60 (nN (nI_add _ _) (by omega)) ?_
      refine pX5_85 ok dX5_readWell_61 0 rfl rfl rfl (Nat.le_of_ble_eq_true rfl) (ws' := [(y, .inr (5, [.int zt, .ref mt, .int (nI T.length), .int (nI (pl + 2)), .int (nI W), .int (nI ll), .ref md, .ref ms, .int (nI (Ws.length + 1)), .ref mrd, .ref mrs, .ref mrp, .ref mp, .ref mb, .int (nI na), .ref mk, .ref mi, .long sd, .ref m1, .ref m2, .ref m3, .ref ml, .ref mf, .ref mw, .ref mn])), (mt, .inl (cI, 56, .inl f)), (mrd, .inl (cI, 4, .inl (upd df Ws.length (nI (tg T pl - 48))))), (mrs, .inl (cI, 4, .inl (upd tf Ws.length (nI (tg T (pl + 1) - 48)))))]) rfl ?_
      refine x_iconst ok (nI 1) dX5_readWell_64 (by decide) ?_
      exact ret ((upd df Ws.length (nI (tg T pl - 48))), (upd tf Ws.length (nI (tg T (pl + 1) - 48)))) _ _ _ (true) dX5_readWell_65 (by rw [show wlP T pl = pl + 2 from by simp [wlP, fgP, hd1, hd2], show (wlW T pl Ws).length = Ws.length + 1 from by simp [wlW, wlOk, hd1, hd2]]) (by simp [wlOk, hd1, hd2]) (⟨by rw [show wlW T pl Ws = Ws ++ [(tg T pl - 48, tg T (pl + 1) - 48)] by simp [wlW, wlOk, hd1, hd2]]; exact wD_app hD, by rw [show wlW T pl Ws = Ws ++ [(tg T pl - 48, tg T (pl + 1) - 48)] by simp [wlW, wlOk, hd1, hd2]]; exact wT_app hTw⟩)
    · skip
      have hd2 : ¬ dgB T (pl + 1) 0 2 = true := (fgV_9 (by omega)).mp c_29
      rw [show fgP T (pl + 1) 0 2 = pl + 1 from (fgV_f hd2).2]
      refine x_iconst ok (nI 0) dX5_readWell_32 (by decide) ?_
      exact ret (df, tf) _ _ _ (false) dX5_readWell_33 (by rw [show wlP T pl = pl + 1 from by simp [wlP, fgP, hd1, hd2], show wlW T pl Ws = Ws from by simp [wlW, wlOk, hd1, hd2]]) (by simp [wlOk, hd1, hd2]) (⟨by rw [show wlW T pl Ws = Ws by simp [wlW, wlOk, hd1, hd2]]; assumption, by rw [show wlW T pl Ws = Ws by simp [wlW, wlOk, hd1, hd2]]; assumption⟩)
  · skip
    have hd1 : ¬ dgB T pl 1 9 = true := (fgV_9 (by omega)).mp c_11
    rw [show fgP T pl 1 9 = pl from (fgV_f hd1).2]
    refine x_bipush ok ((-9)) dX5_readWell_14 (by decide) ?_
    refine x_goto ok 25 dX5_readWell_16 (by decide) ?_
    refine x_istore_n ok (lv' := [(2, .int (-9)), (1, .int (fgV T pl 1 9)), (0, .ref y)]) dX5_readWell_25 rfl (by decide) rfl ?_
    refine x_iload_n ok 0 dX5_readWell_26 rfl rfl ?_
    refine x_bipush ok ((-9)) dX5_readWell_27 (by decide) ?_
    refine x_icmp_ne ok 34 dX5_readWell_29 (by decide) (fun c_29 => absurd c_29 (fun q => q rfl)) (fun c_29 => ?_)
    refine x_iconst ok (nI 0) dX5_readWell_32 (by decide) ?_
    exact ret (df, tf) _ _ _ (false) dX5_readWell_33 (by rw [show wlP T pl = pl from by simp [wlP, hd1], show wlW T pl Ws = Ws from by simp [wlW, wlOk, hd1]]) (by simp [wlOk, hd1]) (⟨by rw [show wlW T pl Ws = Ws by simp [wlW, wlOk, hd1]]; assumption, by rw [show wlW T pl Ws = Ws by simp [wlW, wlOk, hd1]]; assumption⟩)

set_option maxHeartbeats 4000000 in
set_option maxRecDepth 100000 in
theorem d_readSong (l : Launch) (D : va_G) (cI cZ cS : ClassId) (y : Nat) (zt : Int32) (mt : Nat) (ts : Nat) (pl : Nat) (W : Nat) (ll : Nat) (md : Nat) (ms : Nat) (rW : Nat) (mrd : Nat) (mrs : Nat) (mrp : Nat) (mp : Nat) (mb : Nat) (na : Nat) (mk : Nat) (mi : Nat) (sd : Int64) (m1 : Nat) (m2 : Nat) (m3 : Nat) (ml : Nat) (mf : Nat) (mw : Nat) (mn : Nat) (T : List Nat) (f : Nat → Int32) (g : Nat → Int32) (L : List Sg) (li : Nat) (ye : Int32) (br : Int32) (hT : tx f T) (hO : okT T) (hpl : pl ≤ T.length) (hr0 : 0 < rW) (hr4 : rW ≤ 4) (hg : PGR g L li ye br) (h6 : L.length < 6) : CO l D (TY cI cZ cS) yX5_readSong cX5_readSong 5 (some .boolean) 2 47 0 0 [.ref y] [(y, .inr (5, [.int zt, .ref mt, .int (nI T.length), .int (nI pl), .int (nI W), .int (nI ll), .ref md, .ref ms, .int (nI rW), .ref mrd, .ref mrs, .ref mrp, .ref mp, .ref mb, .int (nI na), .ref mk, .ref mi, .long sd, .ref m1, .ref m2, .ref m3, .ref ml, .ref mf, .ref mw, .ref mn])), (mt, .inl (cI, 56, .inl f)), (mrp, .inl (cI, 52, .inl g))] (σ := (Nat → Int32)) (fun u => some (.int (bz (sgOk T pl rW)))) (fun u => [(y, .inr (5, [.int zt, .ref mt, .int (nI T.length), .int (nI (sgP T pl rW)), .int (nI W), .int (nI ll), .ref md, .ref ms, .int (nI rW), .ref mrd, .ref mrs, .ref mrp, .ref mp, .ref mb, .int (nI na), .ref mk, .ref mi, .long sd, .ref m1, .ref m2, .ref m3, .ref ml, .ref mf, .ref mw, .ref mn])), (mt, .inl (cI, 56, .inl f)), (mrp, .inl (cI, 52, .inl u))]) (fun u => (PGR u (sgL T pl rW L) li ye br)) := by
  refine CO_mkz (by decide +kernel) (Nat.le_of_ble_eq_true rfl) (fun K ok ret => ?_)
  show XX K [(y, .inr (5, [.int zt, .ref mt, .int (nI T.length), .int (nI pl), .int (nI W), .int (nI ll), .ref md, .ref ms, .int (nI rW), .ref mrd, .ref mrs, .ref mrp, .ref mp, .ref mb, .int (nI na), .ref mk, .ref mi, .long sd, .ref m1, .ref m2, .ref m3, .ref ml, .ref mf, .ref mw, .ref mn])), (mt, .inl (cI, 56, .inl f)), (mrp, .inl (cI, 52, .inl g))] [(0, .ref y)] 0 []
  refine x_aload_n ok 0 dX5_readSong_0 rfl rfl ?_
  refine x_iconst ok (nI 0) dX5_readSong_1 (by decide) ?_
  refine x_iconst ok (nI 5) dX5_readSong_2 (by decide) ?_
  refine qX5_81 ok (As := [.int (nI 0), .int (nI 5)]) (st := []) 0 rfl (d_figure l D cI cZ cS y zt mt ts pl W ll md ms rW mrd mrs mrp mp mb na mk mi sd m1 m2 m3 ml mf mw mn T f 0 5 (by first | assumption | omega) (by first | assumption | omega) (by first | assumption | omega) (by first | assumption | omega) (by first | assumption | omega)) rfl (Nat.le_of_ble_eq_true rfl) (Nat.le_of_ble_eq_true rfl) (Nat.le_of_ble_eq_true rfl) dX5_readSong_3 [0, 1] (by decide) rfl (ws' := fun u => [(y, .inr (5, [.int zt, .ref mt, .int (nI T.length), .int (nI (fgP T pl 0 5)), .int (nI W), .int (nI ll), .ref md, .ref ms, .int (nI rW), .ref mrd, .ref mrs, .ref mrp, .ref mp, .ref mb, .int (nI na), .ref mk, .ref mi, .long sd, .ref m1, .ref m2, .ref m3, .ref ml, .ref mf, .ref mw, .ref mn])), (mt, .inl (cI, 56, .inl f)), (mrp, .inl (cI, 52, .inl g))]) (st' := fun u => [.int (fgV T pl 0 5)]) (fun _ => rfl) (fun _ => rfl) (fun _ => rfl) (fun _ _ => ?_)
  refine x_istore_n ok (lv' := [(1, .int (fgV T pl 0 5)), (0, .ref y)]) dX5_readSong_6 rfl (by decide) rfl ?_
  refine x_iload_n ok 0 dX5_readSong_7 rfl rfl ?_
  refine x_bipush ok ((-9)) dX5_readSong_8 (by decide) ?_
  refine x_icmp_ne ok 18 dX5_readSong_10 (by decide) (fun c_10 => ?_) (fun c_10 => ?_)
  · skip
    have hd1 : dgB T pl 0 5 = true := Classical.byContradiction fun q => c_10 ((fgV_9 (by omega)).mpr q)
    have hb1 := dgB_b hd1 (by omega)
    rw [show fgV T pl 0 5 = nI (tg T pl - 48) from (fgV_t hd1).1]
    rw [show fgP T pl 0 5 = (pl + 1) from (fgV_t hd1).2]
    refine x_aload_n ok 1 dX5_readSong_18 rfl rfl ?_
    refine x_iconst ok (nI 0) dX5_readSong_19 (by decide) ?_
    refine x_aload_n ok 1 dX5_readSong_20 rfl rfl ?_
    refine gX5_85 ok dX5_readSong_21 0 rfl rfl ?_
    refine x_iconst ok (nI 1) dX5_readSong_24 (by decide) ?_
    refine x_isub ok (nI (rW - 1)) dX5_readSong_25 (pk_sub (by omega)) ?_
    refine qX5_81 ok (As := [.int (nI 0), .int (nI (rW - 1))]) (st := []) 0 rfl (d_figure l D cI cZ cS y zt mt ts (pl + 1) W ll md ms rW mrd mrs mrp mp mb na mk mi sd m1 m2 m3 ml mf mw mn T f 0 (rW - 1) (by first | assumption | omega) (by first | assumption | omega) (by first | assumption | omega) (by first | assumption | omega) (by first | assumption | omega)) rfl (Nat.le_of_ble_eq_true rfl) (Nat.le_of_ble_eq_true rfl) (Nat.le_of_ble_eq_true rfl) dX5_readSong_26 [0, 1] (by decide) rfl (ws' := fun u => [(y, .inr (5, [.int zt, .ref mt, .int (nI T.length), .int (nI (fgP T (pl + 1) 0 (rW - 1))), .int (nI W), .int (nI ll), .ref md, .ref ms, .int (nI rW), .ref mrd, .ref mrs, .ref mrp, .ref mp, .ref mb, .int (nI na), .ref mk, .ref mi, .long sd, .ref m1, .ref m2, .ref m3, .ref ml, .ref mf, .ref mw, .ref mn])), (mt, .inl (cI, 56, .inl f)), (mrp, .inl (cI, 52, .inl g))]) (st' := fun u => [.int (fgV T (pl + 1) 0 (rW - 1))]) (fun _ => rfl) (fun _ => rfl) (fun _ => rfl) (fun _ _ => ?_)
    refine x_istore_n ok (lv' := [(2, .int (fgV T (pl + 1) 0 (rW - 1))), (1, .int (nI (tg T pl - 48))), (0, .ref y)]) dX5_readSong_29 rfl (by decide) rfl ?_
    refine x_iload_n ok 0 dX5_readSong_30 rfl rfl ?_
    refine x_bipush ok ((-9)) dX5_readSong_31 (by decide) ?_
    refine x_icmp_ne ok 41 dX5_readSong_33 (by decide) (fun c_33 => ?_) (fun c_33 => ?_)
    · skip
      have hd2 : dgB T (pl + 1) 0 (rW - 1) = true := Classical.byContradiction fun q => c_33 ((fgV_9 (by omega)).mpr q)
      have hb2 := dgB_b hd2 (by omega)
      rw [show fgV T (pl + 1) 0 (rW - 1) = nI (tg T (pl + 1) - 48) from (fgV_t hd2).1]
      rw [show fgP T (pl + 1) 0 (rW - 1) = (pl + 2) from (fgV_t hd2).2]
      refine x_aload_n ok 2 dX5_readSong_41 rfl rfl ?_
      refine x_iconst ok (nI 1) dX5_readSong_42 (by decide) ?_
      refine x_bipush ok (nI 9) dX5_readSong_43 (by decide) ?_
      refine qX5_81 ok (As := [.int (nI 1), .int (nI 9)]) (st := []) 0 rfl (d_figure l D cI cZ cS y zt mt ts (pl + 2) W ll md ms rW mrd mrs mrp mp mb na mk mi sd m1 m2 m3 ml mf mw mn T f 1 9 (by first | assumption | omega) (by first | assumption | omega) (by first | assumption | omega) (by first | assumption | omega) (by first | assumption | omega)) rfl (Nat.le_of_ble_eq_true rfl) (Nat.le_of_ble_eq_true rfl) (Nat.le_of_ble_eq_true rfl) dX5_readSong_45 [0, 1] (by decide) rfl (ws' := fun u => [(y, .inr (5, [.int zt, .ref mt, .int (nI T.length), .int (nI (fgP T (pl + 2) 1 9)), .int (nI W), .int (nI ll), .ref md, .ref ms, .int (nI rW), .ref mrd, .ref mrs, .ref mrp, .ref mp, .ref mb, .int (nI na), .ref mk, .ref mi, .long sd, .ref m1, .ref m2, .ref m3, .ref ml, .ref mf, .ref mw, .ref mn])), (mt, .inl (cI, 56, .inl f)), (mrp, .inl (cI, 52, .inl g))]) (st' := fun u => [.int (fgV T (pl + 2) 1 9)]) (fun _ => rfl) (fun _ => rfl) (fun _ => rfl) (fun _ _ => ?_)
      refine x_istore_n ok (lv' := [(3, .int (fgV T (pl + 2) 1 9)), (2, .int (nI (tg T (pl + 1) - 48))), (1, .int (nI (tg T pl - 48))), (0, .ref y)]) dX5_readSong_48 rfl (by decide) rfl ?_
      refine x_iload_n ok 0 dX5_readSong_49 rfl rfl ?_
      refine x_bipush ok ((-9)) dX5_readSong_50 (by decide) ?_
      refine x_icmp_ne ok 60 dX5_readSong_52 (by decide) (fun c_52 => ?_) (fun c_52 => ?_)
      · skip
        have hd3 : dgB T (pl + 2) 1 9 = true := Classical.byContradiction fun q => c_52 ((fgV_9 (by omega)).mpr q)
        have hb3 := dgB_b hd3 (by omega)
        rw [show fgV T (pl + 2) 1 9 = nI (tg T (pl + 2) - 48) from (fgV_t hd3).1]
        rw [show fgP T (pl + 2) 1 9 = (pl + 3) from (fgV_t hd3).2]
        refine x_aload_n ok 3 dX5_readSong_60 rfl rfl ?_
        refine x_iconst ok (nI 0) dX5_readSong_61 (by decide) ?_
        refine x_iconst ok (nI 3) dX5_readSong_62 (by decide) ?_
        refine qX5_81 ok (As := [.int (nI 0), .int (nI 3)]) (st := []) 0 rfl (d_figure l D cI cZ cS y zt mt ts (pl + 3) W ll md ms rW mrd mrs mrp mp mb na mk mi sd m1 m2 m3 ml mf mw mn T f 0 3 (by first | assumption | omega) (by first | assumption | omega) (by first | assumption | omega) (by first | assumption | omega) (by first | assumption | omega)) rfl (Nat.le_of_ble_eq_true rfl) (Nat.le_of_ble_eq_true rfl) (Nat.le_of_ble_eq_true rfl) dX5_readSong_63 [0, 1] (by decide) rfl (ws' := fun u => [(y, .inr (5, [.int zt, .ref mt, .int (nI T.length), .int (nI (fgP T (pl + 3) 0 3)), .int (nI W), .int (nI ll), .ref md, .ref ms, .int (nI rW), .ref mrd, .ref mrs, .ref mrp, .ref mp, .ref mb, .int (nI na), .ref mk, .ref mi, .long sd, .ref m1, .ref m2, .ref m3, .ref ml, .ref mf, .ref mw, .ref mn])), (mt, .inl (cI, 56, .inl f)), (mrp, .inl (cI, 52, .inl g))]) (st' := fun u => [.int (fgV T (pl + 3) 0 3)]) (fun _ => rfl) (fun _ => rfl) (fun _ => rfl) (fun _ _ => ?_)
        refine x_istore ok (lv' := [(4, .int (fgV T (pl + 3) 0 3)), (3, .int (nI (tg T (pl + 2) - 48))), (2, .int (nI (tg T (pl + 1) - 48))), (1, .int (nI (tg T pl - 48))), (0, .ref y)]) dX5_readSong_66 (by decide) rfl ?_
        refine x_iload ok 0 dX5_readSong_68 rfl ?_
        refine x_bipush ok ((-9)) dX5_readSong_70 (by decide) ?_
        refine x_icmp_ne ok 77 dX5_readSong_72 (by decide) (fun c_72 => ?_) (fun c_72 => ?_)
        · skip
          have hd4 : dgB T (pl + 3) 0 3 = true := Classical.byContradiction fun q => c_72 ((fgV_9 (by omega)).mpr q)
          have hb4 := dgB_b hd4 (by omega)
          rw [show fgV T (pl + 3) 0 3 = nI (tg T (pl + 3) - 48) from (fgV_t hd4).1]
          rw [show fgP T (pl + 3) 0 3 = (pl + 4) from (fgV_t hd4).2]
          refine x_aload_n ok 4 dX5_readSong_77 rfl rfl ?_
          refine gX5_25 ok dX5_readSong_78 0 rfl rfl ?_
          refine x_iload_n ok 3 dX5_readSong_81 rfl rfl ?_
          refine x_iload_n ok 2 dX5_readSong_82 rfl rfl ?_
          refine x_iload_n ok 1 dX5_readSong_83 rfl rfl ?_
          refine x_iload ok 0 dX5_readSong_84 rfl ?_
          refine x_iconst ok (nI 0) dX5_readSong_86 (by decide) ?_
          refine qX5_88 ok (As := [.ref mrp, .int (nI (tg T pl - 48)), .int (nI (tg T (pl + 1) - 48)), .int (nI (tg T (pl + 2) - 48)), .int (nI (tg T (pl + 3) - 48)), .int (nI 0)]) (st := []) (d_add l D cI cZ cS mrp g L li ye br (tg T pl - 48) (tg T (pl + 1) - 48) (tg T (pl + 2) - 48) (tg T (pl + 3) - 48) 0 (by first | assumption | omega) (by first | assumption | omega)) rfl (Nat.le_of_ble_eq_true rfl) (Nat.le_of_ble_eq_true rfl) (Nat.le_of_ble_eq_true rfl) dX5_readSong_87 [2] (by decide) rfl (ws' := fun u => [(y, .inr (5, [.int zt, .ref mt, .int (nI T.length), .int (nI (pl + 4)), .int (nI W), .int (nI ll), .ref md, .ref ms, .int (nI rW), .ref mrd, .ref mrs, .ref mrp, .ref mp, .ref mb, .int (nI na), .ref mk, .ref mi, .long sd, .ref m1, .ref m2, .ref m3, .ref ml, .ref mf, .ref mw, .ref mn])), (mt, .inl (cI, 56, .inl f)), (mrp, .inl (cI, 52, .inl u))]) (st' := fun u => []) (fun _ => rfl) (fun _ => rfl) (fun _ => rfl) (fun u87 hu87 => ?_)
          obtain ⟨g287, rfl⟩ : ∃ z, z = u87 := ⟨_, rfl⟩
          have hg287 := hu87
          have hg287 : PGR g287 (L ++ [mkS (tg T pl - 48) (tg T (pl + 1) - 48) (tg T (pl + 2) - 48) (tg T (pl + 3) - 48) 0]) li ye br := hg287
          show XX K [(y, .inr (5, [.int zt, .ref mt, .int (nI T.length), .int (nI (pl + 4)), .int (nI W), .int (nI ll), .ref md, .ref ms, .int (nI rW), .ref mrd, .ref mrs, .ref mrp, .ref mp, .ref mb, .int (nI na), .ref mk, .ref mi, .long sd, .ref m1, .ref m2, .ref m3, .ref ml, .ref mf, .ref mw, .ref mn])), (mt, .inl (cI, 56, .inl f)), (mrp, .inl (cI, 52, .inl g287))] [(4, .int (nI (tg T (pl + 3) - 48))), (3, .int (nI (tg T (pl + 2) - 48))), (2, .int (nI (tg T (pl + 1) - 48))), (1, .int (nI (tg T pl - 48))), (0, .ref y)] 90 []
          refine x_iconst ok (nI 1) dX5_readSong_90 (by decide) ?_
          exact ret g287 _ _ _ (true) dX5_readSong_91 (by rw [show sgP T pl rW = pl + 4 from by simp [sgP, fgP, hd1, hd2, hd3, hd4]]) (by simp [sgOk, hd1, hd2, hd3, hd4]) (by rw [show sgL T pl rW L = L ++ [mkS (tg T pl - 48) (tg T (pl + 1) - 48) (tg T (pl + 2) - 48) (tg T (pl + 3) - 48) 0] by simp [sgL, sgOk, hd1, hd2, hd3, hd4]]; exact hg287)
        · skip
          have hd4 : ¬ dgB T (pl + 3) 0 3 = true := (fgV_9 (by omega)).mp c_72
          rw [show fgP T (pl + 3) 0 3 = pl + 3 from (fgV_f hd4).2]
          refine x_iconst ok (nI 0) dX5_readSong_75 (by decide) ?_
          exact ret g _ _ _ (false) dX5_readSong_76 (by rw [show sgP T pl rW = pl + 3 from by simp [sgP, fgP, hd1, hd2, hd3, hd4]]) (by simp [sgOk, hd1, hd2, hd3, hd4]) (by rw [show sgL T pl rW L = L by simp [sgL, sgOk, hd1, hd2, hd3, hd4]]; exact hg)
      · skip
        have hd3 : ¬ dgB T (pl + 2) 1 9 = true := (fgV_9 (by omega)).mp c_52
        rw [show fgP T (pl + 2) 1 9 = pl + 2 from (fgV_f hd3).2]
        refine x_bipush ok ((-9)) dX5_readSong_55 (by decide) ?_
        refine x_goto ok 66 dX5_readSong_57 (by decide) ?_
        refine x_istore ok (lv' := [(4, .int (-9)), (3, .int (fgV T (pl + 2) 1 9)), (2, .int (nI (tg T (pl + 1) - 48))), (1, .int (nI (tg T pl - 48))), (0, .ref y)]) dX5_readSong_66 (by decide) rfl ?_
        refine x_iload ok 0 dX5_readSong_68 rfl ?_
        refine x_bipush ok ((-9)) dX5_readSong_70 (by decide) ?_
        refine x_icmp_ne ok 77 dX5_readSong_72 (by decide) (fun c_72 => absurd c_72 (fun q => q rfl)) (fun c_72 => ?_)
        refine x_iconst ok (nI 0) dX5_readSong_75 (by decide) ?_
        exact ret g _ _ _ (false) dX5_readSong_76 (by rw [show sgP T pl rW = pl + 2 from by simp [sgP, fgP, hd1, hd2, hd3]]) (by simp [sgOk, hd1, hd2, hd3]) (by rw [show sgL T pl rW L = L by simp [sgL, sgOk, hd1, hd2, hd3]]; exact hg)
    · skip
      have hd2 : ¬ dgB T (pl + 1) 0 (rW - 1) = true := (fgV_9 (by omega)).mp c_33
      rw [show fgP T (pl + 1) 0 (rW - 1) = pl + 1 from (fgV_f hd2).2]
      refine x_bipush ok ((-9)) dX5_readSong_36 (by decide) ?_
      refine x_goto ok 48 dX5_readSong_38 (by decide) ?_
      refine x_istore_n ok (lv' := [(3, .int (-9)), (2, .int (fgV T (pl + 1) 0 (rW - 1))), (1, .int (nI (tg T pl - 48))), (0, .ref y)]) dX5_readSong_48 rfl (by decide) rfl ?_
      refine x_iload_n ok 0 dX5_readSong_49 rfl rfl ?_
      refine x_bipush ok ((-9)) dX5_readSong_50 (by decide) ?_
      refine x_icmp_ne ok 60 dX5_readSong_52 (by decide) (fun c_52 => absurd c_52 (fun q => q rfl)) (fun c_52 => ?_)
      refine x_bipush ok ((-9)) dX5_readSong_55 (by decide) ?_
      refine x_goto ok 66 dX5_readSong_57 (by decide) ?_
      refine x_istore ok (lv' := [(4, .int (-9)), (3, .int (-9)), (2, .int (fgV T (pl + 1) 0 (rW - 1))), (1, .int (nI (tg T pl - 48))), (0, .ref y)]) dX5_readSong_66 (by decide) rfl ?_
      refine x_iload ok 0 dX5_readSong_68 rfl ?_
      refine x_bipush ok ((-9)) dX5_readSong_70 (by decide) ?_
      refine x_icmp_ne ok 77 dX5_readSong_72 (by decide) (fun c_72 => absurd c_72 (fun q => q rfl)) (fun c_72 => ?_)
      refine x_iconst ok (nI 0) dX5_readSong_75 (by decide) ?_
      exact ret g _ _ _ (false) dX5_readSong_76 (by rw [show sgP T pl rW = pl + 1 from by simp [sgP, fgP, hd1, hd2]]) (by simp [sgOk, hd1, hd2]) (by rw [show sgL T pl rW L = L by simp [sgL, sgOk, hd1, hd2]]; exact hg)
  · skip
    have hd1 : ¬ dgB T pl 0 5 = true := (fgV_9 (by omega)).mp c_10
    rw [show fgP T pl 0 5 = pl from (fgV_f hd1).2]
    refine x_bipush ok ((-9)) dX5_readSong_13 (by decide) ?_
    refine x_goto ok 29 dX5_readSong_15 (by decide) ?_
    refine x_istore_n ok (lv' := [(2, .int (-9)), (1, .int (fgV T pl 0 5)), (0, .ref y)]) dX5_readSong_29 rfl (by decide) rfl ?_
    refine x_iload_n ok 0 dX5_readSong_30 rfl rfl ?_
    refine x_bipush ok ((-9)) dX5_readSong_31 (by decide) ?_
    refine x_icmp_ne ok 41 dX5_readSong_33 (by decide) (fun c_33 => absurd c_33 (fun q => q rfl)) (fun c_33 => ?_)
    refine x_bipush ok ((-9)) dX5_readSong_36 (by decide) ?_
    refine x_goto ok 48 dX5_readSong_38 (by decide) ?_
    refine x_istore_n ok (lv' := [(3, .int (-9)), (2, .int (-9)), (1, .int (fgV T pl 0 5)), (0, .ref y)]) dX5_readSong_48 rfl (by decide) rfl ?_
    refine x_iload_n ok 0 dX5_readSong_49 rfl rfl ?_
    refine x_bipush ok ((-9)) dX5_readSong_50 (by decide) ?_
    refine x_icmp_ne ok 60 dX5_readSong_52 (by decide) (fun c_52 => absurd c_52 (fun q => q rfl)) (fun c_52 => ?_)
    refine x_bipush ok ((-9)) dX5_readSong_55 (by decide) ?_
    refine x_goto ok 66 dX5_readSong_57 (by decide) ?_
    refine x_istore ok (lv' := [(4, .int (-9)), (3, .int (-9)), (2, .int (-9)), (1, .int (fgV T pl 0 5)), (0, .ref y)]) dX5_readSong_66 (by decide) rfl ?_
    refine x_iload ok 0 dX5_readSong_68 rfl ?_
    refine x_bipush ok ((-9)) dX5_readSong_70 (by decide) ?_
    refine x_icmp_ne ok 77 dX5_readSong_72 (by decide) (fun c_72 => absurd c_72 (fun q => q rfl)) (fun c_72 => ?_)
    refine x_iconst ok (nI 0) dX5_readSong_75 (by decide) ?_
    exact ret g _ _ _ (false) dX5_readSong_76 (by rw [show sgP T pl rW = pl from by simp [sgP, fgP, hd1]]) (by simp [sgOk, hd1]) (by rw [show sgL T pl rW L = L by simp [sgL, sgOk, hd1]]; exact hg)

set_option maxHeartbeats 4000000 in
set_option maxRecDepth 100000 in
theorem d_readPart (l : Launch) (D : va_G) (cI cZ cS : ClassId) (y : Nat) (zt : Int32) (mt : Nat) (ts : Nat) (pl : Nat) (W : Nat) (ll : Nat) (md : Nat) (ms : Nat) (rW : Nat) (mrd : Nat) (mrs : Nat) (mrp : Nat) (mp : Nat) (mb : Nat) (na : Nat) (mk : Nat) (mi : Nat) (sd : Int64) (m1 : Nat) (m2 : Nat) (m3 : Nat) (ml : Nat) (mf : Nat) (mw : Nat) (mn : Nat) (T : List Nat) (f : Nat → Int32) (Ws : List (Nat × Nat)) (df : Nat → Int32) (tf : Nat → Int32) (g : Nat → Int32) (L : List Sg) (li : Nat) (ye : Int32) (br : Int32) (hT : tx f T) (hO : okT T) (hpl : pl < T.length) (hw4 : Ws.length ≤ 4) (hD : wD df Ws) (hTw : wT tf Ws) (hg : PGR g L li ye br) (h6 : L.length ≤ 6) : CO l D (TY cI cZ cS) yX5_readPart cX5_readPart 2 (some .boolean) 3 71 0 0 [.ref y] [(y, .inr (5, [.int zt, .ref mt, .int (nI T.length), .int (nI pl), .int (nI W), .int (nI ll), .ref md, .ref ms, .int (nI Ws.length), .ref mrd, .ref mrs, .ref mrp, .ref mp, .ref mb, .int (nI na), .ref mk, .ref mi, .long sd, .ref m1, .ref m2, .ref m3, .ref ml, .ref mf, .ref mw, .ref mn])), (mt, .inl (cI, 56, .inl f)), (mrd, .inl (cI, 4, .inl df)), (mrs, .inl (cI, 4, .inl tf)), (mrp, .inl (cI, 52, .inl g))] (σ := (Nat → Int32) × (Nat → Int32) × (Nat → Int32)) (fun u => some (.int (bz (ptOk T pl Ws L)))) (fun u => [(y, .inr (5, [.int zt, .ref mt, .int (nI T.length), .int (nI (ptP T pl Ws L)), .int (nI W), .int (nI ll), .ref md, .ref ms, .int (nI ((ptW T pl Ws).length)), .ref mrd, .ref mrs, .ref mrp, .ref mp, .ref mb, .int (nI na), .ref mk, .ref mi, .long sd, .ref m1, .ref m2, .ref m3, .ref ml, .ref mf, .ref mw, .ref mn])), (mt, .inl (cI, 56, .inl f)), (mrd, .inl (cI, 4, .inl u.1)), (mrs, .inl (cI, 4, .inl u.2.1)), (mrp, .inl (cI, 52, .inl u.2.2))]) (fun u => (wD u.1 (ptW T pl Ws)) ∧ (wT u.2.1 (ptW T pl Ws)) ∧ (PGR u.2.2 (ptL T pl Ws L) li ye br)) := by
  refine CO_mkz (by decide +kernel) (Nat.le_of_ble_eq_true rfl) (fun K ok ret => ?_)
  show XX K [(y, .inr (5, [.int zt, .ref mt, .int (nI T.length), .int (nI pl), .int (nI W), .int (nI ll), .ref md, .ref ms, .int (nI Ws.length), .ref mrd, .ref mrs, .ref mrp, .ref mp, .ref mb, .int (nI na), .ref mk, .ref mi, .long sd, .ref m1, .ref m2, .ref m3, .ref ml, .ref mf, .ref mw, .ref mn])), (mt, .inl (cI, 56, .inl f)), (mrd, .inl (cI, 4, .inl df)), (mrs, .inl (cI, 4, .inl tf)), (mrp, .inl (cI, 52, .inl g))] [(0, .ref y)] 0 []
  have htl := hO.1
  have h256 := hO.2 pl hpl
  refine x_aload_n ok 0 dX5_readPart_0 rfl rfl ?_
  refine gX5_7 ok dX5_readPart_1 0 rfl rfl ?_
  refine x_aload_n ok 0 dX5_readPart_4 rfl rfl ?_
  refine gX5_78 ok dX5_readPart_5 0 rfl rfl ?_
  refine x_iald ok 1 0 pl dX5_readPart_8 rfl rfl (rfl) (by omega) (by decide) (nI (tg T pl)) (hT pl (by omega)) ?_
  refine x_istore_n ok (lv' := [(1, .int (nI (tg T pl))), (0, .ref y)]) dX5_readPart_9 rfl (by decide) rfl ?_
  refine x_iload_n ok 0 dX5_readPart_10 rfl rfl ?_
  refine x_bipush ok (nI 87) dX5_readPart_11 (by decide) ?_
  refine x_icmp_neN ok 39 dX5_readPart_13 (by decide) (by omega) (by omega) (fun c_13 => ?_) (fun c_13 => ?_)
  · skip
    have iw : ¬ isW T pl Ws = true := by simp only [isW, Bool.and_eq_true, decide_eq_true_eq]; omega
    refine x_iload_n ok 0 dX5_readPart_39 rfl rfl ?_
    refine x_bipush ok (nI 83) dX5_readPart_40 (by decide) ?_
    refine x_icmp_neN ok 79 dX5_readPart_42 (by decide) (by omega) (by omega) (fun c_42 => ?_) (fun c_42 => ?_)
    · skip
      have is : ¬ isS T pl Ws L = true := by simp only [isS, Bool.and_eq_true, decide_eq_true_eq]; omega
      refine x_iconst ok (nI 0) dX5_readPart_79 (by decide) ?_
      exact ret (df, tf, g) _ _ _ (false) dX5_readPart_80 (by rw [show ptP T pl Ws L = pl from by rw [ptP, if_neg iw, if_neg is], show ptW T pl Ws = Ws from by rw [ptW, if_neg iw]]) (by rw [ptOk, if_neg iw, if_neg is]) (⟨by rw [ptW, if_neg iw]; exact hD, by rw [ptW, if_neg iw]; exact hTw, by rw [ptL, if_neg iw, if_neg is]; exact hg⟩)
    · skip
      refine x_aload_n ok 1 dX5_readPart_45 rfl rfl ?_
      refine gX5_85 ok dX5_readPart_46 0 rfl rfl ?_
      refine x_if_leN ok 79 dX5_readPart_49 (by decide) (by omega) (fun c_49 => ?_) (fun c_49 => ?_)
      · skip
        have is : ¬ isS T pl Ws L = true := by simp only [isS, Bool.and_eq_true, decide_eq_true_eq]; omega
        refine x_iconst ok (nI 0) dX5_readPart_79 (by decide) ?_
        exact ret (df, tf, g) _ _ _ (false) dX5_readPart_80 (by rw [show ptP T pl Ws L = pl from by rw [ptP, if_neg iw, if_neg is], show ptW T pl Ws = Ws from by rw [ptW, if_neg iw]]) (by rw [ptOk, if_neg iw, if_neg is]) (⟨by rw [ptW, if_neg iw]; exact hD, by rw [ptW, if_neg iw]; exact hTw, by rw [ptL, if_neg iw, if_neg is]; exact hg⟩)
      · skip
        refine x_aload_n ok 1 dX5_readPart_52 rfl rfl ?_
        refine gX5_25 ok dX5_readPart_53 0 rfl rfl ?_
        refine x_bipush ok (nI 48) dX5_readPart_56 (by decide) ?_
        refine x_iald ok 4 0 48 dX5_readPart_58 rfl rfl (rfl) (by omega) (by decide) (nI L.length) (hg.2.1) ?_
        refine x_bipush ok (nI 6) dX5_readPart_59 (by decide) ?_
        refine x_icmp_geN ok 79 dX5_readPart_61 (by decide) (by omega) (by omega) (fun c_61 => ?_) (fun c_61 => ?_)
        · skip
          have is : ¬ isS T pl Ws L = true := by simp only [isS, Bool.and_eq_true, decide_eq_true_eq]; omega
          refine x_iconst ok (nI 0) dX5_readPart_79 (by decide) ?_
          exact ret (df, tf, g) _ _ _ (false) dX5_readPart_80 (by rw [show ptP T pl Ws L = pl from by rw [ptP, if_neg iw, if_neg is], show ptW T pl Ws = Ws from by rw [ptW, if_neg iw]]) (by rw [ptOk, if_neg iw, if_neg is]) (⟨by rw [ptW, if_neg iw]; exact hD, by rw [ptW, if_neg iw]; exact hTw, by rw [ptL, if_neg iw, if_neg is]; exact hg⟩)
        · skip
          have is : isS T pl Ws L = true := by simp only [isS, Bool.and_eq_true, decide_eq_true_eq]; omega
          refine x_aload_n ok 1 dX5_readPart_64 rfl rfl ?_
          refine x_dup ok dX5_readPart_65 rfl ?_
          refine gX5_78 ok dX5_readPart_66 0 rfl rfl ?_
          refine x_iconst ok (nI 1) dX5_readPart_69 (by decide) ?_
          refine x_iadd ok (nI (pl + 1)) dX5_readPart_70 (nN (nI_add _ _) (by omega)) ?_
          refine pX5_78 ok dX5_readPart_71 0 rfl rfl rfl (Nat.le_of_ble_eq_true rfl) (ws' := [(y, .inr (5, [.int zt, .ref mt, .int (nI T.length), .int (nI (pl + 1)), .int (nI W), .int (nI ll), .ref md, .ref ms, .int (nI Ws.length), .ref mrd, .ref mrs, .ref mrp, .ref mp, .ref mb, .int (nI na), .ref mk, .ref mi, .long sd, .ref m1, .ref m2, .ref m3, .ref ml, .ref mf, .ref mw, .ref mn])), (mt, .inl (cI, 56, .inl f)), (mrd, .inl (cI, 4, .inl df)), (mrs, .inl (cI, 4, .inl tf)), (mrp, .inl (cI, 52, .inl g))]) rfl ?_
          refine x_aload_n ok 1 dX5_readPart_74 rfl rfl ?_
          refine qX5_96 ok (As := []) (st := []) 0 rfl (d_readSong l D cI cZ cS y zt mt ts (pl + 1) W ll md ms Ws.length mrd mrs mrp mp mb na mk mi sd m1 m2 m3 ml mf mw mn T f g L li ye br (by first | assumption | omega) (by first | assumption | omega) (by first | assumption | omega) (by first | assumption | omega) (by first | assumption | omega) (by first | assumption | omega) (by first | assumption | omega)) rfl (Nat.le_of_ble_eq_true rfl) (Nat.le_of_ble_eq_true rfl) (Nat.le_of_ble_eq_true rfl) dX5_readPart_75 [0, 1, 4] (by decide) rfl (ws' := fun u => [(y, .inr (5, [.int zt, .ref mt, .int (nI T.length), .int (nI (sgP T (pl + 1) Ws.length)), .int (nI W), .int (nI ll), .ref md, .ref ms, .int (nI Ws.length), .ref mrd, .ref mrs, .ref mrp, .ref mp, .ref mb, .int (nI na), .ref mk, .ref mi, .long sd, .ref m1, .ref m2, .ref m3, .ref ml, .ref mf, .ref mw, .ref mn])), (mt, .inl (cI, 56, .inl f)), (mrd, .inl (cI, 4, .inl df)), (mrs, .inl (cI, 4, .inl tf)), (mrp, .inl (cI, 52, .inl u))]) (st' := fun u => [.int (bz (sgOk T (pl + 1) Ws.length))]) (fun _ => rfl) (fun _ => rfl) (fun _ => rfl) (fun u75 hu75 => ?_)
          obtain ⟨g275, rfl⟩ : ∃ z, z = u75 := ⟨_, rfl⟩
          have hg275 := hu75
          have hg275 : PGR g275 (sgL T (pl + 1) Ws.length L) li ye br := hg275
          show XX K [(y, .inr (5, [.int zt, .ref mt, .int (nI T.length), .int (nI (sgP T (pl + 1) Ws.length)), .int (nI W), .int (nI ll), .ref md, .ref ms, .int (nI Ws.length), .ref mrd, .ref mrs, .ref mrp, .ref mp, .ref mb, .int (nI na), .ref mk, .ref mi, .long sd, .ref m1, .ref m2, .ref m3, .ref ml, .ref mf, .ref mw, .ref mn])), (mt, .inl (cI, 56, .inl f)), (mrd, .inl (cI, 4, .inl df)), (mrs, .inl (cI, 4, .inl tf)), (mrp, .inl (cI, 52, .inl g275))] [(1, .int (nI (tg T pl))), (0, .ref y)] 78 [.int (bz (sgOk T (pl + 1) Ws.length))]
          exact ret (df, tf, g275) _ _ _ (sgOk T (pl + 1) Ws.length) dX5_readPart_78 (by rw [show ptP T pl Ws L = sgP T (pl + 1) Ws.length from by rw [ptP, if_neg iw, if_pos is], show ptW T pl Ws = Ws from by rw [ptW, if_neg iw]]) (by rw [ptOk, if_neg iw, if_pos is]) (⟨by rw [ptW, if_neg iw]; exact hD, by rw [ptW, if_neg iw]; exact hTw, by rw [ptL, if_neg iw, if_pos is]; exact hg275⟩)
  · skip
    refine x_aload_n ok 1 dX5_readPart_16 rfl rfl ?_
    refine gX5_85 ok dX5_readPart_17 0 rfl rfl ?_
    refine x_iconst ok (nI 4) dX5_readPart_20 (by decide) ?_
    refine x_icmp_geN ok 39 dX5_readPart_21 (by decide) (by omega) (by omega) (fun c_21 => ?_) (fun c_21 => ?_)
    · skip
      have iw : ¬ isW T pl Ws = true := by simp only [isW, Bool.and_eq_true, decide_eq_true_eq]; omega
      refine x_iload_n ok 0 dX5_readPart_39 rfl rfl ?_
      refine x_bipush ok (nI 83) dX5_readPart_40 (by decide) ?_
      refine x_icmp_neN ok 79 dX5_readPart_42 (by decide) (by omega) (by omega) (fun c_42 => ?_) (fun c_42 => ?_)
      · skip
        have is : ¬ isS T pl Ws L = true := by simp only [isS, Bool.and_eq_true, decide_eq_true_eq]; omega
        refine x_iconst ok (nI 0) dX5_readPart_79 (by decide) ?_
        exact ret (df, tf, g) _ _ _ (false) dX5_readPart_80 (by rw [show ptP T pl Ws L = pl from by rw [ptP, if_neg iw, if_neg is], show ptW T pl Ws = Ws from by rw [ptW, if_neg iw]]) (by rw [ptOk, if_neg iw, if_neg is]) (⟨by rw [ptW, if_neg iw]; exact hD, by rw [ptW, if_neg iw]; exact hTw, by rw [ptL, if_neg iw, if_neg is]; exact hg⟩)
      · skip
        refine x_aload_n ok 1 dX5_readPart_45 rfl rfl ?_
        refine gX5_85 ok dX5_readPart_46 0 rfl rfl ?_
        refine x_if_leN ok 79 dX5_readPart_49 (by decide) (by omega) (fun c_49 => ?_) (fun c_49 => ?_)
        · skip
          have is : ¬ isS T pl Ws L = true := by simp only [isS, Bool.and_eq_true, decide_eq_true_eq]; omega
          refine x_iconst ok (nI 0) dX5_readPart_79 (by decide) ?_
          exact ret (df, tf, g) _ _ _ (false) dX5_readPart_80 (by rw [show ptP T pl Ws L = pl from by rw [ptP, if_neg iw, if_neg is], show ptW T pl Ws = Ws from by rw [ptW, if_neg iw]]) (by rw [ptOk, if_neg iw, if_neg is]) (⟨by rw [ptW, if_neg iw]; exact hD, by rw [ptW, if_neg iw]; exact hTw, by rw [ptL, if_neg iw, if_neg is]; exact hg⟩)
        · skip
          refine x_aload_n ok 1 dX5_readPart_52 rfl rfl ?_
          refine gX5_25 ok dX5_readPart_53 0 rfl rfl ?_
          refine x_bipush ok (nI 48) dX5_readPart_56 (by decide) ?_
          refine x_iald ok 4 0 48 dX5_readPart_58 rfl rfl (rfl) (by omega) (by decide) (nI L.length) (hg.2.1) ?_
          refine x_bipush ok (nI 6) dX5_readPart_59 (by decide) ?_
          refine x_icmp_geN ok 79 dX5_readPart_61 (by decide) (by omega) (by omega) (fun c_61 => ?_) (fun c_61 => ?_)
          · skip
            have is : ¬ isS T pl Ws L = true := by simp only [isS, Bool.and_eq_true, decide_eq_true_eq]; omega
            refine x_iconst ok (nI 0) dX5_readPart_79 (by decide) ?_
            exact ret (df, tf, g) _ _ _ (false) dX5_readPart_80 (by rw [show ptP T pl Ws L = pl from by rw [ptP, if_neg iw, if_neg is], show ptW T pl Ws = Ws from by rw [ptW, if_neg iw]]) (by rw [ptOk, if_neg iw, if_neg is]) (⟨by rw [ptW, if_neg iw]; exact hD, by rw [ptW, if_neg iw]; exact hTw, by rw [ptL, if_neg iw, if_neg is]; exact hg⟩)
          · skip
            have is : isS T pl Ws L = true := by simp only [isS, Bool.and_eq_true, decide_eq_true_eq]; omega
            refine x_aload_n ok 1 dX5_readPart_64 rfl rfl ?_
            refine x_dup ok dX5_readPart_65 rfl ?_
            refine gX5_78 ok dX5_readPart_66 0 rfl rfl ?_
            refine x_iconst ok (nI 1) dX5_readPart_69 (by decide) ?_
            refine x_iadd ok (nI (pl + 1)) dX5_readPart_70 (nN (nI_add _ _) (by omega)) ?_
            refine pX5_78 ok dX5_readPart_71 0 rfl rfl rfl (Nat.le_of_ble_eq_true rfl) (ws' := [(y, .inr (5, [.int zt, .ref mt, .int (nI T.length), .int (nI (pl + 1)), .int (nI W), .int (nI ll), .ref md, .ref ms, .int (nI Ws.length), .ref mrd, .ref mrs, .ref mrp, .ref mp, .ref mb, .int (nI na), .ref mk, .ref mi, .long sd, .ref m1, .ref m2, .ref m3, .ref ml, .ref mf, .ref mw, .ref mn])), (mt, .inl (cI, 56, .inl f)), (mrd, .inl (cI, 4, .inl df)), (mrs, .inl (cI, 4, .inl tf)), (mrp, .inl (cI, 52, .inl g))]) rfl ?_
            refine x_aload_n ok 1 dX5_readPart_74 rfl rfl ?_
            refine qX5_96 ok (As := []) (st := []) 0 rfl (d_readSong l D cI cZ cS y zt mt ts (pl + 1) W ll md ms Ws.length mrd mrs mrp mp mb na mk mi sd m1 m2 m3 ml mf mw mn T f g L li ye br (by first | assumption | omega) (by first | assumption | omega) (by first | assumption | omega) (by first | assumption | omega) (by first | assumption | omega) (by first | assumption | omega) (by first | assumption | omega)) rfl (Nat.le_of_ble_eq_true rfl) (Nat.le_of_ble_eq_true rfl) (Nat.le_of_ble_eq_true rfl) dX5_readPart_75 [0, 1, 4] (by decide) rfl (ws' := fun u => [(y, .inr (5, [.int zt, .ref mt, .int (nI T.length), .int (nI (sgP T (pl + 1) Ws.length)), .int (nI W), .int (nI ll), .ref md, .ref ms, .int (nI Ws.length), .ref mrd, .ref mrs, .ref mrp, .ref mp, .ref mb, .int (nI na), .ref mk, .ref mi, .long sd, .ref m1, .ref m2, .ref m3, .ref ml, .ref mf, .ref mw, .ref mn])), (mt, .inl (cI, 56, .inl f)), (mrd, .inl (cI, 4, .inl df)), (mrs, .inl (cI, 4, .inl tf)), (mrp, .inl (cI, 52, .inl u))]) (st' := fun u => [.int (bz (sgOk T (pl + 1) Ws.length))]) (fun _ => rfl) (fun _ => rfl) (fun _ => rfl) (fun u75 hu75 => ?_)
            obtain ⟨g275, rfl⟩ : ∃ z, z = u75 := ⟨_, rfl⟩
            have hg275 := hu75
            have hg275 : PGR g275 (sgL T (pl + 1) Ws.length L) li ye br := hg275
            show XX K [(y, .inr (5, [.int zt, .ref mt, .int (nI T.length), .int (nI (sgP T (pl + 1) Ws.length)), .int (nI W), .int (nI ll), .ref md, .ref ms, .int (nI Ws.length), .ref mrd, .ref mrs, .ref mrp, .ref mp, .ref mb, .int (nI na), .ref mk, .ref mi, .long sd, .ref m1, .ref m2, .ref m3, .ref ml, .ref mf, .ref mw, .ref mn])), (mt, .inl (cI, 56, .inl f)), (mrd, .inl (cI, 4, .inl df)), (mrs, .inl (cI, 4, .inl tf)), (mrp, .inl (cI, 52, .inl g275))] [(1, .int (nI (tg T pl))), (0, .ref y)] 78 [.int (bz (sgOk T (pl + 1) Ws.length))]
            exact ret (df, tf, g275) _ _ _ (sgOk T (pl + 1) Ws.length) dX5_readPart_78 (by rw [show ptP T pl Ws L = sgP T (pl + 1) Ws.length from by rw [ptP, if_neg iw, if_pos is], show ptW T pl Ws = Ws from by rw [ptW, if_neg iw]]) (by rw [ptOk, if_neg iw, if_pos is]) (⟨by rw [ptW, if_neg iw]; exact hD, by rw [ptW, if_neg iw]; exact hTw, by rw [ptL, if_neg iw, if_pos is]; exact hg275⟩)
    · skip
      have iw : isW T pl Ws = true := by simp only [isW, Bool.and_eq_true, decide_eq_true_eq]; omega
      refine x_aload_n ok 1 dX5_readPart_24 rfl rfl ?_
      refine x_dup ok dX5_readPart_25 rfl ?_
      refine gX5_78 ok dX5_readPart_26 0 rfl rfl ?_
      refine x_iconst ok (nI 1) dX5_readPart_29 (by decide) ?_
      refine x_iadd ok (nI (pl + 1)) dX5_readPart_30 (nN (nI_add _ _) (by omega)) ?_
      refine pX5_78 ok dX5_readPart_31 0 rfl rfl rfl (Nat.le_of_ble_eq_true rfl) (ws' := [(y, .inr (5, [.int zt, .ref mt, .int (nI T.length), .int (nI (pl + 1)), .int (nI W), .int (nI ll), .ref md, .ref ms, .int (nI Ws.length), .ref mrd, .ref mrs, .ref mrp, .ref mp, .ref mb, .int (nI na), .ref mk, .ref mi, .long sd, .ref m1, .ref m2, .ref m3, .ref ml, .ref mf, .ref mw, .ref mn])), (mt, .inl (cI, 56, .inl f)), (mrd, .inl (cI, 4, .inl df)), (mrs, .inl (cI, 4, .inl tf)), (mrp, .inl (cI, 52, .inl g))]) rfl ?_
      refine x_aload_n ok 1 dX5_readPart_34 rfl rfl ?_
      refine qX5_92 ok (As := []) (st := []) 0 rfl (d_readWell l D cI cZ cS y zt mt ts (pl + 1) W ll md ms rW mrd mrs mrp mp mb na mk mi sd m1 m2 m3 ml mf mw mn T f Ws df tf (by first | assumption | omega) (by first | assumption | omega) (by first | assumption | omega) (by first | assumption | omega) (by first | assumption | omega) (by first | assumption | omega)) rfl (Nat.le_of_ble_eq_true rfl) (Nat.le_of_ble_eq_true rfl) (Nat.le_of_ble_eq_true rfl) dX5_readPart_35 [0, 1, 2, 3] (by decide) rfl (ws' := fun u => [(y, .inr (5, [.int zt, .ref mt, .int (nI T.length), .int (nI (wlP T (pl + 1))), .int (nI W), .int (nI ll), .ref md, .ref ms, .int (nI ((wlW T (pl + 1) Ws).length)), .ref mrd, .ref mrs, .ref mrp, .ref mp, .ref mb, .int (nI na), .ref mk, .ref mi, .long sd, .ref m1, .ref m2, .ref m3, .ref ml, .ref mf, .ref mw, .ref mn])), (mt, .inl (cI, 56, .inl f)), (mrd, .inl (cI, 4, .inl u.1)), (mrs, .inl (cI, 4, .inl u.2)), (mrp, .inl (cI, 52, .inl g))]) (st' := fun u => [.int (bz (wlOk T (pl + 1)))]) (fun _ => rfl) (fun _ => rfl) (fun _ => rfl) (fun u35 hu35 => ?_)
      obtain ⟨dg35, tq35⟩ := u35
      obtain ⟨hD235, hT235⟩ := hu35
      have hD235 : wD dg35 (wlW T (pl + 1) Ws) := hD235
      have hT235 : wT tq35 (wlW T (pl + 1) Ws) := hT235
      show XX K [(y, .inr (5, [.int zt, .ref mt, .int (nI T.length), .int (nI (wlP T (pl + 1))), .int (nI W), .int (nI ll), .ref md, .ref ms, .int (nI ((wlW T (pl + 1) Ws).length)), .ref mrd, .ref mrs, .ref mrp, .ref mp, .ref mb, .int (nI na), .ref mk, .ref mi, .long sd, .ref m1, .ref m2, .ref m3, .ref ml, .ref mf, .ref mw, .ref mn])), (mt, .inl (cI, 56, .inl f)), (mrd, .inl (cI, 4, .inl dg35)), (mrs, .inl (cI, 4, .inl tq35)), (mrp, .inl (cI, 52, .inl g))] [(1, .int (nI (tg T pl))), (0, .ref y)] 38 [.int (bz (wlOk T (pl + 1)))]
      exact ret (dg35, tq35, g) _ _ _ (wlOk T (pl + 1)) dX5_readPart_38 (by rw [show ptP T pl Ws L = wlP T (pl + 1) from by rw [ptP, if_pos iw], show ptW T pl Ws = wlW T (pl + 1) Ws from by rw [ptW, if_pos iw]]) (by rw [ptOk, if_pos iw]) (⟨by rw [ptW, if_pos iw]; exact hD235, by rw [ptW, if_pos iw]; exact hT235, by rw [ptL, if_pos iw]; exact hg⟩)

set_option maxHeartbeats 4000000 in
set_option maxRecDepth 100000 in
theorem d_readLand (l : Launch) (D : va_G) (cI cZ cS : ClassId) (y : Nat) (zt : Int32) (mt : Nat) (ts : Nat) (pl : Nat) (W : Nat) (ll : Nat) (md : Nat) (ms : Nat) (rW : Nat) (mrd : Nat) (mrs : Nat) (mrp : Nat) (mp : Nat) (mb : Nat) (na : Nat) (mk : Nat) (mi : Nat) (sd : Int64) (m1 : Nat) (m2 : Nat) (m3 : Nat) (ml : Nat) (mf : Nat) (mw : Nat) (mn : Nat) (T : List Nat) (f : Nat → Int32) (df : Nat → Int32) (tf : Nat → Int32) (g : Nat → Int32) (hT : tx f T) (hO : okT T) : CO l D (TY cI cZ cS) yX5_readLand cX5_readLand 2 (some .int) 4 92 0 0 [.ref y] [(y, .inr (5, [.int zt, .ref mt, .int (nI T.length), .int (nI pl), .int (nI W), .int (nI ll), .ref md, .ref ms, .int (nI rW), .ref mrd, .ref mrs, .ref mrp, .ref mp, .ref mb, .int (nI na), .ref mk, .ref mi, .long sd, .ref m1, .ref m2, .ref m3, .ref ml, .ref mf, .ref mw, .ref mn])), (mt, .inl (cI, 56, .inl f)), (mrd, .inl (cI, 4, .inl df)), (mrs, .inl (cI, 4, .inl tf)), (mrp, .inl (cI, 52, .inl g))] (σ := (Nat) × (Nat → Int32) × (Nat → Int32) × (Nat → Int32)) (fun u => some (.int ((landP T).1))) (fun u => [(y, .inr (5, [.int zt, .ref mt, .int (nI T.length), .int (nI u.1), .int (nI W), .int (nI ll), .ref md, .ref ms, .int (nI ((landP T).2.1.length)), .ref mrd, .ref mrs, .ref mrp, .ref mp, .ref mb, .int (nI na), .ref mk, .ref mi, .long sd, .ref m1, .ref m2, .ref m3, .ref ml, .ref mf, .ref mw, .ref mn])), (mt, .inl (cI, 56, .inl f)), (mrd, .inl (cI, 4, .inl u.2.1)), (mrs, .inl (cI, 4, .inl u.2.2.1)), (mrp, .inl (cI, 52, .inl u.2.2.2))]) (fun u => (wD u.2.1 (landP T).2.1) ∧ (wT u.2.2.1 (landP T).2.1) ∧ (PGR u.2.2.2 (landP T).2.2 0 (nI 0) (nI 0))) := by
  refine CO_mki (by decide +kernel) (Nat.le_of_ble_eq_true rfl) (fun K ok ret => ?_)
  show XX K [(y, .inr (5, [.int zt, .ref mt, .int (nI T.length), .int (nI pl), .int (nI W), .int (nI ll), .ref md, .ref ms, .int (nI rW), .ref mrd, .ref mrs, .ref mrp, .ref mp, .ref mb, .int (nI na), .ref mk, .ref mi, .long sd, .ref m1, .ref m2, .ref m3, .ref ml, .ref mf, .ref mw, .ref mn])), (mt, .inl (cI, 56, .inl f)), (mrd, .inl (cI, 4, .inl df)), (mrs, .inl (cI, 4, .inl tf)), (mrp, .inl (cI, 52, .inl g))] [(0, .ref y)] 0 []
  have htl := hO.1
  refine x_aload_n ok 0 dX5_readLand_0 rfl rfl ?_
  refine x_iconst ok (nI 0) dX5_readLand_1 (by decide) ?_
  refine pX5_78 ok dX5_readLand_2 0 rfl rfl rfl (Nat.le_of_ble_eq_true rfl) (ws' := [(y, .inr (5, [.int zt, .ref mt, .int (nI T.length), .int (nI 0), .int (nI W), .int (nI ll), .ref md, .ref ms, .int (nI rW), .ref mrd, .ref mrs, .ref mrp, .ref mp, .ref mb, .int (nI na), .ref mk, .ref mi, .long sd, .ref m1, .ref m2, .ref m3, .ref ml, .ref mf, .ref mw, .ref mn])), (mt, .inl (cI, 56, .inl f)), (mrd, .inl (cI, 4, .inl df)), (mrs, .inl (cI, 4, .inl tf)), (mrp, .inl (cI, 52, .inl g))]) rfl ?_
  refine x_aload_n ok 0 dX5_readLand_5 rfl rfl ?_
  refine x_iconst ok (nI 0) dX5_readLand_6 (by decide) ?_
  refine pX5_85 ok dX5_readLand_7 0 rfl rfl rfl (Nat.le_of_ble_eq_true rfl) (ws' := [(y, .inr (5, [.int zt, .ref mt, .int (nI T.length), .int (nI 0), .int (nI W), .int (nI ll), .ref md, .ref ms, .int (nI 0), .ref mrd, .ref mrs, .ref mrp, .ref mp, .ref mb, .int (nI na), .ref mk, .ref mi, .long sd, .ref m1, .ref m2, .ref m3, .ref ml, .ref mf, .ref mw, .ref mn])), (mt, .inl (cI, 56, .inl f)), (mrd, .inl (cI, 4, .inl df)), (mrs, .inl (cI, 4, .inl tf)), (mrp, .inl (cI, 52, .inl g))]) rfl ?_
  refine x_iconst ok (nI 0) dX5_readLand_10 (by decide) ?_
  refine x_istore_n ok (lv' := [(1, .int (nI 0)), (0, .ref y)]) dX5_readLand_11 rfl (by decide) rfl ?_
  have L_12 : ∀ (n_12 : Nat) (i : Nat) (g9 : Nat → Int32), 52 - i < n_12 → (i ≤ 52) → (∀ j, j < i → g9 j = nI 0) → XX K [(y, .inr (5, [.int zt, .ref mt, .int (nI T.length), .int (nI 0), .int (nI W), .int (nI ll), .ref md, .ref ms, .int (nI 0), .ref mrd, .ref mrs, .ref mrp, .ref mp, .ref mb, .int (nI na), .ref mk, .ref mi, .long sd, .ref m1, .ref m2, .ref m3, .ref ml, .ref mf, .ref mw, .ref mn])), (mt, .inl (cI, 56, .inl f)), (mrd, .inl (cI, 4, .inl df)), (mrs, .inl (cI, 4, .inl tf)), (mrp, .inl (cI, 52, .inl g9))] [(1, .int (nI i)), (0, .ref y)] 12 [] := by
    intro n_12
    induction n_12 with
    | zero => intro i g9 hm; exact absurd hm (Nat.not_lt_zero _)
    | succ n_12 ih_12 =>
      intro i g9 hm_12 hi h9
      refine x_iload_n ok 0 dX5_readLand_12 rfl rfl ?_
      refine x_bipush ok (nI 52) dX5_readLand_13 (by decide) ?_
      refine x_icmp_geN ok 31 dX5_readLand_15 (by decide) (by omega) (by omega) (fun c_15 => ?_) (fun c_15 => ?_)
      · skip
        refine x_aload_n ok 1 dX5_readLand_31 rfl rfl ?_
        refine gX5_75 ok dX5_readLand_32 0 rfl rfl ?_
        refine x_if_eqN ok 49 dX5_readLand_35 (by decide) (by omega) (fun c_35 => ?_) (fun c_35 => ?_)
        · skip
          have eL : landP T = (nI 0, [], []) := by rw [landP, if_pos (by omega)]
          refine x_iconst ok (nI 0) dX5_readLand_49 (by decide) ?_
          exact ret (0, df, tf, g9) _ _ _ (nI 0) dX5_readLand_50 (by rw [show (landP T).2.1.length = 0 by rw [eL]; rfl]) (by rw [eL]) (⟨by rw [eL]; exact fun w hw => absurd hw (Nat.not_lt_zero w), by rw [eL]; exact fun w hw => absurd hw (Nat.not_lt_zero w), by rw [eL]; exact pgr_zero (fun j hj => h9 j (by omega))⟩)
        · skip
          have h256 := hO.2 0 (by omega)
          refine x_aload_n ok 1 dX5_readLand_38 rfl rfl ?_
          refine gX5_7 ok dX5_readLand_39 0 rfl rfl ?_
          refine x_iconst ok (nI 0) dX5_readLand_42 (by decide) ?_
          refine x_iald ok 1 0 0 dX5_readLand_43 rfl rfl (rfl) (by omega) (by decide) (nI (tg T 0)) (hT 0 (by omega)) ?_
          refine x_bipush ok (nI 76) dX5_readLand_44 (by decide) ?_
          refine x_icmp_eqN ok 51 dX5_readLand_46 (by decide) (by omega) (by omega) (fun c_46 => ?_) (fun c_46 => ?_)
          · skip
            refine x_aload_n ok 1 dX5_readLand_51 rfl rfl ?_
            refine x_iconst ok (nI 1) dX5_readLand_52 (by decide) ?_
            refine pX5_78 ok dX5_readLand_53 0 rfl rfl rfl (Nat.le_of_ble_eq_true rfl) (ws' := [(y, .inr (5, [.int zt, .ref mt, .int (nI T.length), .int (nI 1), .int (nI W), .int (nI ll), .ref md, .ref ms, .int (nI 0), .ref mrd, .ref mrs, .ref mrp, .ref mp, .ref mb, .int (nI na), .ref mk, .ref mi, .long sd, .ref m1, .ref m2, .ref m3, .ref ml, .ref mf, .ref mw, .ref mn])), (mt, .inl (cI, 56, .inl f)), (mrd, .inl (cI, 4, .inl df)), (mrs, .inl (cI, 4, .inl tf)), (mrp, .inl (cI, 52, .inl g9))]) rfl ?_
            have L_56 : ∀ (n_56 : Nat) (p : Nat) (Ws : List (Nat × Nat)) (L : List Sg) (dg : Nat → Int32) (tq : Nat → Int32) (g8 : Nat → Int32) (fu : Nat), T.length - p < n_56 → (p ≤ T.length) → (landP T = prs T fu p Ws L) → (T.length < fu + p) → (Ws.length ≤ 4) → (L.length ≤ 6) → (wD dg Ws) → (wT tq Ws) → (PGR g8 L 0 (nI 0) (nI 0)) → XX K [(y, .inr (5, [.int zt, .ref mt, .int (nI T.length), .int (nI p), .int (nI W), .int (nI ll), .ref md, .ref ms, .int (nI Ws.length), .ref mrd, .ref mrs, .ref mrp, .ref mp, .ref mb, .int (nI na), .ref mk, .ref mi, .long sd, .ref m1, .ref m2, .ref m3, .ref ml, .ref mf, .ref mw, .ref mn])), (mt, .inl (cI, 56, .inl f)), (mrd, .inl (cI, 4, .inl dg)), (mrs, .inl (cI, 4, .inl tq)), (mrp, .inl (cI, 52, .inl g8))] [(1, .int (nI i)), (0, .ref y)] 56 [] := by
              intro n_56
              induction n_56 with
              | zero => intro p Ws L dg tq g8 fu hm; exact absurd hm (Nat.not_lt_zero _)
              | succ n_56 ih_56 =>
                intro p Ws L dg tq g8 fu hm_56 hp hI hfu hw4 h6 hD2 hT2 hg8
                refine x_aload_n ok 1 dX5_readLand_56 rfl rfl ?_
                refine gX5_78 ok dX5_readLand_57 0 rfl rfl ?_
                refine x_aload_n ok 1 dX5_readLand_60 rfl rfl ?_
                refine gX5_75 ok dX5_readLand_61 0 rfl rfl ?_
                refine x_icmp_geN ok 79 dX5_readLand_64 (by decide) (by omega) (by omega) (fun c_64 => ?_) (fun c_64 => ?_)
                · skip
                  have eL : landP T = (-9, Ws, L) := by rw [hI, show fu = fu - 1 + 1 by omega, prs, if_pos (by omega)]
                  refine x_bipush ok ((-9)) dX5_readLand_79 (by decide) ?_
                  exact ret (p, dg, tq, g8) _ _ _ ((-9)) dX5_readLand_81 (by rw [show (landP T).2.1.length = Ws.length by rw [eL]]) (by rw [eL]) (⟨by rw [eL]; exact hD2, by rw [eL]; exact hT2, by rw [eL]; exact hg8⟩)
                · skip
                  have hst : landP T = if ptOk T p Ws L = true then prs T (fu - 1) (ptP T p Ws L) (ptW T p Ws) (ptL T p Ws L) else (nI (ptP T p Ws L), Ws, L) := by rw [hI, ← prs_pt (by omega), show fu - 1 + 1 = fu by omega]
                  refine x_aload_n ok 1 dX5_readLand_67 rfl rfl ?_
                  refine qX5_99 ok (As := []) (st := []) 0 rfl (d_readPart l D cI cZ cS y zt mt ts p W ll md ms rW mrd mrs mrp mp mb na mk mi sd m1 m2 m3 ml mf mw mn T f Ws dg tq g8 L 0 (nI 0) (nI 0) (by first | assumption | omega) (by first | assumption | omega) (by first | assumption | omega) (by first | assumption | omega) (by first | assumption | omega) (by first | assumption | omega) (by first | assumption | omega) (by first | assumption | omega)) rfl (Nat.le_of_ble_eq_true rfl) (Nat.le_of_ble_eq_true rfl) (Nat.le_of_ble_eq_true rfl) dX5_readLand_68 [0, 1, 2, 3, 4] (by decide) rfl (ws' := fun u => [(y, .inr (5, [.int zt, .ref mt, .int (nI T.length), .int (nI (ptP T p Ws L)), .int (nI W), .int (nI ll), .ref md, .ref ms, .int (nI ((ptW T p Ws).length)), .ref mrd, .ref mrs, .ref mrp, .ref mp, .ref mb, .int (nI na), .ref mk, .ref mi, .long sd, .ref m1, .ref m2, .ref m3, .ref ml, .ref mf, .ref mw, .ref mn])), (mt, .inl (cI, 56, .inl f)), (mrd, .inl (cI, 4, .inl u.1)), (mrs, .inl (cI, 4, .inl u.2.1)), (mrp, .inl (cI, 52, .inl u.2.2))]) (st' := fun u => [.int (bz (ptOk T p Ws L))]) (fun _ => rfl) (fun _ => rfl) (fun _ => rfl) (fun u68 hu68 => ?_)
                  obtain ⟨dg68, tq68, g268⟩ := u68
                  obtain ⟨hD268, hT268, hg268⟩ := hu68
                  have hD268 : wD dg68 (ptW T p Ws) := hD268
                  have hT268 : wT tq68 (ptW T p Ws) := hT268
                  have hg268 : PGR g268 (ptL T p Ws L) 0 (nI 0) (nI 0) := hg268
                  show XX K [(y, .inr (5, [.int zt, .ref mt, .int (nI T.length), .int (nI (ptP T p Ws L)), .int (nI W), .int (nI ll), .ref md, .ref ms, .int (nI ((ptW T p Ws).length)), .ref mrd, .ref mrs, .ref mrp, .ref mp, .ref mb, .int (nI na), .ref mk, .ref mi, .long sd, .ref m1, .ref m2, .ref m3, .ref ml, .ref mf, .ref mw, .ref mn])), (mt, .inl (cI, 56, .inl f)), (mrd, .inl (cI, 4, .inl dg68)), (mrs, .inl (cI, 4, .inl tq68)), (mrp, .inl (cI, 52, .inl g268))] [(1, .int (nI i)), (0, .ref y)] 71 [.int (bz (ptOk T p Ws L))]
                  refine x_if_neB ok 56 dX5_readLand_71 (by decide) (fun c_71 => ?_) (fun c_71 => ?_)
                  · skip
                    have hok := pt_ok hw4 h6 c_71
                    exact ih_56 (ptP T p Ws L) (ptW T p Ws) (ptL T p Ws L) dg68 tq68 g268 (fu - 1) (by omega) (hok.2.1) (by rw [hst, if_pos c_71]) (by omega) (hok.2.2.1) (hok.2.2.2) (hD268) (hT268) (hg268)
                  · skip
                    have eL : landP T = (nI (ptP T p Ws L), Ws, L) := by rw [hst, if_neg c_71]
                    have hno := pt_no c_71
                    refine x_aload_n ok 1 dX5_readLand_74 rfl rfl ?_
                    refine gX5_78 ok dX5_readLand_75 0 rfl rfl ?_
                    exact ret (ptP T p Ws L, dg68, tq68, g268) _ _ _ (nI (ptP T p Ws L)) dX5_readLand_78 (by rw [show (landP T).2.1.length = Ws.length by rw [eL], hno.1]) (by rw [eL]) (⟨by rw [eL]; exact hno.1 ▸ hD268, by rw [eL]; exact hno.1 ▸ hT268, by rw [eL]; exact hno.2 ▸ hg268⟩)
            exact L_56 _ 1 ([]) ([]) df tf g9 (T.length + 1) (Nat.lt_succ_self _) (by first | assumption | omega) (by rw [landP, if_neg]; omega) (by first | assumption | omega) (Nat.zero_le _) (Nat.zero_le _) (fun w hw => absurd hw (Nat.not_lt_zero w)) (fun w hw => absurd hw (Nat.not_lt_zero w)) (pgr_zero (fun j hj => h9 j (by omega)))
          · skip
            have eL : landP T = (nI 0, [], []) := by rw [landP, if_pos (by omega)]
            refine x_iconst ok (nI 0) dX5_readLand_49 (by decide) ?_
            exact ret (0, df, tf, g9) _ _ _ (nI 0) dX5_readLand_50 (by rw [show (landP T).2.1.length = 0 by rw [eL]; rfl]) (by rw [eL]) (⟨by rw [eL]; exact fun w hw => absurd hw (Nat.not_lt_zero w), by rw [eL]; exact fun w hw => absurd hw (Nat.not_lt_zero w), by rw [eL]; exact pgr_zero (fun j hj => h9 j (by omega))⟩)
      · skip
        refine x_aload_n ok 1 dX5_readLand_18 rfl rfl ?_
        refine gX5_25 ok dX5_readLand_19 0 rfl rfl ?_
        refine x_iload_n ok 0 dX5_readLand_22 rfl rfl ?_
        refine x_iconst ok (nI 0) dX5_readLand_23 (by decide) ?_
        refine x_iast ok 4 0 i (ws' := [(y, .inr (5, [.int zt, .ref mt, .int (nI T.length), .int (nI 0), .int (nI W), .int (nI ll), .ref md, .ref ms, .int (nI 0), .ref mrd, .ref mrs, .ref mrp, .ref mp, .ref mb, .int (nI na), .ref mk, .ref mi, .long sd, .ref m1, .ref m2, .ref m3, .ref ml, .ref mf, .ref mw, .ref mn])), (mt, .inl (cI, 56, .inl f)), (mrd, .inl (cI, 4, .inl df)), (mrs, .inl (cI, 4, .inl tf)), (mrp, .inl (cI, 52, .inl (upd g9 i (nI 0))))]) dX5_readLand_24 rfl rfl (rfl) (by omega) (by decide) (rfl) rfl ?_
        refine x_iinc ok (v := nI (i + 1)) (lv' := [(1, .int (nI (i + 1))), (0, .ref y)]) dX5_readLand_25 0 rfl (nN (nI_inc _ 1) (by omega)) (by decide) rfl ?_
        refine x_goto ok 12 dX5_readLand_28 (by decide) ?_
        exact ih_12 (i + 1) (upd g9 i (nI 0)) (by omega) (by first | assumption | omega) (fun j hj => by rcases Nat.lt_or_ge j i with q | q; (rw [upd_n (by omega)]; exact h9 j q); (rw [show j = i by omega, upd_s]))
  exact L_12 _ 0 g (Nat.lt_succ_self _) (by first | assumption | omega) (fun j hj => absurd hj (Nat.not_lt_zero j))
