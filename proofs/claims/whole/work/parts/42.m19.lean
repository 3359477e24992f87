set_option maxHeartbeats 4000000 in
set_option maxRecDepth 100000 in
theorem e_about (l : Launch) (D : va_G) (cI cZ cS : ClassId) (y : Nat) (zt : Int32) (mt : Nat) (ts : Nat) (pl : Nat) (W : Nat) (ll : Nat) (md : Nat) (ms : Nat) (rW : Nat) (mrd : Nat) (mrs : Nat) (mrp : Nat) (mp : Nat) (mb : Nat) (na : Nat) (mk : Nat) (mi : Nat) (sd : Int64) (m1 : Nat) (m2 : Nat) (m3 : Nat) (ml : Nat) (mf : Nat) (mw : Nat) (mn : Nat) (g : Nat → Int32) (L : List Sg) (li : Nat) (ye : Int32) (br : Int32) (A : Nat) (z : Int32) (hg : PGR g L li ye br) (hv : okL W A L) : CO l D (TY cI cZ cS) yX5_about cX5_about 2 (some .int) 1 22 0 0 [.ref y, .int z] [(y, .inr (5, [.int zt, .ref mt, .int (nI ts), .int (nI pl), .int (nI W), .int (nI ll), .ref md, .ref ms, .int (nI rW), .ref mrd, .ref mrs, .ref mrp, .ref mp, .ref mb, .int (nI na), .ref mk, .ref mi, .long sd, .ref m1, .ref m2, .ref m3, .ref ml, .ref mf, .ref mw, .ref mn])), (mp, .inl (cI, 52, .inl g))] (σ := Unit) (fun u => some (.int (aboutI W L.length ye br li ll (lawsN L) na ts z))) (fun u => [(y, .inr (5, [.int (nI 0), .ref mt, .int (nI ts), .int (nI pl), .int (nI W), .int (nI ll), .ref md, .ref ms, .int (nI rW), .ref mrd, .ref mrs, .ref mrp, .ref mp, .ref mb, .int (nI na), .ref mk, .ref mi, .long sd, .ref m1, .ref m2, .ref m3, .ref ml, .ref mf, .ref mw, .ref mn])), (mp, .inl (cI, 52, .inl g))]) (fun u => True) := by
  refine CO_mki (by decide +kernel) (Nat.le_of_ble_eq_true rfl) (fun K ok ret => ?_)
  show XX K [(y, .inr (5, [.int zt, .ref mt, .int (nI ts), .int (nI pl), .int (nI W), .int (nI ll), .ref md, .ref ms, .int (nI rW), .ref mrd, .ref mrs, .ref mrp, .ref mp, .ref mb, .int (nI na), .ref mk, .ref mi, .long sd, .ref m1, .ref m2, .ref m3, .ref ml, .ref mf, .ref mw, .ref mn])), (mp, .inl (cI, 52, .inl g))] [(0, .ref y), (1, .int z)] 0 []
  refine x_aload_n ok 0 dX5_about_0 rfl rfl ?_
  refine x_iconst ok (nI 0) dX5_about_1 (by decide) ?_
  refine pX5_62 ok dX5_about_2 0 rfl rfl rfl (Nat.le_of_ble_eq_true rfl) (ws' := [(y, .inr (5, [.int (nI 0), .ref mt, .int (nI ts), .int (nI pl), .int (nI W), .int (nI ll), .ref md, .ref ms, .int (nI rW), .ref mrd, .ref mrs, .ref mrp, .ref mp, .ref mb, .int (nI na), .ref mk, .ref mi, .long sd, .ref m1, .ref m2, .ref m3, .ref ml, .ref mf, .ref mw, .ref mn])), (mp, .inl (cI, 52, .inl g))]) rfl ?_
  refine x_iload_n ok 1 dX5_about_5 rfl rfl ?_
  refine x_table ok (tgts := [56, 61, 69, 77, 85, 93, 98, 106, 111]) 116 dX5_about_6 rfl rfl (by decide) (by decide) (fun c_6 => ?_) (fun j6 t6 ht6 c_6 => ?_)
  · skip
    have hd := tab9 c_6
    refine x_bipush ok ((-2)) dX5_about_116 (by decide) ?_
    exact ret () _ _ _ ((-2)) dX5_about_118 (rfl) (by simp [aboutI, hd]) (trivial)
  · skip
    rcases j6 with _ | _ | _ | _ | _ | _ | _ | _ | _ | j6
    · skip
      cases ht6
      refine x_aload_n ok 0 dX5_about_56 rfl rfl ?_
      refine gX5_66 ok dX5_about_57 0 rfl rfl ?_
      exact ret () _ _ _ (nI W) dX5_about_60 (rfl) (by rw [c_6]; rfl) (trivial)
    · skip
      cases ht6
      refine x_aload_n ok 0 dX5_about_61 rfl rfl ?_
      refine gX5_28 ok dX5_about_62 0 rfl rfl ?_
      refine x_bipush ok (nI 48) dX5_about_65 (by decide) ?_
      refine x_iald ok 1 0 48 dX5_about_67 rfl rfl (rfl) (by omega) (by decide) (nI L.length) (hg.2.1) ?_
      exact ret () _ _ _ (nI L.length) dX5_about_68 (rfl) (by rw [c_6]; rfl) (trivial)
    · skip
      cases ht6
      refine x_aload_n ok 0 dX5_about_69 rfl rfl ?_
      refine gX5_28 ok dX5_about_70 0 rfl rfl ?_
      refine x_bipush ok (nI 50) dX5_about_73 (by decide) ?_
      refine x_iald ok 1 0 50 dX5_about_75 rfl rfl (rfl) (by omega) (by decide) (ye) (hg.2.2.2.1) ?_
      exact ret () _ _ _ (ye) dX5_about_76 (rfl) (by rw [c_6]; rfl) (trivial)
    · skip
      cases ht6
      refine x_aload_n ok 0 dX5_about_77 rfl rfl ?_
      refine gX5_28 ok dX5_about_78 0 rfl rfl ?_
      refine x_bipush ok (nI 51) dX5_about_81 (by decide) ?_
      refine x_iald ok 1 0 51 dX5_about_83 rfl rfl (rfl) (by omega) (by decide) (br) (hg.2.2.2.2) ?_
      exact ret () _ _ _ (br) dX5_about_84 (rfl) (by rw [c_6]; rfl) (trivial)
    · skip
      cases ht6
      refine x_aload_n ok 0 dX5_about_85 rfl rfl ?_
      refine gX5_28 ok dX5_about_86 0 rfl rfl ?_
      refine x_bipush ok (nI 49) dX5_about_89 (by decide) ?_
      refine x_iald ok 1 0 49 dX5_about_91 rfl rfl (rfl) (by omega) (by decide) (nI li) (hg.2.2.1) ?_
      exact ret () _ _ _ (nI li) dX5_about_92 (rfl) (by rw [c_6]; rfl) (trivial)
    · skip
      cases ht6
      refine x_aload_n ok 0 dX5_about_93 rfl rfl ?_
      refine gX5_110 ok dX5_about_94 0 rfl rfl ?_
      exact ret () _ _ _ (nI ll) dX5_about_97 (rfl) (by rw [c_6]; rfl) (trivial)
    · skip
      cases ht6
      refine x_aload_n ok 0 dX5_about_98 rfl rfl ?_
      refine gX5_28 ok dX5_about_99 0 rfl rfl ?_
      refine qX5_106 ok (As := [.ref mp]) (st := []) (d_lawsOf l D cI cZ cS mp g L li ye br W A (by first | assumption | omega) (by first | assumption | omega)) rfl (Nat.le_of_ble_eq_true rfl) (Nat.le_of_ble_eq_true rfl) (Nat.le_of_ble_eq_true rfl) dX5_about_102 [1] (by decide) rfl (ws' := fun u => [(y, .inr (5, [.int (nI 0), .ref mt, .int (nI ts), .int (nI pl), .int (nI W), .int (nI ll), .ref md, .ref ms, .int (nI rW), .ref mrd, .ref mrs, .ref mrp, .ref mp, .ref mb, .int (nI na), .ref mk, .ref mi, .long sd, .ref m1, .ref m2, .ref m3, .ref ml, .ref mf, .ref mw, .ref mn])), (mp, .inl (cI, 52, .inl g))]) (st' := fun u => [.int (nI (lawsN L))]) (fun _ => rfl) (fun _ => rfl) (fun _ => rfl) (fun _ _ => ?_)
      exact ret () _ _ _ (nI (lawsN L)) dX5_about_105 (rfl) (by rw [c_6]; rfl) (trivial)
    · skip
      cases ht6
      refine x_aload_n ok 0 dX5_about_106 rfl rfl ?_
      refine gX5_113 ok dX5_about_107 0 rfl rfl ?_
      exact ret () _ _ _ (nI na) dX5_about_110 (rfl) (by rw [c_6]; rfl) (trivial)
    · skip
      cases ht6
      refine x_aload_n ok 0 dX5_about_111 rfl rfl ?_
      refine gX5_75 ok dX5_about_112 0 rfl rfl ?_
      exact ret () _ _ _ (nI ts) dX5_about_115 (rfl) (by rw [c_6]; rfl) (trivial)
    · skip
      cases ht6

set_option maxHeartbeats 4000000 in
set_option maxRecDepth 100000 in
theorem e_song (l : Launch) (D : va_G) (cI cZ cS : ClassId) (y : Nat) (zt : Int32) (mt : Nat) (ts : Nat) (pl : Nat) (W : Nat) (ll : Nat) (md : Nat) (ms : Nat) (rW : Nat) (mrd : Nat) (mrs : Nat) (mrp : Nat) (mp : Nat) (mb : Nat) (na : Nat) (mk : Nat) (mi : Nat) (sd : Int64) (m1 : Nat) (m2 : Nat) (m3 : Nat) (ml : Nat) (mf : Nat) (mw : Nat) (mn : Nat) (g : Nat → Int32) (L : List Sg) (li : Nat) (ye : Int32) (br : Int32) (A : Nat) (s : Int32) (z : Int32) (hg : PGR g L li ye br) (hv : okL W A L) : CO l D (TY cI cZ cS) yX5_song cX5_song 3 (some .int) 2 46 0 0 [.ref y, .int s, .int z] [(y, .inr (5, [.int zt, .ref mt, .int (nI ts), .int (nI pl), .int (nI W), .int (nI ll), .ref md, .ref ms, .int (nI rW), .ref mrd, .ref mrs, .ref mrp, .ref mp, .ref mb, .int (nI na), .ref mk, .ref mi, .long sd, .ref m1, .ref m2, .ref m3, .ref ml, .ref mf, .ref mw, .ref mn])), (mp, .inl (cI, 52, .inl g))] (σ := Unit) (fun u => some (.int (songI L s z))) (fun u => [(y, .inr (5, [.int (nI 0), .ref mt, .int (nI ts), .int (nI pl), .int (nI W), .int (nI ll), .ref md, .ref ms, .int (nI rW), .ref mrd, .ref mrs, .ref mrp, .ref mp, .ref mb, .int (nI na), .ref mk, .ref mi, .long sd, .ref m1, .ref m2, .ref m3, .ref ml, .ref mf, .ref mw, .ref mn])), (mp, .inl (cI, 52, .inl g))]) (fun u => True) := by
  refine CO_mki (by decide +kernel) (Nat.le_of_ble_eq_true rfl) (fun K ok ret => ?_)
  show XX K [(y, .inr (5, [.int zt, .ref mt, .int (nI ts), .int (nI pl), .int (nI W), .int (nI ll), .ref md, .ref ms, .int (nI rW), .ref mrd, .ref mrs, .ref mrp, .ref mp, .ref mb, .int (nI na), .ref mk, .ref mi, .long sd, .ref m1, .ref m2, .ref m3, .ref ml, .ref mf, .ref mw, .ref mn])), (mp, .inl (cI, 52, .inl g))] [(0, .ref y), (1, .int s), (2, .int z)] 0 []
  have h8 := hv.1
  refine x_aload_n ok 0 dX5_song_0 rfl rfl ?_
  refine x_iconst ok (nI 0) dX5_song_1 (by decide) ?_
  refine pX5_62 ok dX5_song_2 0 rfl rfl rfl (Nat.le_of_ble_eq_true rfl) (ws' := [(y, .inr (5, [.int (nI 0), .ref mt, .int (nI ts), .int (nI pl), .int (nI W), .int (nI ll), .ref md, .ref ms, .int (nI rW), .ref mrd, .ref mrs, .ref mrp, .ref mp, .ref mb, .int (nI na), .ref mk, .ref mi, .long sd, .ref m1, .ref m2, .ref m3, .ref ml, .ref mf, .ref mw, .ref mn])), (mp, .inl (cI, 52, .inl g))]) rfl ?_
  refine x_aload_n ok 0 dX5_song_5 rfl rfl ?_
  refine x_iload_n ok 1 dX5_song_6 rfl rfl ?_
  refine qX5_120 ok (As := [.int s]) (st := []) 0 rfl (d_noSong l D cI cZ cS y (nI 0) mt ts pl W ll md ms rW mrd mrs mrp mp mb na mk mi sd m1 m2 m3 ml mf mw mn g L li ye br s (by first | assumption | omega) (by first | assumption | omega)) rfl (Nat.le_of_ble_eq_true rfl) (Nat.le_of_ble_eq_true rfl) (Nat.le_of_ble_eq_true rfl) dX5_song_7 [0, 1] (by decide) rfl (ws' := fun u => [(y, .inr (5, [.int (nI 0), .ref mt, .int (nI ts), .int (nI pl), .int (nI W), .int (nI ll), .ref md, .ref ms, .int (nI rW), .ref mrd, .ref mrs, .ref mrp, .ref mp, .ref mb, .int (nI na), .ref mk, .ref mi, .long sd, .ref m1, .ref m2, .ref m3, .ref ml, .ref mf, .ref mw, .ref mn])), (mp, .inl (cI, 52, .inl g))]) (st' := fun u => [.int (bz (!hasB s L.length))]) (fun _ => rfl) (fun _ => rfl) (fun _ => rfl) (fun _ _ => ?_)
  refine x_if_eqB ok 15 dX5_song_10 (by decide) (fun c_10 => ?_) (fun c_10 => ?_)
  · skip
    have hh : hasB s L.length = true := by simpa using c_10
    obtain ⟨j, hj, e_s⟩ := hasB_t (by omega) hh
    subst e_s
    have ej := cl_n (show j < 2 ^ 31 by omega)
    refine x_iload_n ok 2 dX5_song_15 rfl rfl ?_
    refine x_i2l ok ((z).toInt64) dX5_song_16 rfl ?_
    refine x_lconst ok ((nI 0).toInt64) dX5_song_17 (by decide) ?_
    refine x_ldc2v ok KX5_123 (v' := (nI 5).toInt64) (by decide) dX5_song_18 ?_
    refine x_eq (st' := [.long ((nI 5).toInt64), .long ((nI 0).toInt64), .long ((z).toInt64)]) rfl rfl (rfl) ?_
    refine x_eq (st' := [.long ((nI 5).toInt64), .long ((nI 0).toInt64), .long ((z).toInt64)]) rfl rfl (rfl) ?_
    refine qX5_69 ok (As := [.long ((z).toInt64), .long ((nI 0).toInt64), .long ((nI 5).toInt64)]) (st := []) (d_in l D cI cZ cS z (nI 0) (nI 5) ) rfl (Nat.le_of_ble_eq_true rfl) (Nat.le_of_ble_eq_true rfl) (Nat.le_of_ble_eq_true rfl) dX5_song_21 [] (by decide) rfl (ws' := fun u => [(y, .inr (5, [.int (nI 0), .ref mt, .int (nI ts), .int (nI pl), .int (nI W), .int (nI ll), .ref md, .ref ms, .int (nI rW), .ref mrd, .ref mrs, .ref mrp, .ref mp, .ref mb, .int (nI na), .ref mk, .ref mi, .long sd, .ref m1, .ref m2, .ref m3, .ref ml, .ref mf, .ref mw, .ref mn])), (mp, .inl (cI, 52, .inl g))]) (st' := fun u => [.int (bz (inB z (nI 0) (nI 5)))]) (fun _ => rfl) (fun _ => rfl) (fun _ => rfl) (fun _ _ => ?_)
    refine x_if_eqB ok 41 dX5_song_24 (by decide) (fun c_24 => ?_) (fun c_24 => ?_)
    · skip
      refine x_bipush ok ((-2)) dX5_song_41 (by decide) ?_
      exact ret () _ _ _ ((-2)) dX5_song_43 (rfl) (by rw [songI, if_pos hh, if_neg c_24]) (trivial)
    · skip
      obtain ⟨k, hk0, hk, e_z⟩ := inB_t (by omega) (by omega) c_24
      subst e_z
      have ek := cl_n (show k < 2 ^ 31 by omega)
      refine x_aload_n ok 0 dX5_song_27 rfl rfl ?_
      refine gX5_28 ok dX5_song_28 0 rfl rfl ?_
      refine x_bipush ok (nI 6) dX5_song_31 (by decide) ?_
      refine x_iload_n ok 1 dX5_song_33 rfl rfl ?_
      refine x_imul ok (nI (j * 6)) dX5_song_34 (nN (pk_mul _ _) (by omega)) ?_
      refine x_iload_n ok 2 dX5_song_35 rfl rfl ?_
      refine x_iadd ok (nI (j * 6 + k)) dX5_song_36 (nN (nI_add _ _) (by omega)) ?_
      refine x_iald ok 1 0 (j * 6 + k) dX5_song_37 rfl rfl (rfl) (by omega) (by decide) (nI (sg L j k)) (hg.1 j k (by omega) (by omega)) ?_
      refine x_goto ok 43 dX5_song_38 (by decide) ?_
      exact ret () _ _ _ (nI (sg L j k)) dX5_song_43 (rfl) (by rw [songI, if_pos hh, if_pos c_24, ej, ek]) (trivial)
  · skip
    have hh : ¬ hasB s L.length = true := by simpa using c_10
    refine x_iconst ok ((-1)) dX5_song_13 (by decide) ?_
    exact ret () _ _ _ ((-1)) dX5_song_14 (rfl) (by rw [songI, if_neg hh]) (trivial)
