set_option maxHeartbeats 4000000 in
set_option maxRecDepth 100000 in
theorem e_sing0 (l : Launch) (D : va_G) (cI cZ cS : ClassId) (y : Nat) (zt : Int32) (mt : Nat) (ts : Nat) (pl : Nat) (W : Nat) (ll : Nat) (md : Nat) (ms : Nat) (rW : Nat) (mrd : Nat) (mrs : Nat) (mrp : Nat) (mp : Nat) (mb : Nat) (na : Nat) (mk : Nat) (mi : Nat) (sd : Int64) (m1 : Nat) (m2 : Nat) (m3 : Nat) (ml : Nat) (mf : Nat) (mw : Nat) (mn : Nat) (g : Nat → Int32) (L : List Sg) (li : Nat) (ye : Int32) (br : Int32) (A : Nat) (z1 : Int32) (z2 : Int32) (z3 : Int32) (z4 : Int32) (hg : PGR g L li ye br) (hv : okL W A L) (hW4 : W ≤ 4) (hl : li < 256) (hz : ¬ singC W li L z1 z2 z3 z4 = 0) : CO l D (TY cI cZ cS) yX5_sing cX5_sing 5 (some .int) 3 71 0 0 [.ref y, .int z1, .int z2, .int z3, .int z4] [(y, .inr (5, [.int zt, .ref mt, .int (nI ts), .int (nI pl), .int (nI W), .int (nI ll), .ref md, .ref ms, .int (nI rW), .ref mrd, .ref mrs, .ref mrp, .ref mp, .ref mb, .int (nI na), .ref mk, .ref mi, .long sd, .ref m1, .ref m2, .ref m3, .ref ml, .ref mf, .ref mw, .ref mn])), (mp, .inl (cI, 52, .inl g))] (σ := Unit) (fun u => some (.int (singC W li L z1 z2 z3 z4))) (fun u => [(y, .inr (5, [.int (nI 0), .ref mt, .int (nI ts), .int (nI pl), .int (nI W), .int (nI ll), .ref md, .ref ms, .int (nI rW), .ref mrd, .ref mrs, .ref mrp, .ref mp, .ref mb, .int (nI na), .ref mk, .ref mi, .long sd, .ref m1, .ref m2, .ref m3, .ref ml, .ref mf, .ref mw, .ref mn])), (mp, .inl (cI, 52, .inl g))]) (fun u => True) := by
  refine CO_mki (by decide +kernel) (Nat.le_of_ble_eq_true rfl) (fun K ok ret => ?_)
  show XX K [(y, .inr (5, [.int zt, .ref mt, .int (nI ts), .int (nI pl), .int (nI W), .int (nI ll), .ref md, .ref ms, .int (nI rW), .ref mrd, .ref mrs, .ref mrp, .ref mp, .ref mb, .int (nI na), .ref mk, .ref mi, .long sd, .ref m1, .ref m2, .ref m3, .ref ml, .ref mf, .ref mw, .ref mn])), (mp, .inl (cI, 52, .inl g))] [(0, .ref y), (1, .int z1), (2, .int z2), (3, .int z3), (4, .int z4)] 0 []
  have h8 := hv.1
  refine x_aload_n ok 0 dX5_sing_0 rfl rfl ?_
  refine x_iconst ok (nI 0) dX5_sing_1 (by decide) ?_
  refine pX5_62 ok dX5_sing_2 0 rfl rfl rfl (Nat.le_of_ble_eq_true rfl) (ws' := [(y, .inr (5, [.int (nI 0), .ref mt, .int (nI ts), .int (nI pl), .int (nI W), .int (nI ll), .ref md, .ref ms, .int (nI rW), .ref mrd, .ref mrs, .ref mrp, .ref mp, .ref mb, .int (nI na), .ref mk, .ref mi, .long sd, .ref m1, .ref m2, .ref m3, .ref ml, .ref mf, .ref mw, .ref mn])), (mp, .inl (cI, 52, .inl g))]) rfl ?_
  refine x_aload_n ok 0 dX5_sing_5 rfl rfl ?_
  refine x_iload_n ok 1 dX5_sing_6 rfl rfl ?_
  refine qX5_120 ok (As := [.int z1]) (st := []) 0 rfl (d_noSong l D cI cZ cS y (nI 0) mt ts pl W ll md ms rW mrd mrs mrp mp mb na mk mi sd m1 m2 m3 ml mf mw mn g L li ye br z1 (by first | assumption | omega) (by first | assumption | omega)) rfl (Nat.le_of_ble_eq_true rfl) (Nat.le_of_ble_eq_true rfl) (Nat.le_of_ble_eq_true rfl) dX5_sing_7 [0, 1] (by decide) rfl (ws' := fun u => [(y, .inr (5, [.int (nI 0), .ref mt, .int (nI ts), .int (nI pl), .int (nI W), .int (nI ll), .ref md, .ref ms, .int (nI rW), .ref mrd, .ref mrs, .ref mrp, .ref mp, .ref mb, .int (nI na), .ref mk, .ref mi, .long sd, .ref m1, .ref m2, .ref m3, .ref ml, .ref mf, .ref mw, .ref mn])), (mp, .inl (cI, 52, .inl g))]) (st' := fun u => [.int (bz (!hasB z1 L.length))]) (fun _ => rfl) (fun _ => rfl) (fun _ => rfl) (fun _ _ => ?_)
  refine x_if_eqB ok 15 dX5_sing_10 (by decide) (fun c_10 => ?_) (fun c_10 => ?_)
  · skip
    have hh : hasB z1 L.length = true := by simpa using c_10
    obtain ⟨s, hj, e_z1⟩ := hasB_t (by omega) hh
    subst e_z1
    have es := cl_n (show s < 2 ^ 31 by omega)
    refine x_iload_n ok 2 dX5_sing_15 rfl rfl ?_
    refine x_i2l ok ((z2).toInt64) dX5_sing_16 rfl ?_
    refine x_lconst ok ((nI 0).toInt64) dX5_sing_17 (by decide) ?_
    refine x_lconst ok ((nI 1).toInt64) dX5_sing_18 (by decide) ?_
    refine qX5_69 ok (As := [.long ((z2).toInt64), .long ((nI 0).toInt64), .long ((nI 1).toInt64)]) (st := []) (d_in l D cI cZ cS z2 (nI 0) (nI 1) ) rfl (Nat.le_of_ble_eq_true rfl) (Nat.le_of_ble_eq_true rfl) (Nat.le_of_ble_eq_true rfl) dX5_sing_19 [] (by decide) rfl (ws' := fun u => [(y, .inr (5, [.int (nI 0), .ref mt, .int (nI ts), .int (nI pl), .int (nI W), .int (nI ll), .ref md, .ref ms, .int (nI rW), .ref mrd, .ref mrs, .ref mrp, .ref mp, .ref mb, .int (nI na), .ref mk, .ref mi, .long sd, .ref m1, .ref m2, .ref m3, .ref ml, .ref mf, .ref mw, .ref mn])), (mp, .inl (cI, 52, .inl g))]) (st' := fun u => [.int (bz (inB z2 (nI 0) (nI 1)))]) (fun _ => rfl) (fun _ => rfl) (fun _ => rfl) (fun _ _ => ?_)
    refine x_if_eqB ok 50 dX5_sing_22 (by decide) (fun c_22 => ?_) (fun c_22 => ?_)
    · skip
      refine x_bipush ok ((-2)) dX5_sing_50 (by decide) ?_
      exact ret () _ _ _ ((-2)) dX5_sing_52 (rfl) (by rw [singC, if_pos hh, if_neg (fun z => c_22 z.1)]) (trivial)
    · skip
      refine x_iload_n ok 3 dX5_sing_25 rfl rfl ?_
      refine x_i2l ok ((z3).toInt64) dX5_sing_26 rfl ?_
      refine x_lconst ok ((nI 1).toInt64) dX5_sing_27 (by decide) ?_
      refine x_ldc2v ok KX5_143 (v' := (nI 9).toInt64) (by decide) dX5_sing_28 ?_
      refine qX5_69 ok (As := [.long ((z3).toInt64), .long ((nI 1).toInt64), .long ((nI 9).toInt64)]) (st := []) (d_in l D cI cZ cS z3 (nI 1) (nI 9) ) rfl (Nat.le_of_ble_eq_true rfl) (Nat.le_of_ble_eq_true rfl) (Nat.le_of_ble_eq_true rfl) dX5_sing_31 [] (by decide) rfl (ws' := fun u => [(y, .inr (5, [.int (nI 0), .ref mt, .int (nI ts), .int (nI pl), .int (nI W), .int (nI ll), .ref md, .ref ms, .int (nI rW), .ref mrd, .ref mrs, .ref mrp, .ref mp, .ref mb, .int (nI na), .ref mk, .ref mi, .long sd, .ref m1, .ref m2, .ref m3, .ref ml, .ref mf, .ref mw, .ref mn])), (mp, .inl (cI, 52, .inl g))]) (st' := fun u => [.int (bz (inB z3 (nI 1) (nI 9)))]) (fun _ => rfl) (fun _ => rfl) (fun _ => rfl) (fun _ _ => ?_)
      refine x_if_eqB ok 50 dX5_sing_34 (by decide) (fun c_34 => ?_) (fun c_34 => ?_)
      · skip
        refine x_bipush ok ((-2)) dX5_sing_50 (by decide) ?_
        exact ret () _ _ _ ((-2)) dX5_sing_52 (rfl) (by rw [singC, if_pos hh, if_neg (fun z => c_34 z.2.1)]) (trivial)
      · skip
        refine x_iload ok 4 dX5_sing_37 rfl ?_
        refine x_i2l ok ((z4).toInt64) dX5_sing_39 rfl ?_
        refine x_lconst ok ((nI 0).toInt64) dX5_sing_40 (by decide) ?_
        refine x_ldc2v ok KX5_145 (v' := (nI 3).toInt64) (by decide) dX5_sing_41 ?_
        refine qX5_69 ok (As := [.long ((z4).toInt64), .long ((nI 0).toInt64), .long ((nI 3).toInt64)]) (st := []) (d_in l D cI cZ cS z4 (nI 0) (nI 3) ) rfl (Nat.le_of_ble_eq_true rfl) (Nat.le_of_ble_eq_true rfl) (Nat.le_of_ble_eq_true rfl) dX5_sing_44 [] (by decide) rfl (ws' := fun u => [(y, .inr (5, [.int (nI 0), .ref mt, .int (nI ts), .int (nI pl), .int (nI W), .int (nI ll), .ref md, .ref ms, .int (nI rW), .ref mrd, .ref mrs, .ref mrp, .ref mp, .ref mb, .int (nI na), .ref mk, .ref mi, .long sd, .ref m1, .ref m2, .ref m3, .ref ml, .ref mf, .ref mw, .ref mn])), (mp, .inl (cI, 52, .inl g))]) (st' := fun u => [.int (bz (inB z4 (nI 0) (nI 3)))]) (fun _ => rfl) (fun _ => rfl) (fun _ => rfl) (fun _ _ => ?_)
        refine x_if_neB ok 53 dX5_sing_47 (by decide) (fun c_47 => ?_) (fun c_47 => ?_)
        · skip
          have hin := c_22
          have hin2 := c_34
          have hin3 := c_47
          obtain ⟨d, hd0, hd, e_z2⟩ := inB_t (by omega) (by omega) c_22
          subst e_z2
          have ed := cl_n (show d < 2 ^ 31 by omega)
          obtain ⟨v, hv0, hv9, e_z3⟩ := inB_t (by omega) (by omega) c_34
          subst e_z3
          have ev := cl_n (show v < 2 ^ 31 by omega)
          obtain ⟨p, hp0, hp, e_z4⟩ := inB_t (by omega) (by omega) c_47
          subst e_z4
          have ep := cl_n (show p < 2 ^ 31 by omega)
          refine x_aload_n ok 0 dX5_sing_53 rfl rfl ?_
          refine x_aload_n ok 0 dX5_sing_54 rfl rfl ?_
          refine gX5_28 ok dX5_sing_55 0 rfl rfl ?_
          refine x_iload_n ok 1 dX5_sing_58 rfl rfl ?_
          refine x_iload_n ok 2 dX5_sing_59 rfl rfl ?_
          refine qX5_147 ok (As := [.ref mp, .int (nI s), .int (nI d)]) (st := []) 0 rfl (d_canSing l D cI cZ cS y (nI 0) mt ts pl W ll md ms rW mrd mrs mrp mp mb na mk mi sd m1 m2 m3 ml mf mw mn mp g L li ye br A s d (by first | assumption | omega) (by first | assumption | omega) (by first | assumption | omega) (by first | assumption | omega) (by first | assumption | omega) (by first | assumption | omega)) rfl (Nat.le_of_ble_eq_true rfl) (Nat.le_of_ble_eq_true rfl) (Nat.le_of_ble_eq_true rfl) dX5_sing_60 [0, 1] (by decide) rfl (ws' := fun u => [(y, .inr (5, [.int (nI 0), .ref mt, .int (nI ts), .int (nI pl), .int (nI W), .int (nI ll), .ref md, .ref ms, .int (nI rW), .ref mrd, .ref mrs, .ref mrp, .ref mp, .ref mb, .int (nI na), .ref mk, .ref mi, .long sd, .ref m1, .ref m2, .ref m3, .ref ml, .ref mf, .ref mw, .ref mn])), (mp, .inl (cI, 52, .inl g))]) (st' := fun u => [.int (bz (way W li (sg L s 1) d))]) (fun _ => rfl) (fun _ => rfl) (fun _ => rfl) (fun _ _ => ?_)
          refine x_if_neB ok 69 dX5_sing_63 (by decide) (fun c_63 => ?_) (fun c_63 => ?_)
          · skip
            refine x_aload_n ok 0 dX5_sing_69 rfl rfl ?_
            refine gX5_28 ok dX5_sing_70 0 rfl rfl ?_
            refine x_bipush ok (nI 48) dX5_sing_73 (by decide) ?_
            refine x_iald ok 1 0 48 dX5_sing_75 rfl rfl (rfl) (by omega) (by decide) (nI L.length) (hg.2.1) ?_
            refine x_bipush ok (nI 8) dX5_sing_76 (by decide) ?_
            refine x_icmp_neN ok 84 dX5_sing_78 (by decide) (by omega) (by omega) (fun c_78 => ?_) (fun c_78 => ?_)
            · skip
              exact (hz (by rw [singC, if_pos hh, if_pos ⟨hin, hin2, hin3⟩, es, ed, if_pos c_63, if_pos (by omega)]) : False).elim
            · skip
              refine x_bipush ok ((-4)) dX5_sing_81 (by decide) ?_
              exact ret () _ _ _ ((-4)) dX5_sing_83 (rfl) (by rw [singC, if_pos hh, if_pos ⟨hin, hin2, hin3⟩, es, ed, if_pos c_63, if_neg (by omega)]) (trivial)
          · skip
            refine x_bipush ok ((-3)) dX5_sing_66 (by decide) ?_
            exact ret () _ _ _ ((-3)) dX5_sing_68 (rfl) (by rw [singC, if_pos hh, if_pos ⟨hin, hin2, hin3⟩, es, ed, if_neg c_63]) (trivial)
        · skip
          refine x_bipush ok ((-2)) dX5_sing_50 (by decide) ?_
          exact ret () _ _ _ ((-2)) dX5_sing_52 (rfl) (by rw [singC, if_pos hh, if_neg (fun z => c_47 z.2.2)]) (trivial)
  · skip
    have hh : ¬ hasB z1 L.length = true := by simpa using c_10
    refine x_iconst ok ((-1)) dX5_sing_13 (by decide) ?_
    exact ret () _ _ _ ((-1)) dX5_sing_14 (rfl) (by rw [singC, if_neg hh]) (trivial)

set_option maxHeartbeats 4000000 in
set_option maxRecDepth 100000 in
theorem e_sing1 (l : Launch) (D : va_G) (cI cZ cS : ClassId) (y : Nat) (zt : Int32) (mt : Nat) (ts : Nat) (pl : Nat) (W : Nat) (ll : Nat) (md : Nat) (ms : Nat) (rW : Nat) (mrd : Nat) (mrs : Nat) (mrp : Nat) (mp : Nat) (mb : Nat) (na : Nat) (mk : Nat) (mi : Nat) (sd : Int64) (m1 : Nat) (m2 : Nat) (m3 : Nat) (ml : Nat) (mf : Nat) (mw : Nat) (mn : Nat) (sf : Nat → Int32) (st : Nat → Nat) (g : Nat → Int32) (L : List Sg) (li : Nat) (ye : Int32) (br : Int32) (As : List SS) (bf : Nat → Int32) (A : Nat) (s : Nat) (d : Nat) (v : Nat) (p : Nat) (hst : ∀ w, w < W → sf w = nI (st w)) (hst2 : ∀ w, w < W → st w ≤ 2) (hg : PGR g L li ye br) (hb : BKR bf As) (ha : As.length ≤ 12) (hv : okL W A L) (hW4 : W ≤ 4) (hl : li < 256) (hs1 : s < L.length) (hd : d ≤ 1) (hv0 : 1 ≤ v) (hv9 : v ≤ 9) (hp3 : p ≤ 3) (hway : way W li (sg L s 1) d = true) (h7 : L.length < 8) : CO l D (TY cI cZ cS) yX5_sing cX5_sing 5 (some .int) 3 71 0 0 [.ref y, .int (nI s), .int (nI d), .int (nI v), .int (nI p)] [(y, .inr (5, [.int zt, .ref mt, .int (nI ts), .int (nI pl), .int (nI W), .int (nI ll), .ref md, .ref ms, .int (nI rW), .ref mrd, .ref mrs, .ref mrp, .ref mp, .ref mb, .int (nI As.length), .ref mk, .ref mi, .long sd, .ref m1, .ref m2, .ref m3, .ref ml, .ref mf, .ref mw, .ref mn])), (ms, .inl (cI, 4, .inl sf)), (mp, .inl (cI, 52, .inl g)), (mb, .inl (cI, 624, .inl bf))] (σ := (Nat → Int32) × (Nat → Int32)) (fun u => some (.int (nI L.length))) (fun u => [(y, .inr (5, [.int (nI 0), .ref mt, .int (nI ts), .int (nI pl), .int (nI W), .int (nI ll), .ref md, .ref ms, .int (nI rW), .ref mrd, .ref mrs, .ref mrp, .ref mp, .ref mb, .int (nI ((remL As (L, li, ye, br)).length)), .ref mk, .ref mi, .long sd, .ref m1, .ref m2, .ref m3, .ref ml, .ref mf, .ref mw, .ref mn])), (ms, .inl (cI, 4, .inl sf)), (mp, .inl (cI, 52, .inl u.1)), (mb, .inl (cI, 624, .inl u.2))]) (fun u => (PGR u.1 (sungL st L s (jN L s d) v p) li ye (br + nI v)) ∧ (BKR u.2 (remL As (L, li, ye, br)))) := by
  refine CO_mki (by decide +kernel) (Nat.le_of_ble_eq_true rfl) (fun K ok ret => ?_)
  show XX K [(y, .inr (5, [.int zt, .ref mt, .int (nI ts), .int (nI pl), .int (nI W), .int (nI ll), .ref md, .ref ms, .int (nI rW), .ref mrd, .ref mrs, .ref mrp, .ref mp, .ref mb, .int (nI As.length), .ref mk, .ref mi, .long sd, .ref m1, .ref m2, .ref m3, .ref ml, .ref mf, .ref mw, .ref mn])), (ms, .inl (cI, 4, .inl sf)), (mp, .inl (cI, 52, .inl g)), (mb, .inl (cI, 624, .inl bf))] [(0, .ref y), (1, .int (nI s)), (2, .int (nI d)), (3, .int (nI v)), (4, .int (nI p))] 0 []
  have h8 := hv.1
  have hsl : (sungL st L s (jN L s d) v p).length = L.length + 1 := by rw [sungL]; simp
  have hh := hasB_n (n := L.length) hs1 (by omega)
  refine x_aload_n ok 0 dX5_sing_0 rfl rfl ?_
  refine x_iconst ok (nI 0) dX5_sing_1 (by decide) ?_
  refine pX5_62 ok dX5_sing_2 0 rfl rfl rfl (Nat.le_of_ble_eq_true rfl) (ws' := [(y, .inr (5, [.int (nI 0), .ref mt, .int (nI ts), .int (nI pl), .int (nI W), .int (nI ll), .ref md, .ref ms, .int (nI rW), .ref mrd, .ref mrs, .ref mrp, .ref mp, .ref mb, .int (nI As.length), .ref mk, .ref mi, .long sd, .ref m1, .ref m2, .ref m3, .ref ml, .ref mf, .ref mw, .ref mn])), (ms, .inl (cI, 4, .inl sf)), (mp, .inl (cI, 52, .inl g)), (mb, .inl (cI, 624, .inl bf))]) rfl ?_
  refine x_aload_n ok 0 dX5_sing_5 rfl rfl ?_
  refine x_iload_n ok 1 dX5_sing_6 rfl rfl ?_
  refine qX5_120 ok (As := [.int (nI s)]) (st := []) 0 rfl (d_noSong l D cI cZ cS y (nI 0) mt ts pl W ll md ms rW mrd mrs mrp mp mb As.length mk mi sd m1 m2 m3 ml mf mw mn g L li ye br (nI s) (by first | assumption | omega) (by first | assumption | omega)) rfl (Nat.le_of_ble_eq_true rfl) (Nat.le_of_ble_eq_true rfl) (Nat.le_of_ble_eq_true rfl) dX5_sing_7 [0, 2] (by decide) rfl (ws' := fun u => [(y, .inr (5, [.int (nI 0), .ref mt, .int (nI ts), .int (nI pl), .int (nI W), .int (nI ll), .ref md, .ref ms, .int (nI rW), .ref mrd, .ref mrs, .ref mrp, .ref mp, .ref mb, .int (nI As.length), .ref mk, .ref mi, .long sd, .ref m1, .ref m2, .ref m3, .ref ml, .ref mf, .ref mw, .ref mn])), (ms, .inl (cI, 4, .inl sf)), (mp, .inl (cI, 52, .inl g)), (mb, .inl (cI, 624, .inl bf))]) (st' := fun u => [.int (bz (!hasB (nI s) L.length))]) (fun _ => rfl) (fun _ => rfl) (fun _ => rfl) (fun _ _ => ?_)
  refine x_if_eqB ok 15 dX5_sing_10 (by decide) (fun c_10 => ?_) (fun c_10 => absurd c_10 (by simpa using hh))
  refine x_iload_n ok 2 dX5_sing_15 rfl rfl ?_
  refine x_i2l ok ((nI d).toInt64) dX5_sing_16 rfl ?_
  refine x_lconst ok ((nI 0).toInt64) dX5_sing_17 (by decide) ?_
  refine x_lconst ok ((nI 1).toInt64) dX5_sing_18 (by decide) ?_
  refine qX5_69 ok (As := [.long ((nI d).toInt64), .long ((nI 0).toInt64), .long ((nI 1).toInt64)]) (st := []) (d_in l D cI cZ cS (nI d) (nI 0) (nI 1) ) rfl (Nat.le_of_ble_eq_true rfl) (Nat.le_of_ble_eq_true rfl) (Nat.le_of_ble_eq_true rfl) dX5_sing_19 [] (by decide) rfl (ws' := fun u => [(y, .inr (5, [.int (nI 0), .ref mt, .int (nI ts), .int (nI pl), .int (nI W), .int (nI ll), .ref md, .ref ms, .int (nI rW), .ref mrd, .ref mrs, .ref mrp, .ref mp, .ref mb, .int (nI As.length), .ref mk, .ref mi, .long sd, .ref m1, .ref m2, .ref m3, .ref ml, .ref mf, .ref mw, .ref mn])), (ms, .inl (cI, 4, .inl sf)), (mp, .inl (cI, 52, .inl g)), (mb, .inl (cI, 624, .inl bf))]) (st' := fun u => [.int (bz (inB (nI d) (nI 0) (nI 1)))]) (fun _ => rfl) (fun _ => rfl) (fun _ => rfl) (fun _ _ => ?_)
  refine x_if_eqB ok 50 dX5_sing_22 (by decide) (fun c_22 => absurd c_22 (fun z => z (inB_n (by omega) (Nat.zero_le _) hd))) (fun c_22 => ?_)
  refine x_iload_n ok 3 dX5_sing_25 rfl rfl ?_
  refine x_i2l ok ((nI v).toInt64) dX5_sing_26 rfl ?_
  refine x_lconst ok ((nI 1).toInt64) dX5_sing_27 (by decide) ?_
  refine x_ldc2v ok KX5_143 (v' := (nI 9).toInt64) (by decide) dX5_sing_28 ?_
  refine qX5_69 ok (As := [.long ((nI v).toInt64), .long ((nI 1).toInt64), .long ((nI 9).toInt64)]) (st := []) (d_in l D cI cZ cS (nI v) (nI 1) (nI 9) ) rfl (Nat.le_of_ble_eq_true rfl) (Nat.le_of_ble_eq_true rfl) (Nat.le_of_ble_eq_true rfl) dX5_sing_31 [] (by decide) rfl (ws' := fun u => [(y, .inr (5, [.int (nI 0), .ref mt, .int (nI ts), .int (nI pl), .int (nI W), .int (nI ll), .ref md, .ref ms, .int (nI rW), .ref mrd, .ref mrs, .ref mrp, .ref mp, .ref mb, .int (nI As.length), .ref mk, .ref mi, .long sd, .ref m1, .ref m2, .ref m3, .ref ml, .ref mf, .ref mw, .ref mn])), (ms, .inl (cI, 4, .inl sf)), (mp, .inl (cI, 52, .inl g)), (mb, .inl (cI, 624, .inl bf))]) (st' := fun u => [.int (bz (inB (nI v) (nI 1) (nI 9)))]) (fun _ => rfl) (fun _ => rfl) (fun _ => rfl) (fun _ _ => ?_)
  refine x_if_eqB ok 50 dX5_sing_34 (by decide) (fun c_34 => absurd c_34 (fun z => z (inB_n (by omega) hv0 hv9))) (fun c_34 => ?_)
  refine x_iload ok 4 dX5_sing_37 rfl ?_
  refine x_i2l ok ((nI p).toInt64) dX5_sing_39 rfl ?_
  refine x_lconst ok ((nI 0).toInt64) dX5_sing_40 (by decide) ?_
  refine x_ldc2v ok KX5_145 (v' := (nI 3).toInt64) (by decide) dX5_sing_41 ?_
  refine qX5_69 ok (As := [.long ((nI p).toInt64), .long ((nI 0).toInt64), .long ((nI 3).toInt64)]) (st := []) (d_in l D cI cZ cS (nI p) (nI 0) (nI 3) ) rfl (Nat.le_of_ble_eq_true rfl) (Nat.le_of_ble_eq_true rfl) (Nat.le_of_ble_eq_true rfl) dX5_sing_44 [] (by decide) rfl (ws' := fun u => [(y, .inr (5, [.int (nI 0), .ref mt, .int (nI ts), .int (nI pl), .int (nI W), .int (nI ll), .ref md, .ref ms, .int (nI rW), .ref mrd, .ref mrs, .ref mrp, .ref mp, .ref mb, .int (nI As.length), .ref mk, .ref mi, .long sd, .ref m1, .ref m2, .ref m3, .ref ml, .ref mf, .ref mw, .ref mn])), (ms, .inl (cI, 4, .inl sf)), (mp, .inl (cI, 52, .inl g)), (mb, .inl (cI, 624, .inl bf))]) (st' := fun u => [.int (bz (inB (nI p) (nI 0) (nI 3)))]) (fun _ => rfl) (fun _ => rfl) (fun _ => rfl) (fun _ _ => ?_)
  refine x_if_neB ok 53 dX5_sing_47 (by decide) (fun c_47 => ?_) (fun c_47 => absurd c_47 (fun z => z (inB_n (by omega) (Nat.zero_le _) hp3)))
  refine x_aload_n ok 0 dX5_sing_53 rfl rfl ?_
  refine x_aload_n ok 0 dX5_sing_54 rfl rfl ?_
  refine gX5_28 ok dX5_sing_55 0 rfl rfl ?_
  refine x_iload_n ok 1 dX5_sing_58 rfl rfl ?_
  refine x_iload_n ok 2 dX5_sing_59 rfl rfl ?_
  refine qX5_147 ok (As := [.ref mp, .int (nI s), .int (nI d)]) (st := []) 0 rfl (d_canSing l D cI cZ cS y (nI 0) mt ts pl W ll md ms rW mrd mrs mrp mp mb As.length mk mi sd m1 m2 m3 ml mf mw mn mp g L li ye br A s d (by first | assumption | omega) (by first | assumption | omega) (by first | assumption | omega) (by first | assumption | omega) (by first | assumption | omega) (by first | assumption | omega)) rfl (Nat.le_of_ble_eq_true rfl) (Nat.le_of_ble_eq_true rfl) (Nat.le_of_ble_eq_true rfl) dX5_sing_60 [0, 2] (by decide) rfl (ws' := fun u => [(y, .inr (5, [.int (nI 0), .ref mt, .int (nI ts), .int (nI pl), .int (nI W), .int (nI ll), .ref md, .ref ms, .int (nI rW), .ref mrd, .ref mrs, .ref mrp, .ref mp, .ref mb, .int (nI As.length), .ref mk, .ref mi, .long sd, .ref m1, .ref m2, .ref m3, .ref ml, .ref mf, .ref mw, .ref mn])), (ms, .inl (cI, 4, .inl sf)), (mp, .inl (cI, 52, .inl g)), (mb, .inl (cI, 624, .inl bf))]) (st' := fun u => [.int (bz (way W li (sg L s 1) d))]) (fun _ => rfl) (fun _ => rfl) (fun _ => rfl) (fun _ _ => ?_)
  refine x_if_neB ok 69 dX5_sing_63 (by decide) (fun c_63 => ?_) (fun c_63 => absurd c_63 (fun z => z hway))
  refine x_aload_n ok 0 dX5_sing_69 rfl rfl ?_
  refine gX5_28 ok dX5_sing_70 0 rfl rfl ?_
  refine x_bipush ok (nI 48) dX5_sing_73 (by decide) ?_
  refine x_iald ok 2 0 48 dX5_sing_75 rfl rfl (rfl) (by omega) (by decide) (nI L.length) (hg.2.1) ?_
  refine x_bipush ok (nI 8) dX5_sing_76 (by decide) ?_
  refine x_icmp_neN ok 84 dX5_sing_78 (by decide) (by omega) (by omega) (fun c_78 => ?_) (fun c_78 => absurd c_78 (by omega))
  refine x_aload_n ok 0 dX5_sing_84 rfl rfl ?_
  refine qX5_140 ok (As := []) (st := []) 0 rfl (d_note l D cI cZ cS y (nI 0) mt ts pl W ll md ms rW mrd mrs mrp mp mb na mk mi sd m1 m2 m3 ml mf mw mn g L li ye br As bf (by first | assumption | omega) (by first | assumption | omega) (by first | assumption | omega) (by first | assumption | omega)) rfl (Nat.le_of_ble_eq_true rfl) (Nat.le_of_ble_eq_true rfl) (Nat.le_of_ble_eq_true rfl) dX5_sing_85 [0, 2, 3] (by decide) rfl (ws' := fun u => [(y, .inr (5, [.int (nI 0), .ref mt, .int (nI ts), .int (nI pl), .int (nI W), .int (nI ll), .ref md, .ref ms, .int (nI rW), .ref mrd, .ref mrs, .ref mrp, .ref mp, .ref mb, .int (nI ((remL As (L, li, ye, br)).length)), .ref mk, .ref mi, .long sd, .ref m1, .ref m2, .ref m3, .ref ml, .ref mf, .ref mw, .ref mn])), (ms, .inl (cI, 4, .inl sf)), (mp, .inl (cI, 52, .inl g)), (mb, .inl (cI, 624, .inl u))]) (st' := fun u => []) (fun _ => rfl) (fun _ => rfl) (fun _ => rfl) (fun u85 hu85 => ?_)
  obtain ⟨b285, rfl⟩ : ∃ z, z = u85 := ⟨_, rfl⟩
  have hb285 := hu85
  have hb285 : BKR b285 (remL As (L, li, ye, br)) := hb285
  show XX K [(y, .inr (5, [.int (nI 0), .ref mt, .int (nI ts), .int (nI pl), .int (nI W), .int (nI ll), .ref md, .ref ms, .int (nI rW), .ref mrd, .ref mrs, .ref mrp, .ref mp, .ref mb, .int (nI ((remL As (L, li, ye, br)).length)), .ref mk, .ref mi, .long sd, .ref m1, .ref m2, .ref m3, .ref ml, .ref mf, .ref mw, .ref mn])), (ms, .inl (cI, 4, .inl sf)), (mp, .inl (cI, 52, .inl g)), (mb, .inl (cI, 624, .inl b285))] [(0, .ref y), (1, .int (nI s)), (2, .int (nI d)), (3, .int (nI v)), (4, .int (nI p))] 88 []
  refine x_aload_n ok 0 dX5_sing_88 rfl rfl ?_
  refine x_aload_n ok 0 dX5_sing_89 rfl rfl ?_
  refine gX5_28 ok dX5_sing_90 0 rfl rfl ?_
  refine x_iload_n ok 1 dX5_sing_93 rfl rfl ?_
  refine x_iload_n ok 2 dX5_sing_94 rfl rfl ?_
  refine x_iload_n ok 3 dX5_sing_95 rfl rfl ?_
  refine x_iload ok 4 dX5_sing_96 rfl ?_
  refine qX5_151 ok (As := [.ref mp, .int (nI s), .int (nI d), .int (nI v), .int (nI p)]) (st := []) 0 rfl (d_goSing l D cI cZ cS y (nI 0) mt ts pl W ll md ms rW mrd mrs mrp mp mb ((remL As (L, li, ye, br)).length) mk mi sd m1 m2 m3 ml mf mw mn sf st mp g L li ye br A s d v p (by first | assumption | omega) (by first | assumption | omega) (by first | assumption | omega) (by first | assumption | omega) (by first | assumption | omega) (by first | assumption | omega) (by first | assumption | omega) (by first | assumption | omega) (by first | assumption | omega) (by first | assumption | omega) (by first | assumption | omega) (by first | assumption | omega)) rfl (Nat.le_of_ble_eq_true rfl) (Nat.le_of_ble_eq_true rfl) (Nat.le_of_ble_eq_true rfl) dX5_sing_98 [0, 1, 2] (by decide) rfl (ws' := fun u => [(y, .inr (5, [.int (nI 0), .ref mt, .int (nI ts), .int (nI pl), .int (nI W), .int (nI ll), .ref md, .ref ms, .int (nI rW), .ref mrd, .ref mrs, .ref mrp, .ref mp, .ref mb, .int (nI ((remL As (L, li, ye, br)).length)), .ref mk, .ref mi, .long sd, .ref m1, .ref m2, .ref m3, .ref ml, .ref mf, .ref mw, .ref mn])), (ms, .inl (cI, 4, .inl sf)), (mp, .inl (cI, 52, .inl u)), (mb, .inl (cI, 624, .inl b285))]) (st' := fun u => []) (fun _ => rfl) (fun _ => rfl) (fun _ => rfl) (fun u98 hu98 => ?_)
  obtain ⟨g298, rfl⟩ : ∃ z, z = u98 := ⟨_, rfl⟩
  have hg298 := hu98
  have hg298 : PGR g298 (sungL st L s (jN L s d) v p) li ye (br + nI v) := hg298
  show XX K [(y, .inr (5, [.int (nI 0), .ref mt, .int (nI ts), .int (nI pl), .int (nI W), .int (nI ll), .ref md, .ref ms, .int (nI rW), .ref mrd, .ref mrs, .ref mrp, .ref mp, .ref mb, .int (nI ((remL As (L, li, ye, br)).length)), .ref mk, .ref mi, .long sd, .ref m1, .ref m2, .ref m3, .ref ml, .ref mf, .ref mw, .ref mn])), (ms, .inl (cI, 4, .inl sf)), (mp, .inl (cI, 52, .inl g298)), (mb, .inl (cI, 624, .inl b285))] [(0, .ref y), (1, .int (nI s)), (2, .int (nI d)), (3, .int (nI v)), (4, .int (nI p))] 101 []
  refine x_aload_n ok 0 dX5_sing_101 rfl rfl ?_
  refine gX5_28 ok dX5_sing_102 0 rfl rfl ?_
  refine x_bipush ok (nI 48) dX5_sing_105 (by decide) ?_
  refine x_iald ok 2 0 48 dX5_sing_107 rfl rfl (rfl) (by omega) (by decide) (nI ((sungL st L s (jN L s d) v p).length)) (hg298.2.1) ?_
  refine x_iconst ok (nI 1) dX5_sing_108 (by decide) ?_
  refine x_isub ok (nI L.length) dX5_sing_109 ((pk_sub (by omega)).trans (congrArg nI (by omega))) ?_
  exact ret (g298, b285) _ _ _ (nI L.length) dX5_sing_110 (rfl) (rfl) (⟨hg298, hb285⟩)

set_option maxHeartbeats 4000000 in
set_option maxRecDepth 100000 in
theorem d_hears (l : Launch) (D : va_G) (cI cZ cS : ClassId) (y : Nat) (zt : Int32) (mt : Nat) (ts : Nat) (pl : Nat) (W : Nat) (ll : Nat) (md : Nat) (ms : Nat) (rW : Nat) (mrd : Nat) (mrs : Nat) (mrp : Nat) (mp : Nat) (mb : Nat) (na : Nat) (mk : Nat) (mi : Nat) (sd : Int64) (m1 : Nat) (m2 : Nat) (m3 : Nat) (ml : Nat) (mf : Nat) (mw : Nat) (mn : Nat) (g : Nat → Int32) (L : List Sg) (li : Nat) (ye : Int32) (br : Int32) (A : Nat) (df : Nat → Int32) (dp : Nat → Nat) (w : Nat) (x : Nat) (noon : Bool) (hg : PGR g L li ye br) (hv : okL W A L) (hdp : ∀ w, w < W → df w = nI (dp w)) (hdp2 : ∀ w, w < W → 1 ≤ dp w ∧ dp w ≤ 9) (hW4 : W ≤ 4) (hl : li < 256) (hA : A < 1000000) (hw : w < W) (hx : x ≤ 9) : CO l D (TY cI cZ cS) yX5_hears cX5_hears 10 (some .int) 1 21 0 0 [.ref y, .int (nI w), .int (nI x), .int (bz noon)] [(y, .inr (5, [.int zt, .ref mt, .int (nI ts), .int (nI pl), .int (nI W), .int (nI ll), .ref md, .ref ms, .int (nI rW), .ref mrd, .ref mrs, .ref mrp, .ref mp, .ref mb, .int (nI na), .ref mk, .ref mi, .long sd, .ref m1, .ref m2, .ref m3, .ref ml, .ref mf, .ref mw, .ref mn])), (md, .inl (cI, 4, .inl df)), (mp, .inl (cI, 52, .inl g))] (σ := Unit) (fun u => some (.int (nI (heardN L li (dp w) noon w x)))) (fun u => [(y, .inr (5, [.int zt, .ref mt, .int (nI ts), .int (nI pl), .int (nI W), .int (nI ll), .ref md, .ref ms, .int (nI rW), .ref mrd, .ref mrs, .ref mrp, .ref mp, .ref mb, .int (nI na), .ref mk, .ref mi, .long sd, .ref m1, .ref m2, .ref m3, .ref ml, .ref mf, .ref mw, .ref mn])), (md, .inl (cI, 4, .inl df)), (mp, .inl (cI, 52, .inl g))]) (fun u => True) := by
  refine CO_mki (by decide +kernel) (Nat.le_of_ble_eq_true rfl) (fun K ok ret => ?_)
  show XX K [(y, .inr (5, [.int zt, .ref mt, .int (nI ts), .int (nI pl), .int (nI W), .int (nI ll), .ref md, .ref ms, .int (nI rW), .ref mrd, .ref mrs, .ref mrp, .ref mp, .ref mb, .int (nI na), .ref mk, .ref mi, .long sd, .ref m1, .ref m2, .ref m3, .ref ml, .ref mf, .ref mw, .ref mn])), (md, .inl (cI, 4, .inl df)), (mp, .inl (cI, 52, .inl g))] [(0, .ref y), (1, .int (nI w)), (2, .int (nI x)), (3, .int (bz noon))] 0 []
  have h8 := hv.1
  have hdw := hdp2 w hw
  refine x_iload_n ok 2 dX5_hears_0 rfl rfl ?_
  refine x_aload_n ok 0 dX5_hears_1 rfl rfl ?_
  refine gX5_13 ok dX5_hears_2 0 rfl rfl ?_
  refine x_iload_n ok 1 dX5_hears_5 rfl rfl ?_
  refine x_iald ok 1 0 w dX5_hears_6 rfl rfl (rfl) (by omega) (by decide) (nI (dp w)) (hdp w hw) ?_
  have J_20 : ∀ (v20_1 : Nat), v20_1 = (if (dp w) ≤ x then dp w else x) → XX K [(y, .inr (5, [.int zt, .ref mt, .int (nI ts), .int (nI pl), .int (nI W), .int (nI ll), .ref md, .ref ms, .int (nI rW), .ref mrd, .ref mrs, .ref mrp, .ref mp, .ref mb, .int (nI na), .ref mk, .ref mi, .long sd, .ref m1, .ref m2, .ref m3, .ref ml, .ref mf, .ref mw, .ref mn])), (md, .inl (cI, 4, .inl df)), (mp, .inl (cI, 52, .inl g))] [(0, .ref y), (1, .int (nI w)), (2, .int (nI x)), (3, .int (bz noon))] 20 [.int (nI v20_1)] := by
    intro v20_1 e_v20_1
    have hv20 : v20_1 = min x (dp w) := by rw [e_v20_1]; split <;> omega
    refine x_istore ok (lv' := [(4, .int (nI v20_1)), (0, .ref y), (1, .int (nI w)), (2, .int (nI x)), (3, .int (bz noon))]) dX5_hears_20 (by decide) rfl ?_
    refine x_iconst ok (nI 0) dX5_hears_22 (by decide) ?_
    refine x_istore ok (lv' := [(5, .int (nI 0)), (4, .int (nI v20_1)), (0, .ref y), (1, .int (nI w)), (2, .int (nI x)), (3, .int (bz noon))]) dX5_hears_23 (by decide) rfl ?_
    refine x_iconst ok (nI 0) dX5_hears_25 (by decide) ?_
    refine x_istore ok (lv' := [(6, .int (nI 0)), (5, .int (nI 0)), (4, .int (nI v20_1)), (0, .ref y), (1, .int (nI w)), (2, .int (nI x)), (3, .int (bz noon))]) dX5_hears_26 (by decide) rfl ?_
    have L_28 : ∀ (n_28 : Nat) (i : Nat), L.length - i < n_28 → (i ≤ L.length) → (i = 0 ∨ ¬ li.testBit w = true) → XX K [(y, .inr (5, [.int zt, .ref mt, .int (nI ts), .int (nI pl), .int (nI W), .int (nI ll), .ref md, .ref ms, .int (nI rW), .ref mrd, .ref mrs, .ref mrp, .ref mp, .ref mb, .int (nI na), .ref mk, .ref mi, .long sd, .ref m1, .ref m2, .ref m3, .ref ml, .ref mf, .ref mw, .ref mn])), (md, .inl (cI, 4, .inl df)), (mp, .inl (cI, 52, .inl g))] [(6, .int (nI i)), (5, .int (nI (orN (hear1 L (dp w) v20_1 noon w) i))), (4, .int (nI v20_1)), (0, .ref y), (1, .int (nI w)), (2, .int (nI x)), (3, .int (bz noon))] 28 [] := by
      intro n_28
      induction n_28 with
      | zero => intro i hm; exact absurd hm (Nat.not_lt_zero _)
      | succ n_28 ih_28 =>
        intro i hm_28 hi hz
        refine x_iload ok 0 dX5_hears_28 rfl ?_
        refine x_aload_n ok 3 dX5_hears_30 rfl rfl ?_
        refine gX5_28 ok dX5_hears_31 0 rfl rfl ?_
        refine x_bipush ok (nI 48) dX5_hears_34 (by decide) ?_
        refine x_iald ok 2 0 48 dX5_hears_36 rfl rfl (rfl) (by omega) (by decide) (nI L.length) (hg.2.1) ?_
        refine x_icmp_geN ok 184 dX5_hears_37 (by decide) (by omega) (by omega) (fun c_37 => ?_) (fun c_37 => ?_)
        · skip
          have e_i : L.length = i := by omega
          subst e_i
          refine x_iload ok 1 dX5_hears_184 rfl ?_
          exact ret () _ _ _ (nI (orN (hear1 L (dp w) v20_1 noon w) L.length)) dX5_hears_186 (rfl) (by rw [heardN, ← hv20]; rcases hz with z | z; (rw [z]; split <;> rfl); (rw [if_neg z])) (trivial)
        · skip
          obtain ⟨v0, v1, v2, v2b, v3, v4, v5⟩ := hv.2 i (by omega)
          refine x_aload_n ok 3 dX5_hears_40 rfl rfl ?_
          refine gX5_28 ok dX5_hears_41 0 rfl rfl ?_
          refine x_bipush ok (nI 49) dX5_hears_44 (by decide) ?_
          refine x_iald ok 2 0 49 dX5_hears_46 rfl rfl (rfl) (by omega) (by decide) (nI li) (hg.2.2.1) ?_
          refine x_iload_n ok 4 dX5_hears_47 rfl rfl ?_
          refine qX5_125 ok (As := [.int (nI li), .int (nI w)]) (st := []) (d_has l D cI cZ cS li w (by first | assumption | omega) (by first | assumption | omega)) rfl (Nat.le_of_ble_eq_true rfl) (Nat.le_of_ble_eq_true rfl) (Nat.le_of_ble_eq_true rfl) dX5_hears_48 [] (by decide) rfl (ws' := fun u => [(y, .inr (5, [.int zt, .ref mt, .int (nI ts), .int (nI pl), .int (nI W), .int (nI ll), .ref md, .ref ms, .int (nI rW), .ref mrd, .ref mrs, .ref mrp, .ref mp, .ref mb, .int (nI na), .ref mk, .ref mi, .long sd, .ref m1, .ref m2, .ref m3, .ref ml, .ref mf, .ref mw, .ref mn])), (md, .inl (cI, 4, .inl df)), (mp, .inl (cI, 52, .inl g))]) (st' := fun u => [.int (bz (li.testBit w))]) (fun _ => rfl) (fun _ => rfl) (fun _ => rfl) (fun _ _ => ?_)
          refine x_if_neB ok 184 dX5_hears_51 (by decide) (fun c_51 => ?_) (fun c_51 => ?_)
          · skip
            refine x_iload ok 1 dX5_hears_184 rfl ?_
            exact ret () _ _ _ (nI (orN (hear1 L (dp w) v20_1 noon w) i)) dX5_hears_186 (rfl) (by rw [heardN, if_pos c_51, show i = 0 from hz.resolve_right (fun z => z c_51)]; rfl) (trivial)
          · skip
            refine x_bipush ok (nI 6) dX5_hears_54 (by decide) ?_
            refine x_iload ok 0 dX5_hears_56 rfl ?_
            refine x_imul ok (nI (i * 6)) dX5_hears_58 (nN (pk_mul _ _) (by omega)) ?_
            refine x_istore ok (lv' := [(7, .int (nI (i * 6))), (6, .int (nI i)), (5, .int (nI (orN (hear1 L (dp w) v20_1 noon w) i))), (4, .int (nI v20_1)), (0, .ref y), (1, .int (nI w)), (2, .int (nI x)), (3, .int (bz noon))]) dX5_hears_59 (by decide) rfl ?_
            refine x_aload_n ok 4 dX5_hears_61 rfl rfl ?_
            refine gX5_28 ok dX5_hears_62 0 rfl rfl ?_
            refine x_iload ok 0 dX5_hears_65 rfl ?_
            refine x_iconst ok (nI 4) dX5_hears_67 (by decide) ?_
            refine x_iadd ok (nI (i * 6 + 4)) dX5_hears_68 (nN (nI_add _ _) (by omega)) ?_
            refine x_iald ok 2 0 (i * 6 + 4) dX5_hears_69 rfl rfl (rfl) (by omega) (by decide) (nI (sg L i 4)) (hg.1 i 4 (by omega) (by omega)) ?_
            refine x_aload_n ok 4 dX5_hears_70 rfl rfl ?_
            refine gX5_13 ok dX5_hears_71 0 rfl rfl ?_
            refine x_iload_n ok 5 dX5_hears_74 rfl rfl ?_
            refine x_iald ok 1 0 w dX5_hears_75 rfl rfl (rfl) (by omega) (by decide) (nI (dp w)) (hdp w hw) ?_
            have J_97 : ∀ (v97_1 : Nat), v97_1 = (if (dp w) ≤ (sg L i 4) then dp w else sg L i 4) → XX K [(y, .inr (5, [.int zt, .ref mt, .int (nI ts), .int (nI pl), .int (nI W), .int (nI ll), .ref md, .ref ms, .int (nI rW), .ref mrd, .ref mrs, .ref mrp, .ref mp, .ref mb, .int (nI na), .ref mk, .ref mi, .long sd, .ref m1, .ref m2, .ref m3, .ref ml, .ref mf, .ref mw, .ref mn])), (md, .inl (cI, 4, .inl df)), (mp, .inl (cI, 52, .inl g))] [(7, .int (nI (i * 6))), (6, .int (nI i)), (5, .int (nI (orN (hear1 L (dp w) v20_1 noon w) i))), (4, .int (nI v20_1)), (0, .ref y), (1, .int (nI w)), (2, .int (nI x)), (3, .int (bz noon))] 97 [.int (nI v97_1)] := by
              intro v97_1 e_v97_1
              have hv97 : v97_1 = min (sg L i 4) (dp w) := by rw [e_v97_1]; split <;> omega
              refine x_istore ok (lv' := [(8, .int (nI v97_1)), (7, .int (nI (i * 6))), (6, .int (nI i)), (5, .int (nI (orN (hear1 L (dp w) v20_1 noon w) i))), (4, .int (nI v20_1)), (0, .ref y), (1, .int (nI w)), (2, .int (nI x)), (3, .int (bz noon))]) dX5_hears_97 (by decide) rfl ?_
              refine x_iload ok 0 dX5_hears_99 rfl ?_
              refine x_iload ok 4 dX5_hears_101 rfl ?_
              have J_119 : ∀ (v119_1 : Nat), v119_1 = (if v20_1 ≤ v97_1 then v97_1 - v20_1 else v20_1 - v97_1) → XX K [(y, .inr (5, [.int zt, .ref mt, .int (nI ts), .int (nI pl), .int (nI W), .int (nI ll), .ref md, .ref ms, .int (nI rW), .ref mrd, .ref mrs, .ref mrp, .ref mp, .ref mb, .int (nI na), .ref mk, .ref mi, .long sd, .ref m1, .ref m2, .ref m3, .ref ml, .ref mf, .ref mw, .ref mn])), (md, .inl (cI, 4, .inl df)), (mp, .inl (cI, 52, .inl g))] [(8, .int (nI v97_1)), (7, .int (nI (i * 6))), (6, .int (nI i)), (5, .int (nI (orN (hear1 L (dp w) v20_1 noon w) i))), (4, .int (nI v20_1)), (0, .ref y), (1, .int (nI w)), (2, .int (nI x)), (3, .int (bz noon))] 119 [.int (nI v119_1)] := by
                intro v119_1 e_v119_1
                have hb119 : v119_1 ≤ 20 := by rw [e_v119_1]; split <;> omega
                have hv119 : v119_1 = ndiff (min (sg L i 4) (dp w)) v20_1 := by rw [e_v119_1, ndiff, ← hv97]; split <;> split <;> omega
                refine x_istore ok (lv' := [(9, .int (nI v119_1)), (8, .int (nI v97_1)), (7, .int (nI (i * 6))), (6, .int (nI i)), (5, .int (nI (orN (hear1 L (dp w) v20_1 noon w) i))), (4, .int (nI v20_1)), (0, .ref y), (1, .int (nI w)), (2, .int (nI x)), (3, .int (bz noon))]) dX5_hears_119 (by decide) rfl ?_
                refine x_iload ok 4 dX5_hears_121 rfl ?_
                refine x_aload_n ok 6 dX5_hears_123 rfl rfl ?_
                refine gX5_28 ok dX5_hears_124 0 rfl rfl ?_
                refine x_iload ok 2 dX5_hears_127 rfl ?_
                refine x_iconst ok (nI 1) dX5_hears_129 (by decide) ?_
                refine x_iadd ok (nI (i * 6 + 1)) dX5_hears_130 (nN (nI_add _ _) (by omega)) ?_
                refine x_iald ok 2 0 (i * 6 + 1) dX5_hears_131 rfl rfl (rfl) (by omega) (by decide) (nI (sg L i 1)) (hg.1 i 1 (by omega) (by omega)) ?_
                refine x_iload_n ok 7 dX5_hears_132 rfl rfl ?_
                have J_175 : ∀ (v175_1 : Nat), v175_1 = (if (sg L i 1) = w then (if (sg L i 2) ≤ v119_1 then 0 else (if noon = true then (if 2 ≤ (sg L i 3) then 0 else 2 ^ i) else 2 ^ i)) else 0) → XX K [(y, .inr (5, [.int zt, .ref mt, .int (nI ts), .int (nI pl), .int (nI W), .int (nI ll), .ref md, .ref ms, .int (nI rW), .ref mrd, .ref mrs, .ref mrp, .ref mp, .ref mb, .int (nI na), .ref mk, .ref mi, .long sd, .ref m1, .ref m2, .ref m3, .ref ml, .ref mf, .ref mw, .ref mn])), (md, .inl (cI, 4, .inl df)), (mp, .inl (cI, 52, .inl g))] [(9, .int (nI v119_1)), (8, .int (nI v97_1)), (7, .int (nI (i * 6))), (6, .int (nI i)), (5, .int (nI (orN (hear1 L (dp w) v20_1 noon w) i))), (4, .int (nI v20_1)), (0, .ref y), (1, .int (nI w)), (2, .int (nI x)), (3, .int (bz noon))] 175 [.int (nI v175_1), .int (nI (orN (hear1 L (dp w) v20_1 noon w) i))] := by
                  intro v175_1 e_v175_1
                  have hq : v175_1 = hear1 L (dp w) v20_1 noon w i := by
                    have b1 : (sg L i 2 ≤ v119_1) = ¬ (v119_1 < sg L i 2) := propext Nat.not_lt.symm
                    have b2 : (2 ≤ sg L i 3) = ¬ (sg L i 3 < 2) := propext Nat.not_lt.symm
                    rw [e_v175_1, hear1, ← hv119]
                    simp only [b1, b2]
                    by_cases a : sg L i 1 = w <;> by_cases b : v119_1 < sg L i 2 <;> by_cases c : sg L i 3 < 2 <;> cases noon <;> simp [a, b, c]
                  refine x_ior ok (nI (orN (hear1 L (dp w) v20_1 noon w) (i + 1))) dX5_hears_175 (by rw [hq]; exact fa_or _ _) ?_
                  refine x_istore ok (lv' := [(5, .int (nI (orN (hear1 L (dp w) v20_1 noon w) (i + 1)))), (9, .int (nI v119_1)), (8, .int (nI v97_1)), (7, .int (nI (i * 6))), (6, .int (nI i)), (4, .int (nI v20_1)), (0, .ref y), (1, .int (nI w)), (2, .int (nI x)), (3, .int (bz noon))]) dX5_hears_176 (by decide) rfl ?_
                  refine x_iinc ok (v := nI (i + 1)) (lv' := [(6, .int (nI (i + 1))), (5, .int (nI (orN (hear1 L (dp w) v20_1 noon w) (i + 1)))), (9, .int (nI v119_1)), (8, .int (nI v97_1)), (7, .int (nI (i * 6))), (4, .int (nI v20_1)), (0, .ref y), (1, .int (nI w)), (2, .int (nI x)), (3, .int (bz noon))]) dX5_hears_178 4 rfl (nN (nI_inc _ 1) (by omega)) (by decide) rfl ?_
                  refine x_goto ok 28 dX5_hears_181 (by decide) ?_
                  refine x_loc ok [0, 1, 5, 6, 7, 8, 9] (lv' := [(6, .int (nI (i + 1))), (5, .int (nI (orN (hear1 L (dp w) v20_1 noon w) (i + 1)))), (4, .int (nI v20_1)), (0, .ref y), (1, .int (nI w)), (2, .int (nI x)), (3, .int (bz noon))]) rfl ?_
                  exact ih_28 (i + 1) (by omega) (by first | assumption | omega) (Or.inr c_51)
                refine x_icmp_neN ok 174 dX5_hears_133 (by decide) (by omega) (by omega) (fun c_133 => ?_) (fun c_133 => ?_)
                · skip
                  refine x_iconst ok (nI 0) dX5_hears_174 (by decide) ?_
                  exact J_175 0 (by first | rfl | (simp only [if_neg c_133]; done) | (simp [c_133]; done))
                · skip
                  refine x_aload_n ok 6 dX5_hears_136 rfl rfl ?_
                  refine gX5_28 ok dX5_hears_137 0 rfl rfl ?_
                  refine x_iload ok 2 dX5_hears_140 rfl ?_
                  refine x_iconst ok (nI 2) dX5_hears_142 (by decide) ?_
                  refine x_iadd ok (nI (i * 6 + 2)) dX5_hears_143 (nN (nI_add _ _) (by omega)) ?_
                  refine x_iald ok 2 0 (i * 6 + 2) dX5_hears_144 rfl rfl (rfl) (by omega) (by decide) (nI (sg L i 2)) (hg.1 i 2 (by omega) (by omega)) ?_
                  refine x_iload ok 0 dX5_hears_145 rfl ?_
                  refine x_icmp_leN ok 174 dX5_hears_147 (by decide) (by omega) (by omega) (fun c_147 => ?_) (fun c_147 => ?_)
                  · skip
                    refine x_iconst ok (nI 0) dX5_hears_174 (by decide) ?_
                    exact J_175 0 (by first | rfl | (simp only [if_pos c_133, if_pos c_147]; done) | (simp [c_133, c_147]; done))
                  · skip
                    refine x_iload_n ok 9 dX5_hears_150 rfl rfl ?_
                    refine x_if_eqB ok 167 dX5_hears_151 (by decide) (fun c_151 => ?_) (fun c_151 => ?_)
                    · skip
                      refine x_iconst ok (nI 1) dX5_hears_167 (by decide) ?_
                      refine x_iload ok 3 dX5_hears_168 rfl ?_
                      refine x_ishl ok (nI (2 ^ i)) dX5_hears_170 (shl1 i (by omega)) ?_
                      refine x_goto ok 175 dX5_hears_171 (by decide) ?_
                      exact J_175 (2 ^ i) (by first | rfl | (simp only [if_pos c_133, if_neg c_147, if_neg c_151]; done) | (simp [c_133, c_147, c_151]; done))
                    · skip
                      refine x_aload_n ok 6 dX5_hears_154 rfl rfl ?_
                      refine gX5_28 ok dX5_hears_155 0 rfl rfl ?_
                      refine x_iload ok 2 dX5_hears_158 rfl ?_
                      refine x_iconst ok (nI 3) dX5_hears_160 (by decide) ?_
                      refine x_iadd ok (nI (i * 6 + 3)) dX5_hears_161 (nN (nI_add _ _) (by omega)) ?_
                      refine x_iald ok 2 0 (i * 6 + 3) dX5_hears_162 rfl rfl (rfl) (by omega) (by decide) (nI (sg L i 3)) (hg.1 i 3 (by omega) (by omega)) ?_
                      refine x_iconst ok (nI 2) dX5_hears_163 (by decide) ?_
                      refine x_icmp_geN ok 174 dX5_hears_164 (by decide) (by omega) (by omega) (fun c_164 => ?_) (fun c_164 => ?_)
                      · skip
                        refine x_iconst ok (nI 0) dX5_hears_174 (by decide) ?_
                        exact J_175 0 (by first | rfl | (simp only [if_pos c_133, if_neg c_147, if_pos c_151, if_pos c_164]; done) | (simp [c_133, c_147, c_151, c_164]; done))
                      · skip
                        refine x_iconst ok (nI 1) dX5_hears_167 (by decide) ?_
                        refine x_iload ok 3 dX5_hears_168 rfl ?_
                        refine x_ishl ok (nI (2 ^ i)) dX5_hears_170 (shl1 i (by omega)) ?_
                        refine x_goto ok 175 dX5_hears_171 (by decide) ?_
                        exact J_175 (2 ^ i) (by first | rfl | (simp only [if_pos c_133, if_neg c_147, if_pos c_151, if_neg c_164]; done) | (simp [c_133, c_147, c_151, c_164]; done))
              refine x_icmp_geN ok 114 dX5_hears_103 (by decide) (by omega) (by omega) (fun c_103 => ?_) (fun c_103 => ?_)
              · skip
                refine x_iload ok 0 dX5_hears_114 rfl ?_
                refine x_iload ok 4 dX5_hears_116 rfl ?_
                refine x_isub ok (nI (v97_1 - v20_1)) dX5_hears_118 (pk_sub (by omega)) ?_
                exact J_119 (v97_1 - v20_1) (by first | rfl | (simp only [if_pos c_103]; done) | (simp [c_103]; done))
              · skip
                refine x_iload ok 4 dX5_hears_106 rfl ?_
                refine x_iload ok 0 dX5_hears_108 rfl ?_
                refine x_isub ok (nI (v20_1 - v97_1)) dX5_hears_110 (pk_sub (by omega)) ?_
                refine x_goto ok 119 dX5_hears_111 (by decide) ?_
                exact J_119 (v20_1 - v97_1) (by first | rfl | (simp only [if_neg c_103]; done) | (simp [c_103]; done))
            refine x_icmp_geN ok 91 dX5_hears_76 (by decide) (by omega) (by omega) (fun c_76 => ?_) (fun c_76 => ?_)
            · skip
              refine x_aload_n ok 4 dX5_hears_91 rfl rfl ?_
              refine gX5_13 ok dX5_hears_92 0 rfl rfl ?_
              refine x_iload_n ok 5 dX5_hears_95 rfl rfl ?_
              refine x_iald ok 1 0 w dX5_hears_96 rfl rfl (rfl) (by omega) (by decide) (nI (dp w)) (hdp w hw) ?_
              exact J_97 (dp w) (by first | rfl | (simp only [if_pos c_76]; done) | (simp [c_76]; done))
            · skip
              refine x_aload_n ok 4 dX5_hears_79 rfl rfl ?_
              refine gX5_28 ok dX5_hears_80 0 rfl rfl ?_
              refine x_iload ok 0 dX5_hears_83 rfl ?_
              refine x_iconst ok (nI 4) dX5_hears_85 (by decide) ?_
              refine x_iadd ok (nI (i * 6 + 4)) dX5_hears_86 (nN (nI_add _ _) (by omega)) ?_
              refine x_iald ok 2 0 (i * 6 + 4) dX5_hears_87 rfl rfl (rfl) (by omega) (by decide) (nI (sg L i 4)) (hg.1 i 4 (by omega) (by omega)) ?_
              refine x_goto ok 97 dX5_hears_88 (by decide) ?_
              exact J_97 (sg L i 4) (by first | rfl | (simp only [if_neg c_76]; done) | (simp [c_76]; done))
    exact L_28 _ 0 (Nat.lt_succ_self _) (by first | assumption | omega) (by first | assumption | omega)
  refine x_icmp_geN ok 14 dX5_hears_7 (by decide) (by omega) (by omega) (fun c_7 => ?_) (fun c_7 => ?_)
  · skip
    refine x_aload_n ok 0 dX5_hears_14 rfl rfl ?_
    refine gX5_13 ok dX5_hears_15 0 rfl rfl ?_
    refine x_iload_n ok 1 dX5_hears_18 rfl rfl ?_
    refine x_iald ok 1 0 w dX5_hears_19 rfl rfl (rfl) (by omega) (by decide) (nI (dp w)) (hdp w hw) ?_
    exact J_20 (dp w) (by first | rfl | (simp only [if_pos c_7]; done) | (simp [c_7]; done))
  · skip
    refine x_iload_n ok 2 dX5_hears_10 rfl rfl ?_
    refine x_goto ok 20 dX5_hears_11 (by decide) ?_
    exact J_20 x (by first | rfl | (simp only [if_neg c_7]; done) | (simp [c_7]; done))

set_option maxHeartbeats 4000000 in
set_option maxRecDepth 100000 in
theorem e_heard (l : Launch) (D : va_G) (cI cZ cS : ClassId) (y : Nat) (zt : Int32) (mt : Nat) (ts : Nat) (pl : Nat) (W : Nat) (ll : Nat) (md : Nat) (ms : Nat) (rW : Nat) (mrd : Nat) (mrs : Nat) (mrp : Nat) (mp : Nat) (mb : Nat) (na : Nat) (mk : Nat) (mi : Nat) (sd : Int64) (m1 : Nat) (m2 : Nat) (m3 : Nat) (ml : Nat) (mf : Nat) (mw : Nat) (mn : Nat) (g : Nat → Int32) (L : List Sg) (li : Nat) (ye : Int32) (br : Int32) (A : Nat) (df : Nat → Int32) (dp : Nat → Nat) (w : Int32) (z : Int32) (noon : Bool) (hg : PGR g L li ye br) (hv : okL W A L) (hdp : ∀ w, w < W → df w = nI (dp w)) (hdp2 : ∀ w, w < W → 1 ≤ dp w ∧ dp w ≤ 9) (hW4 : W ≤ 4) (hl : li < 256) (hA : A < 1000000) : CO l D (TY cI cZ cS) yX5_heard cX5_heard 4 (some .int) 2 50 0 0 [.ref y, .int w, .int z, .int (bz noon)] [(y, .inr (5, [.int zt, .ref mt, .int (nI ts), .int (nI pl), .int (nI W), .int (nI ll), .ref md, .ref ms, .int (nI rW), .ref mrd, .ref mrs, .ref mrp, .ref mp, .ref mb, .int (nI na), .ref mk, .ref mi, .long sd, .ref m1, .ref m2, .ref m3, .ref ml, .ref mf, .ref mw, .ref mn])), (md, .inl (cI, 4, .inl df)), (mp, .inl (cI, 52, .inl g))] (σ := Unit) (fun u => some (.int (heardI W dp li L w z noon))) (fun u => [(y, .inr (5, [.int (nI 0), .ref mt, .int (nI ts), .int (nI pl), .int (nI W), .int (nI ll), .ref md, .ref ms, .int (nI rW), .ref mrd, .ref mrs, .ref mrp, .ref mp, .ref mb, .int (nI na), .ref mk, .ref mi, .long sd, .ref m1, .ref m2, .ref m3, .ref ml, .ref mf, .ref mw, .ref mn])), (md, .inl (cI, 4, .inl df)), (mp, .inl (cI, 52, .inl g))]) (fun u => True) := by
  refine CO_mki (by decide +kernel) (Nat.le_of_ble_eq_true rfl) (fun K ok ret => ?_)
  show XX K [(y, .inr (5, [.int zt, .ref mt, .int (nI ts), .int (nI pl), .int (nI W), .int (nI ll), .ref md, .ref ms, .int (nI rW), .ref mrd, .ref mrs, .ref mrp, .ref mp, .ref mb, .int (nI na), .ref mk, .ref mi, .long sd, .ref m1, .ref m2, .ref m3, .ref ml, .ref mf, .ref mw, .ref mn])), (md, .inl (cI, 4, .inl df)), (mp, .inl (cI, 52, .inl g))] [(0, .ref y), (1, .int w), (2, .int z), (3, .int (bz noon))] 0 []
  refine x_aload_n ok 0 dX5_heard_0 rfl rfl ?_
  refine x_iconst ok (nI 0) dX5_heard_1 (by decide) ?_
  refine pX5_62 ok dX5_heard_2 0 rfl rfl rfl (Nat.le_of_ble_eq_true rfl) (ws' := [(y, .inr (5, [.int (nI 0), .ref mt, .int (nI ts), .int (nI pl), .int (nI W), .int (nI ll), .ref md, .ref ms, .int (nI rW), .ref mrd, .ref mrs, .ref mrp, .ref mp, .ref mb, .int (nI na), .ref mk, .ref mi, .long sd, .ref m1, .ref m2, .ref m3, .ref ml, .ref mf, .ref mw, .ref mn])), (md, .inl (cI, 4, .inl df)), (mp, .inl (cI, 52, .inl g))]) rfl ?_
  refine x_aload_n ok 0 dX5_heard_5 rfl rfl ?_
  refine x_iload_n ok 1 dX5_heard_6 rfl rfl ?_
  refine qX5_116 ok (As := [.int w]) (st := []) 0 rfl (d_noWell l D cI cZ cS y (nI 0) mt ts pl W ll md ms rW mrd mrs mrp mp mb na mk mi sd m1 m2 m3 ml mf mw mn w (by first | assumption | omega)) rfl (Nat.le_of_ble_eq_true rfl) (Nat.le_of_ble_eq_true rfl) (Nat.le_of_ble_eq_true rfl) dX5_heard_7 [0] (by decide) rfl (ws' := fun u => [(y, .inr (5, [.int (nI 0), .ref mt, .int (nI ts), .int (nI pl), .int (nI W), .int (nI ll), .ref md, .ref ms, .int (nI rW), .ref mrd, .ref mrs, .ref mrp, .ref mp, .ref mb, .int (nI na), .ref mk, .ref mi, .long sd, .ref m1, .ref m2, .ref m3, .ref ml, .ref mf, .ref mw, .ref mn])), (md, .inl (cI, 4, .inl df)), (mp, .inl (cI, 52, .inl g))]) (st' := fun u => [.int (bz (!hasB w W))]) (fun _ => rfl) (fun _ => rfl) (fun _ => rfl) (fun _ _ => ?_)
  refine x_if_eqB ok 17 dX5_heard_10 (by decide) (fun c_10 => ?_) (fun c_10 => ?_)
  · skip
    have hh : hasB w W = true := by simpa using c_10
    obtain ⟨j, hj, e_w⟩ := hasB_t (by omega) hh
    subst e_w
    have ej := cl_n (show j < 2 ^ 31 by omega)
    refine x_iload_n ok 2 dX5_heard_17 rfl rfl ?_
    refine x_i2l ok ((z).toInt64) dX5_heard_18 rfl ?_
    refine x_lconst ok ((nI 0).toInt64) dX5_heard_19 (by decide) ?_
    refine x_ldc2v ok KX5_143 (v' := (nI 9).toInt64) (by decide) dX5_heard_20 ?_
    refine qX5_69 ok (As := [.long ((z).toInt64), .long ((nI 0).toInt64), .long ((nI 9).toInt64)]) (st := []) (d_in l D cI cZ cS z (nI 0) (nI 9) ) rfl (Nat.le_of_ble_eq_true rfl) (Nat.le_of_ble_eq_true rfl) (Nat.le_of_ble_eq_true rfl) dX5_heard_23 [] (by decide) rfl (ws' := fun u => [(y, .inr (5, [.int (nI 0), .ref mt, .int (nI ts), .int (nI pl), .int (nI W), .int (nI ll), .ref md, .ref ms, .int (nI rW), .ref mrd, .ref mrs, .ref mrp, .ref mp, .ref mb, .int (nI na), .ref mk, .ref mi, .long sd, .ref m1, .ref m2, .ref m3, .ref ml, .ref mf, .ref mw, .ref mn])), (md, .inl (cI, 4, .inl df)), (mp, .inl (cI, 52, .inl g))]) (st' := fun u => [.int (bz (inB z (nI 0) (nI 9)))]) (fun _ => rfl) (fun _ => rfl) (fun _ => rfl) (fun _ _ => ?_)
    refine x_if_eqB ok 39 dX5_heard_26 (by decide) (fun c_26 => ?_) (fun c_26 => ?_)
    · skip
      refine x_bipush ok ((-2)) dX5_heard_39 (by decide) ?_
      exact ret () _ _ _ ((-2)) dX5_heard_41 (rfl) (by rw [heardI, if_pos hh, if_neg c_26]) (trivial)
    · skip
      obtain ⟨k, hk0, hk, e_z⟩ := inB_t (by omega) (by omega) c_26
      subst e_z
      have ek := cl_n (show k < 2 ^ 31 by omega)
      refine x_aload_n ok 0 dX5_heard_29 rfl rfl ?_
      refine x_iload_n ok 1 dX5_heard_30 rfl rfl ?_
      refine x_iload_n ok 2 dX5_heard_31 rfl rfl ?_
      refine x_iload_n ok 3 dX5_heard_32 rfl rfl ?_
      refine qX5_155 ok (As := [.int (nI j), .int (nI k), .int (bz noon)]) (st := []) 0 rfl (d_hears l D cI cZ cS y (nI 0) mt ts pl W ll md ms rW mrd mrs mrp mp mb na mk mi sd m1 m2 m3 ml mf mw mn g L li ye br A df dp j k noon (by first | assumption | omega) (by first | assumption | omega) (by first | assumption | omega) (by first | assumption | omega) (by first | assumption | omega) (by first | assumption | omega) (by first | assumption | omega) (by first | assumption | omega) (by first | assumption | omega)) rfl (Nat.le_of_ble_eq_true rfl) (Nat.le_of_ble_eq_true rfl) (Nat.le_of_ble_eq_true rfl) dX5_heard_33 [0, 1, 2] (by decide) rfl (ws' := fun u => [(y, .inr (5, [.int (nI 0), .ref mt, .int (nI ts), .int (nI pl), .int (nI W), .int (nI ll), .ref md, .ref ms, .int (nI rW), .ref mrd, .ref mrs, .ref mrp, .ref mp, .ref mb, .int (nI na), .ref mk, .ref mi, .long sd, .ref m1, .ref m2, .ref m3, .ref ml, .ref mf, .ref mw, .ref mn])), (md, .inl (cI, 4, .inl df)), (mp, .inl (cI, 52, .inl g))]) (st' := fun u => [.int (nI (heardN L li (dp j) noon j k))]) (fun _ => rfl) (fun _ => rfl) (fun _ => rfl) (fun _ _ => ?_)
      refine x_goto ok 41 dX5_heard_36 (by decide) ?_
      exact ret () _ _ _ (nI (heardN L li (dp j) noon j k)) dX5_heard_41 (rfl) (by rw [heardI, if_pos hh, if_pos c_26, ej, ek]) (trivial)
  · skip
    have hh : ¬ hasB w W = true := by simpa using c_10
    refine x_iconst ok ((-1)) dX5_heard_13 (by decide) ?_
    refine x_goto ok 41 dX5_heard_14 (by decide) ?_
    exact ret () _ _ _ ((-1)) dX5_heard_41 (rfl) (by rw [heardI, if_neg hh]) (trivial)
