set_option maxHeartbeats 4000000 in
set_option maxRecDepth 100000 in
theorem e_year (l : Launch) (D : va_G) (cI cZ cS : ClassId) (y : Nat) (zt : Int32) (mt : Nat) (ts : Nat) (pl : Nat) (W : Nat) (ll : Nat) (md : Nat) (ms : Nat) (rW : Nat) (mrd : Nat) (mrs : Nat) (mrp : Nat) (mp : Nat) (mb : Nat) (na : Nat) (mk : Nat) (mi : Nat) (sd : Int64) (m1 : Nat) (m2 : Nat) (m3 : Nat) (ml : Nat) (mf : Nat) (mw : Nat) (mn : Nat) (sf : Nat → Int32) (st : Nat → Nat) (g : Nat → Int32) (L : List Sg) (li : Nat) (ye : Int32) (br : Int32) (As : List SS) (bf : Nat → Int32) (lf : Nat → Int32) (A : Nat) (hst : ∀ w, w < W → sf w = nI (st w)) (hst2 : ∀ w, w < W → st w ≤ 2) (hg : PGR g L li ye br) (hb : BKR bf As) (ha : As.length ≤ 12) (hv : okL W A L) (hW4 : W ≤ 4) (hl : li < 256) (hA : A < 1000000) : CO l D (TY cI cZ cS) yX5_year cX5_year 2 (some .int) 3 67 0 0 [.ref y] [(y, .inr (5, [.int zt, .ref mt, .int (nI ts), .int (nI pl), .int (nI W), .int (nI ll), .ref md, .ref ms, .int (nI rW), .ref mrd, .ref mrs, .ref mrp, .ref mp, .ref mb, .int (nI As.length), .ref mk, .ref mi, .long sd, .ref m1, .ref m2, .ref m3, .ref ml, .ref mf, .ref mw, .ref mn])), (ms, .inl (cI, 4, .inl sf)), (mp, .inl (cI, 52, .inl g)), (mb, .inl (cI, 624, .inl bf)), (ml, .inl (cI, 8, .inl lf))] (σ := (Nat → Int32) × (Nat → Int32) × (Nat → Int32)) (fun u => some (.int (nI (L.length - (yearL st li L).length)))) (fun u => [(y, .inr (5, [.int (nI 0), .ref mt, .int (nI ts), .int (nI pl), .int (nI W), .int (nI ll), .ref md, .ref ms, .int (nI rW), .ref mrd, .ref mrs, .ref mrp, .ref mp, .ref mb, .int (nI ((remL As (L, li, ye, br)).length)), .ref mk, .ref mi, .long sd, .ref m1, .ref m2, .ref m3, .ref ml, .ref mf, .ref mw, .ref mn])), (ms, .inl (cI, 4, .inl sf)), (mp, .inl (cI, 52, .inl u.1)), (mb, .inl (cI, 624, .inl u.2.1)), (ml, .inl (cI, 8, .inl u.2.2))]) (fun u => (PGR u.1 (yearL st li L) li (ye + nI 1) br) ∧ (BKR u.2.1 (remL As (L, li, ye, br)))) := by
  refine CO_mki (by decide +kernel) (Nat.le_of_ble_eq_true rfl) (fun K ok ret => ?_)
  show XX K [(y, .inr (5, [.int zt, .ref mt, .int (nI ts), .int (nI pl), .int (nI W), .int (nI ll), .ref md, .ref ms, .int (nI rW), .ref mrd, .ref mrs, .ref mrp, .ref mp, .ref mb, .int (nI As.length), .ref mk, .ref mi, .long sd, .ref m1, .ref m2, .ref m3, .ref ml, .ref mf, .ref mw, .ref mn])), (ms, .inl (cI, 4, .inl sf)), (mp, .inl (cI, 52, .inl g)), (mb, .inl (cI, 624, .inl bf)), (ml, .inl (cI, 8, .inl lf))] [(0, .ref y)] 0 []
  have h8 := hv.1
  have hyl : (yearL st li L).length ≤ L.length := low_len (lo := lossN st li L) (ag := 1) (L := L) L.length
  refine x_aload_n ok 0 dX5_year_0 rfl rfl ?_
  refine x_iconst ok (nI 0) dX5_year_1 (by decide) ?_
  refine pX5_62 ok dX5_year_2 0 rfl rfl rfl (Nat.le_of_ble_eq_true rfl) (ws' := [(y, .inr (5, [.int (nI 0), .ref mt, .int (nI ts), .int (nI pl), .int (nI W), .int (nI ll), .ref md, .ref ms, .int (nI rW), .ref mrd, .ref mrs, .ref mrp, .ref mp, .ref mb, .int (nI As.length), .ref mk, .ref mi, .long sd, .ref m1, .ref m2, .ref m3, .ref ml, .ref mf, .ref mw, .ref mn])), (ms, .inl (cI, 4, .inl sf)), (mp, .inl (cI, 52, .inl g)), (mb, .inl (cI, 624, .inl bf)), (ml, .inl (cI, 8, .inl lf))]) rfl ?_
  refine x_aload_n ok 0 dX5_year_5 rfl rfl ?_
  refine qX5_140 ok (As := []) (st := []) 0 rfl (d_note l D cI cZ cS y (nI 0) mt ts pl W ll md ms rW mrd mrs mrp mp mb na mk mi sd m1 m2 m3 ml mf mw mn g L li ye br As bf (by first | assumption | omega) (by first | assumption | omega) (by first | assumption | omega) (by first | assumption | omega)) rfl (Nat.le_of_ble_eq_true rfl) (Nat.le_of_ble_eq_true rfl) (Nat.le_of_ble_eq_true rfl) dX5_year_6 [0, 2, 3] (by decide) rfl (ws' := fun u => [(y, .inr (5, [.int (nI 0), .ref mt, .int (nI ts), .int (nI pl), .int (nI W), .int (nI ll), .ref md, .ref ms, .int (nI rW), .ref mrd, .ref mrs, .ref mrp, .ref mp, .ref mb, .int (nI ((remL As (L, li, ye, br)).length)), .ref mk, .ref mi, .long sd, .ref m1, .ref m2, .ref m3, .ref ml, .ref mf, .ref mw, .ref mn])), (ms, .inl (cI, 4, .inl sf)), (mp, .inl (cI, 52, .inl g)), (mb, .inl (cI, 624, .inl u)), (ml, .inl (cI, 8, .inl lf))]) (st' := fun u => []) (fun _ => rfl) (fun _ => rfl) (fun _ => rfl) (fun u6 hu6 => ?_)
  obtain ⟨b26, rfl⟩ : ∃ z, z = u6 := ⟨_, rfl⟩
  have hb26 := hu6
  have hb26 : BKR b26 (remL As (L, li, ye, br)) := hb26
  show XX K [(y, .inr (5, [.int (nI 0), .ref mt, .int (nI ts), .int (nI pl), .int (nI W), .int (nI ll), .ref md, .ref ms, .int (nI rW), .ref mrd, .ref mrs, .ref mrp, .ref mp, .ref mb, .int (nI ((remL As (L, li, ye, br)).length)), .ref mk, .ref mi, .long sd, .ref m1, .ref m2, .ref m3, .ref ml, .ref mf, .ref mw, .ref mn])), (ms, .inl (cI, 4, .inl sf)), (mp, .inl (cI, 52, .inl g)), (mb, .inl (cI, 624, .inl b26)), (ml, .inl (cI, 8, .inl lf))] [(0, .ref y)] 9 []
  refine x_aload_n ok 0 dX5_year_9 rfl rfl ?_
  refine gX5_28 ok dX5_year_10 0 rfl rfl ?_
  refine x_bipush ok (nI 48) dX5_year_13 (by decide) ?_
  refine x_iald ok 2 0 48 dX5_year_15 rfl rfl (rfl) (by omega) (by decide) (nI L.length) (hg.2.1) ?_
  refine x_istore_n ok (lv' := [(1, .int (nI L.length)), (0, .ref y)]) dX5_year_16 rfl (by decide) rfl ?_
  refine x_aload_n ok 1 dX5_year_17 rfl rfl ?_
  refine x_aload_n ok 1 dX5_year_18 rfl rfl ?_
  refine gX5_28 ok dX5_year_19 0 rfl rfl ?_
  refine x_bipush ok ((-9)) dX5_year_22 (by decide) ?_
  refine qX5_136 ok (As := [.ref mp, .int (-9)]) (st := []) 0 rfl (d_goYear l D cI cZ cS y (nI 0) mt ts pl W ll md ms rW mrd mrs mrp mp mb ((remL As (L, li, ye, br)).length) mk mi sd m1 m2 m3 ml mf mw mn sf st mp g L li ye br lf A (-9) (by first | assumption | omega) (by first | assumption | omega) (by first | assumption | omega) (by first | assumption | omega) (by first | assumption | omega) (by first | assumption | omega) (by first | assumption | omega)) rfl (Nat.le_of_ble_eq_true rfl) (Nat.le_of_ble_eq_true rfl) (Nat.le_of_ble_eq_true rfl) dX5_year_24 [0, 1, 2, 4] (by decide) rfl (ws' := fun u => [(y, .inr (5, [.int (nI 0), .ref mt, .int (nI ts), .int (nI pl), .int (nI W), .int (nI ll), .ref md, .ref ms, .int (nI rW), .ref mrd, .ref mrs, .ref mrp, .ref mp, .ref mb, .int (nI ((remL As (L, li, ye, br)).length)), .ref mk, .ref mi, .long sd, .ref m1, .ref m2, .ref m3, .ref ml, .ref mf, .ref mw, .ref mn])), (ms, .inl (cI, 4, .inl sf)), (mp, .inl (cI, 52, .inl u.1)), (mb, .inl (cI, 624, .inl b26)), (ml, .inl (cI, 8, .inl u.2))]) (st' := fun u => [.int (wrN (lossN st li L) L (-9) L.length)]) (fun _ => rfl) (fun _ => rfl) (fun _ => rfl) (fun u24 hu24 => ?_)
  obtain ⟨g224, lf224⟩ := u24
  have hg224 := hu24
  have hg224 : PGR g224 (yearL st li L) li (ye + nI 1) br := hg224
  show XX K [(y, .inr (5, [.int (nI 0), .ref mt, .int (nI ts), .int (nI pl), .int (nI W), .int (nI ll), .ref md, .ref ms, .int (nI rW), .ref mrd, .ref mrs, .ref mrp, .ref mp, .ref mb, .int (nI ((remL As (L, li, ye, br)).length)), .ref mk, .ref mi, .long sd, .ref m1, .ref m2, .ref m3, .ref ml, .ref mf, .ref mw, .ref mn])), (ms, .inl (cI, 4, .inl sf)), (mp, .inl (cI, 52, .inl g224)), (mb, .inl (cI, 624, .inl b26)), (ml, .inl (cI, 8, .inl lf224))] [(1, .int (nI L.length)), (0, .ref y)] 27 [.int (wrN (lossN st li L) L (-9) L.length)]
  refine x_pop ok dX5_year_27 rfl ?_
  refine x_iload_n ok 0 dX5_year_28 rfl rfl ?_
  refine x_aload_n ok 1 dX5_year_29 rfl rfl ?_
  refine gX5_28 ok dX5_year_30 0 rfl rfl ?_
  refine x_bipush ok (nI 48) dX5_year_33 (by decide) ?_
  refine x_iald ok 2 0 48 dX5_year_35 rfl rfl (rfl) (by omega) (by decide) (nI ((yearL st li L).length)) (hg224.2.1) ?_
  refine x_isub ok (nI (L.length - ((yearL st li L).length))) dX5_year_36 (pk_sub (by omega)) ?_
  exact ret (g224, b26, lf224) _ _ _ (nI (L.length - ((yearL st li L).length))) dX5_year_37 (rfl) (rfl) (⟨hg224, hb26⟩)

set_option maxHeartbeats 4000000 in
set_option maxRecDepth 100000 in
theorem e_lid0 (l : Launch) (D : va_G) (cI cZ cS : ClassId) (y : Nat) (zt : Int32) (mt : Nat) (ts : Nat) (pl : Nat) (W : Nat) (ll : Nat) (md : Nat) (ms : Nat) (rW : Nat) (mrd : Nat) (mrs : Nat) (mrp : Nat) (mp : Nat) (mb : Nat) (na : Nat) (mk : Nat) (mi : Nat) (sd : Int64) (m1 : Nat) (m2 : Nat) (m3 : Nat) (ml : Nat) (mf : Nat) (mw : Nat) (mn : Nat) (z : Int32) (hW4 : W ≤ 4) (hz : ¬ hasB z W = true) : CO l D (TY cI cZ cS) yX5_lid cX5_lid 2 (some .int) 2 46 0 0 [.ref y, .int z] [(y, .inr (5, [.int zt, .ref mt, .int (nI ts), .int (nI pl), .int (nI W), .int (nI ll), .ref md, .ref ms, .int (nI rW), .ref mrd, .ref mrs, .ref mrp, .ref mp, .ref mb, .int (nI na), .ref mk, .ref mi, .long sd, .ref m1, .ref m2, .ref m3, .ref ml, .ref mf, .ref mw, .ref mn]))] (σ := Unit) (fun u => some (.int ((-1)))) (fun u => [(y, .inr (5, [.int (nI 0), .ref mt, .int (nI ts), .int (nI pl), .int (nI W), .int (nI ll), .ref md, .ref ms, .int (nI rW), .ref mrd, .ref mrs, .ref mrp, .ref mp, .ref mb, .int (nI na), .ref mk, .ref mi, .long sd, .ref m1, .ref m2, .ref m3, .ref ml, .ref mf, .ref mw, .ref mn]))]) (fun u => True) := by
  refine CO_mki (by decide +kernel) (Nat.le_of_ble_eq_true rfl) (fun K ok ret => ?_)
  show XX K [(y, .inr (5, [.int zt, .ref mt, .int (nI ts), .int (nI pl), .int (nI W), .int (nI ll), .ref md, .ref ms, .int (nI rW), .ref mrd, .ref mrs, .ref mrp, .ref mp, .ref mb, .int (nI na), .ref mk, .ref mi, .long sd, .ref m1, .ref m2, .ref m3, .ref ml, .ref mf, .ref mw, .ref mn]))] [(0, .ref y), (1, .int z)] 0 []
  refine x_aload_n ok 0 dX5_lid_0 rfl rfl ?_
  refine x_iconst ok (nI 0) dX5_lid_1 (by decide) ?_
  refine pX5_62 ok dX5_lid_2 0 rfl rfl rfl (Nat.le_of_ble_eq_true rfl) (ws' := [(y, .inr (5, [.int (nI 0), .ref mt, .int (nI ts), .int (nI pl), .int (nI W), .int (nI ll), .ref md, .ref ms, .int (nI rW), .ref mrd, .ref mrs, .ref mrp, .ref mp, .ref mb, .int (nI na), .ref mk, .ref mi, .long sd, .ref m1, .ref m2, .ref m3, .ref ml, .ref mf, .ref mw, .ref mn]))]) rfl ?_
  refine x_aload_n ok 0 dX5_lid_5 rfl rfl ?_
  refine x_iload_n ok 1 dX5_lid_6 rfl rfl ?_
  refine qX5_116 ok (As := [.int z]) (st := []) 0 rfl (d_noWell l D cI cZ cS y (nI 0) mt ts pl W ll md ms rW mrd mrs mrp mp mb na mk mi sd m1 m2 m3 ml mf mw mn z (by first | assumption | omega)) rfl (Nat.le_of_ble_eq_true rfl) (Nat.le_of_ble_eq_true rfl) (Nat.le_of_ble_eq_true rfl) dX5_lid_7 [0] (by decide) rfl (ws' := fun u => [(y, .inr (5, [.int (nI 0), .ref mt, .int (nI ts), .int (nI pl), .int (nI W), .int (nI ll), .ref md, .ref ms, .int (nI rW), .ref mrd, .ref mrs, .ref mrp, .ref mp, .ref mb, .int (nI na), .ref mk, .ref mi, .long sd, .ref m1, .ref m2, .ref m3, .ref ml, .ref mf, .ref mw, .ref mn]))]) (st' := fun u => [.int (bz (!hasB z W))]) (fun _ => rfl) (fun _ => rfl) (fun _ => rfl) (fun _ _ => ?_)
  refine x_if_eqB ok 15 dX5_lid_10 (by decide) (fun c_10 => absurd c_10 (by simpa using hz)) (fun c_10 => ?_)
  refine x_iconst ok ((-1)) dX5_lid_13 (by decide) ?_
  exact ret () _ _ _ ((-1)) dX5_lid_14 (rfl) (rfl) (trivial)

set_option maxHeartbeats 4000000 in
set_option maxRecDepth 100000 in
theorem e_lid1 (l : Launch) (D : va_G) (cI cZ cS : ClassId) (y : Nat) (zt : Int32) (mt : Nat) (ts : Nat) (pl : Nat) (W : Nat) (ll : Nat) (md : Nat) (ms : Nat) (rW : Nat) (mrd : Nat) (mrs : Nat) (mrp : Nat) (mp : Nat) (mb : Nat) (na : Nat) (mk : Nat) (mi : Nat) (sd : Int64) (m1 : Nat) (m2 : Nat) (m3 : Nat) (ml : Nat) (mf : Nat) (mw : Nat) (mn : Nat) (g : Nat → Int32) (L : List Sg) (li : Nat) (ye : Int32) (br : Int32) (As : List SS) (bf : Nat → Int32) (j : Nat) (hg : PGR g L li ye br) (hb : BKR bf As) (ha : As.length ≤ 12) (h8 : L.length ≤ 8) (hW4 : W ≤ 4) (hl16 : li < 16) (hj : j < W) : CO l D (TY cI cZ cS) yX5_lid cX5_lid 2 (some .int) 2 46 0 0 [.ref y, .int (nI j)] [(y, .inr (5, [.int zt, .ref mt, .int (nI ts), .int (nI pl), .int (nI W), .int (nI ll), .ref md, .ref ms, .int (nI rW), .ref mrd, .ref mrs, .ref mrp, .ref mp, .ref mb, .int (nI As.length), .ref mk, .ref mi, .long sd, .ref m1, .ref m2, .ref m3, .ref ml, .ref mf, .ref mw, .ref mn])), (mp, .inl (cI, 52, .inl g)), (mb, .inl (cI, 624, .inl bf))] (σ := (Nat → Int32) × (Nat → Int32)) (fun u => some (.int (nI (((li ^^^ 2 ^ j).testBit j).toNat)))) (fun u => [(y, .inr (5, [.int (nI 0), .ref mt, .int (nI ts), .int (nI pl), .int (nI W), .int (nI ll), .ref md, .ref ms, .int (nI rW), .ref mrd, .ref mrs, .ref mrp, .ref mp, .ref mb, .int (nI ((remL As (L, li, ye, br)).length)), .ref mk, .ref mi, .long sd, .ref m1, .ref m2, .ref m3, .ref ml, .ref mf, .ref mw, .ref mn])), (mp, .inl (cI, 52, .inl u.1)), (mb, .inl (cI, 624, .inl u.2))]) (fun u => (PGR u.1 L (li ^^^ 2 ^ j) ye br) ∧ (BKR u.2 (remL As (L, li, ye, br)))) := by
  refine CO_mki (by decide +kernel) (Nat.le_of_ble_eq_true rfl) (fun K ok ret => ?_)
  show XX K [(y, .inr (5, [.int zt, .ref mt, .int (nI ts), .int (nI pl), .int (nI W), .int (nI ll), .ref md, .ref ms, .int (nI rW), .ref mrd, .ref mrs, .ref mrp, .ref mp, .ref mb, .int (nI As.length), .ref mk, .ref mi, .long sd, .ref m1, .ref m2, .ref m3, .ref ml, .ref mf, .ref mw, .ref mn])), (mp, .inl (cI, 52, .inl g)), (mb, .inl (cI, 624, .inl bf))] [(0, .ref y), (1, .int (nI j))] 0 []
  have hx16 : li ^^^ 2 ^ j < 16 := Nat.xor_lt_two_pow (n := 4) hl16 (Nat.lt_of_lt_of_le (Nat.pow_lt_pow_right (by omega) (show j < 4 by omega)) (by omega))
  have hh := hasB_n (n := W) hj (by omega)
  have hgl : PGR (upd g 49 (nI (li ^^^ 2 ^ j))) L (li ^^^ 2 ^ j) ye br := ⟨hs_upd hg.1 (by omega), by rw [upd_n (by omega)]; exact hg.2.1, upd_s, by rw [upd_n (by omega)]; exact hg.2.2.2.1, by rw [upd_n (by omega)]; exact hg.2.2.2.2⟩
  refine x_aload_n ok 0 dX5_lid_0 rfl rfl ?_
  refine x_iconst ok (nI 0) dX5_lid_1 (by decide) ?_
  refine pX5_62 ok dX5_lid_2 0 rfl rfl rfl (Nat.le_of_ble_eq_true rfl) (ws' := [(y, .inr (5, [.int (nI 0), .ref mt, .int (nI ts), .int (nI pl), .int (nI W), .int (nI ll), .ref md, .ref ms, .int (nI rW), .ref mrd, .ref mrs, .ref mrp, .ref mp, .ref mb, .int (nI As.length), .ref mk, .ref mi, .long sd, .ref m1, .ref m2, .ref m3, .ref ml, .ref mf, .ref mw, .ref mn])), (mp, .inl (cI, 52, .inl g)), (mb, .inl (cI, 624, .inl bf))]) rfl ?_
  refine x_aload_n ok 0 dX5_lid_5 rfl rfl ?_
  refine x_iload_n ok 1 dX5_lid_6 rfl rfl ?_
  refine qX5_116 ok (As := [.int (nI j)]) (st := []) 0 rfl (d_noWell l D cI cZ cS y (nI 0) mt ts pl W ll md ms rW mrd mrs mrp mp mb As.length mk mi sd m1 m2 m3 ml mf mw mn (nI j) (by first | assumption | omega)) rfl (Nat.le_of_ble_eq_true rfl) (Nat.le_of_ble_eq_true rfl) (Nat.le_of_ble_eq_true rfl) dX5_lid_7 [0] (by decide) rfl (ws' := fun u => [(y, .inr (5, [.int (nI 0), .ref mt, .int (nI ts), .int (nI pl), .int (nI W), .int (nI ll), .ref md, .ref ms, .int (nI rW), .ref mrd, .ref mrs, .ref mrp, .ref mp, .ref mb, .int (nI As.length), .ref mk, .ref mi, .long sd, .ref m1, .ref m2, .ref m3, .ref ml, .ref mf, .ref mw, .ref mn])), (mp, .inl (cI, 52, .inl g)), (mb, .inl (cI, 624, .inl bf))]) (st' := fun u => [.int (bz (!hasB (nI j) W))]) (fun _ => rfl) (fun _ => rfl) (fun _ => rfl) (fun _ _ => ?_)
  refine x_if_eqB ok 15 dX5_lid_10 (by decide) (fun c_10 => ?_) (fun c_10 => absurd c_10 (by simpa using hh))
  refine x_aload_n ok 0 dX5_lid_15 rfl rfl ?_
  refine qX5_140 ok (As := []) (st := []) 0 rfl (d_note l D cI cZ cS y (nI 0) mt ts pl W ll md ms rW mrd mrs mrp mp mb na mk mi sd m1 m2 m3 ml mf mw mn g L li ye br As bf (by first | assumption | omega) (by first | assumption | omega) (by first | assumption | omega) (by first | assumption | omega)) rfl (Nat.le_of_ble_eq_true rfl) (Nat.le_of_ble_eq_true rfl) (Nat.le_of_ble_eq_true rfl) dX5_lid_16 [0, 1, 2] (by decide) rfl (ws' := fun u => [(y, .inr (5, [.int (nI 0), .ref mt, .int (nI ts), .int (nI pl), .int (nI W), .int (nI ll), .ref md, .ref ms, .int (nI rW), .ref mrd, .ref mrs, .ref mrp, .ref mp, .ref mb, .int (nI ((remL As (L, li, ye, br)).length)), .ref mk, .ref mi, .long sd, .ref m1, .ref m2, .ref m3, .ref ml, .ref mf, .ref mw, .ref mn])), (mp, .inl (cI, 52, .inl g)), (mb, .inl (cI, 624, .inl u))]) (st' := fun u => []) (fun _ => rfl) (fun _ => rfl) (fun _ => rfl) (fun u16 hu16 => ?_)
  obtain ⟨b216, rfl⟩ : ∃ z, z = u16 := ⟨_, rfl⟩
  have hb216 := hu16
  have hb216 : BKR b216 (remL As (L, li, ye, br)) := hb216
  show XX K [(y, .inr (5, [.int (nI 0), .ref mt, .int (nI ts), .int (nI pl), .int (nI W), .int (nI ll), .ref md, .ref ms, .int (nI rW), .ref mrd, .ref mrs, .ref mrp, .ref mp, .ref mb, .int (nI ((remL As (L, li, ye, br)).length)), .ref mk, .ref mi, .long sd, .ref m1, .ref m2, .ref m3, .ref ml, .ref mf, .ref mw, .ref mn])), (mp, .inl (cI, 52, .inl g)), (mb, .inl (cI, 624, .inl b216))] [(0, .ref y), (1, .int (nI j))] 19 []
  refine x_aload_n ok 0 dX5_lid_19 rfl rfl ?_
  refine gX5_28 ok dX5_lid_20 0 rfl rfl ?_
  refine x_bipush ok (nI 49) dX5_lid_23 (by decide) ?_
  refine x_dup2 ok dX5_lid_25 rfl rfl ?_
  refine x_iald ok 1 0 49 dX5_lid_26 rfl rfl (rfl) (by omega) (by decide) (nI li) (hg.2.2.1) ?_
  refine x_iconst ok (nI 1) dX5_lid_27 (by decide) ?_
  refine x_iload_n ok 1 dX5_lid_28 rfl rfl ?_
  refine x_ishl ok (nI (2 ^ j)) dX5_lid_29 (shl1 j (by omega)) ?_
  refine x_ixor ok (nI (li ^^^ 2 ^ j)) dX5_lid_30 (fa_xor _ _) ?_
  refine x_iast ok 1 0 49 (ws' := [(y, .inr (5, [.int (nI 0), .ref mt, .int (nI ts), .int (nI pl), .int (nI W), .int (nI ll), .ref md, .ref ms, .int (nI rW), .ref mrd, .ref mrs, .ref mrp, .ref mp, .ref mb, .int (nI ((remL As (L, li, ye, br)).length)), .ref mk, .ref mi, .long sd, .ref m1, .ref m2, .ref m3, .ref ml, .ref mf, .ref mw, .ref mn])), (mp, .inl (cI, 52, .inl (upd g 49 (nI (li ^^^ 2 ^ j))))), (mb, .inl (cI, 624, .inl b216))]) dX5_lid_31 rfl rfl (rfl) (by omega) (by decide) (rfl) rfl ?_
  refine x_aload_n ok 0 dX5_lid_32 rfl rfl ?_
  refine gX5_28 ok dX5_lid_33 0 rfl rfl ?_
  refine x_bipush ok (nI 49) dX5_lid_36 (by decide) ?_
  refine x_iald ok 1 0 49 dX5_lid_38 rfl rfl (rfl) (by omega) (by decide) (nI (li ^^^ 2 ^ j)) (upd_s) ?_
  refine x_iload_n ok 1 dX5_lid_39 rfl rfl ?_
  refine x_ishr ok (((nI (li ^^^ 2 ^ j)) >>> ((nI j) &&& 31))) dX5_lid_40 (rfl) ?_
  refine x_iconst ok (nI 1) dX5_lid_41 (by decide) ?_
  refine x_iand ok (nI (((li ^^^ 2 ^ j).testBit j).toNat)) dX5_lid_42 (tb0 _ (by omega) j (by omega)) ?_
  exact ret ((upd g 49 (nI (li ^^^ 2 ^ j))), b216) _ _ _ (nI (((li ^^^ 2 ^ j).testBit j).toNat)) dX5_lid_43 (rfl) (rfl) (⟨hgl, hb216⟩)

set_option maxHeartbeats 4000000 in
set_option maxRecDepth 100000 in
theorem e_undo0 (l : Launch) (D : va_G) (cI cZ cS : ClassId) (y : Nat) (zt : Int32) (mt : Nat) (ts : Nat) (pl : Nat) (W : Nat) (ll : Nat) (md : Nat) (ms : Nat) (rW : Nat) (mrd : Nat) (mrs : Nat) (mrp : Nat) (mp : Nat) (mb : Nat) (na : Nat) (mk : Nat) (mi : Nat) (sd : Int64) (m1 : Nat) (m2 : Nat) (m3 : Nat) (ml : Nat) (mf : Nat) (mw : Nat) (mn : Nat) (h0 : na = 0) : CO l D (TY cI cZ cS) yX5_undo cX5_undo 2 (some .int) 0 0 0 0 [.ref y] [(y, .inr (5, [.int zt, .ref mt, .int (nI ts), .int (nI pl), .int (nI W), .int (nI ll), .ref md, .ref ms, .int (nI rW), .ref mrd, .ref mrs, .ref mrp, .ref mp, .ref mb, .int (nI na), .ref mk, .ref mi, .long sd, .ref m1, .ref m2, .ref m3, .ref ml, .ref mf, .ref mw, .ref mn]))] (σ := Unit) (fun u => some (.int ((-3)))) (fun u => [(y, .inr (5, [.int (nI 0), .ref mt, .int (nI ts), .int (nI pl), .int (nI W), .int (nI ll), .ref md, .ref ms, .int (nI rW), .ref mrd, .ref mrs, .ref mrp, .ref mp, .ref mb, .int (nI na), .ref mk, .ref mi, .long sd, .ref m1, .ref m2, .ref m3, .ref ml, .ref mf, .ref mw, .ref mn]))]) (fun u => True) := by
  refine CO_mki (by decide +kernel) (Nat.le_of_ble_eq_true rfl) (fun K ok ret => ?_)
  show XX K [(y, .inr (5, [.int zt, .ref mt, .int (nI ts), .int (nI pl), .int (nI W), .int (nI ll), .ref md, .ref ms, .int (nI rW), .ref mrd, .ref mrs, .ref mrp, .ref mp, .ref mb, .int (nI na), .ref mk, .ref mi, .long sd, .ref m1, .ref m2, .ref m3, .ref ml, .ref mf, .ref mw, .ref mn]))] [(0, .ref y)] 0 []
  refine x_aload_n ok 0 dX5_undo_0 rfl rfl ?_
  refine x_iconst ok (nI 0) dX5_undo_1 (by decide) ?_
  refine pX5_62 ok dX5_undo_2 0 rfl rfl rfl (Nat.le_of_ble_eq_true rfl) (ws' := [(y, .inr (5, [.int (nI 0), .ref mt, .int (nI ts), .int (nI pl), .int (nI W), .int (nI ll), .ref md, .ref ms, .int (nI rW), .ref mrd, .ref mrs, .ref mrp, .ref mp, .ref mb, .int (nI na), .ref mk, .ref mi, .long sd, .ref m1, .ref m2, .ref m3, .ref ml, .ref mf, .ref mw, .ref mn]))]) rfl ?_
  refine x_aload_n ok 0 dX5_undo_5 rfl rfl ?_
  refine gX5_113 ok dX5_undo_6 0 rfl rfl ?_
  refine x_if_neN ok 15 dX5_undo_9 (by decide) (by omega) (fun c_9 => absurd c_9 (fun q => q h0)) (fun c_9 => ?_)
  refine x_bipush ok ((-3)) dX5_undo_12 (by decide) ?_
  exact ret () _ _ _ ((-3)) dX5_undo_14 (rfl) (rfl) (trivial)

set_option maxHeartbeats 4000000 in
set_option maxRecDepth 100000 in
theorem e_undo1 (l : Launch) (D : va_G) (cI cZ cS : ClassId) (y : Nat) (zt : Int32) (mt : Nat) (ts : Nat) (pl : Nat) (W : Nat) (ll : Nat) (md : Nat) (ms : Nat) (rW : Nat) (mrd : Nat) (mrs : Nat) (mrp : Nat) (mp : Nat) (mb : Nat) (na : Nat) (mk : Nat) (mi : Nat) (sd : Int64) (m1 : Nat) (m2 : Nat) (m3 : Nat) (ml : Nat) (mf : Nat) (mw : Nat) (mn : Nat) (g : Nat → Int32) (L : List Sg) (li : Nat) (ye : Int32) (br : Int32) (As : List SS) (bf : Nat → Int32) (hb : BKR bf As) (ha : As.length ≤ 12) (h0 : 0 < As.length) : CO l D (TY cI cZ cS) yX5_undo cX5_undo 2 (some .int) 0 0 0 0 [.ref y] [(y, .inr (5, [.int zt, .ref mt, .int (nI ts), .int (nI pl), .int (nI W), .int (nI ll), .ref md, .ref ms, .int (nI rW), .ref mrd, .ref mrs, .ref mrp, .ref mp, .ref mb, .int (nI As.length), .ref mk, .ref mi, .long sd, .ref m1, .ref m2, .ref m3, .ref ml, .ref mf, .ref mw, .ref mn])), (mp, .inl (cI, 52, .inl g)), (mb, .inl (cI, 624, .inl bf))] (σ := (Nat → Int32)) (fun u => some (.int (nI (As.length - 1)))) (fun u => [(y, .inr (5, [.int (nI 0), .ref mt, .int (nI ts), .int (nI pl), .int (nI W), .int (nI ll), .ref md, .ref ms, .int (nI rW), .ref mrd, .ref mrs, .ref mrp, .ref mp, .ref mb, .int (nI (As.length - 1)), .ref mk, .ref mi, .long sd, .ref m1, .ref m2, .ref m3, .ref ml, .ref mf, .ref mw, .ref mn])), (mp, .inl (cI, 52, .inl u)), (mb, .inl (cI, 624, .inl bf))]) (fun u => (PGR u (gSS As (As.length - 1)).1 (gSS As (As.length - 1)).2.1 (gSS As (As.length - 1)).2.2.1 (gSS As (As.length - 1)).2.2.2)) := by
  refine CO_mki (by decide +kernel) (Nat.le_of_ble_eq_true rfl) (fun K ok ret => ?_)
  show XX K [(y, .inr (5, [.int zt, .ref mt, .int (nI ts), .int (nI pl), .int (nI W), .int (nI ll), .ref md, .ref ms, .int (nI rW), .ref mrd, .ref mrs, .ref mrp, .ref mp, .ref mb, .int (nI As.length), .ref mk, .ref mi, .long sd, .ref m1, .ref m2, .ref m3, .ref ml, .ref mf, .ref mw, .ref mn])), (mp, .inl (cI, 52, .inl g)), (mb, .inl (cI, 624, .inl bf))] [(0, .ref y)] 0 []
  refine x_aload_n ok 0 dX5_undo_0 rfl rfl ?_
  refine x_iconst ok (nI 0) dX5_undo_1 (by decide) ?_
  refine pX5_62 ok dX5_undo_2 0 rfl rfl rfl (Nat.le_of_ble_eq_true rfl) (ws' := [(y, .inr (5, [.int (nI 0), .ref mt, .int (nI ts), .int (nI pl), .int (nI W), .int (nI ll), .ref md, .ref ms, .int (nI rW), .ref mrd, .ref mrs, .ref mrp, .ref mp, .ref mb, .int (nI As.length), .ref mk, .ref mi, .long sd, .ref m1, .ref m2, .ref m3, .ref ml, .ref mf, .ref mw, .ref mn])), (mp, .inl (cI, 52, .inl g)), (mb, .inl (cI, 624, .inl bf))]) rfl ?_
  refine x_aload_n ok 0 dX5_undo_5 rfl rfl ?_
  refine gX5_113 ok dX5_undo_6 0 rfl rfl ?_
  refine x_if_neN ok 15 dX5_undo_9 (by decide) (by omega) (fun c_9 => ?_) (fun c_9 => absurd c_9 (by omega))
  refine x_aload_n ok 0 dX5_undo_15 rfl rfl ?_
  refine x_dup ok dX5_undo_16 rfl ?_
  refine gX5_113 ok dX5_undo_17 0 rfl rfl ?_
  refine x_iconst ok (nI 1) dX5_undo_20 (by decide) ?_
  refine x_isub ok (nI (As.length - 1)) dX5_undo_21 (pk_sub (by omega)) ?_
  refine pX5_113 ok dX5_undo_22 0 rfl rfl rfl (Nat.le_of_ble_eq_true rfl) (ws' := [(y, .inr (5, [.int (nI 0), .ref mt, .int (nI ts), .int (nI pl), .int (nI W), .int (nI ll), .ref md, .ref ms, .int (nI rW), .ref mrd, .ref mrs, .ref mrp, .ref mp, .ref mb, .int (nI (As.length - 1)), .ref mk, .ref mi, .long sd, .ref m1, .ref m2, .ref m3, .ref ml, .ref mf, .ref mw, .ref mn])), (mp, .inl (cI, 52, .inl g)), (mb, .inl (cI, 624, .inl bf))]) rfl ?_
  refine x_iconst ok (nI 0) dX5_undo_25 (by decide) ?_
  refine x_istore_n ok (lv' := [(1, .int (nI 0)), (0, .ref y)]) dX5_undo_26 rfl (by decide) rfl ?_
  have L_27 : ∀ (n_27 : Nat) (k : Nat) (g9 : Nat → Int32), 52 - k < n_27 → (k ≤ 52) → (∀ j, j < k → g9 j = bf (52 * (As.length - 1) + j)) → XX K [(y, .inr (5, [.int (nI 0), .ref mt, .int (nI ts), .int (nI pl), .int (nI W), .int (nI ll), .ref md, .ref ms, .int (nI rW), .ref mrd, .ref mrs, .ref mrp, .ref mp, .ref mb, .int (nI (As.length - 1)), .ref mk, .ref mi, .long sd, .ref m1, .ref m2, .ref m3, .ref ml, .ref mf, .ref mw, .ref mn])), (mp, .inl (cI, 52, .inl g9)), (mb, .inl (cI, 624, .inl bf))] [(1, .int (nI k)), (0, .ref y)] 27 [] := by
    intro n_27
    induction n_27 with
    | zero => intro k g9 hm; exact absurd hm (Nat.not_lt_zero _)
    | succ n_27 ih_27 =>
      intro k g9 hm_27 hk h9
      refine x_iload_n ok 0 dX5_undo_27 rfl rfl ?_
      refine x_bipush ok (nI 52) dX5_undo_28 (by decide) ?_
      refine x_icmp_geN ok 59 dX5_undo_30 (by decide) (by omega) (by omega) (fun c_30 => ?_) (fun c_30 => ?_)
      · skip
        refine x_aload_n ok 1 dX5_undo_59 rfl rfl ?_
        refine gX5_113 ok dX5_undo_60 0 rfl rfl ?_
        exact ret g9 _ _ _ (nI (As.length - 1)) dX5_undo_63 (rfl) (by first | rfl | (simp [c_30]; done)) (pgr_same (hb (As.length - 1) (by omega)).2 (hb (As.length - 1) (by omega)).1 (fun j hj => h9 j (by omega)))
      · skip
        refine x_aload_n ok 1 dX5_undo_33 rfl rfl ?_
        refine gX5_28 ok dX5_undo_34 0 rfl rfl ?_
        refine x_iload_n ok 0 dX5_undo_37 rfl rfl ?_
        refine x_aload_n ok 1 dX5_undo_38 rfl rfl ?_
        refine gX5_31 ok dX5_undo_39 0 rfl rfl ?_
        refine x_bipush ok (nI 52) dX5_undo_42 (by decide) ?_
        refine x_aload_n ok 1 dX5_undo_44 rfl rfl ?_
        refine gX5_113 ok dX5_undo_45 0 rfl rfl ?_
        refine x_imul ok (nI (52 * (As.length - 1))) dX5_undo_48 (nN (pk_mul _ _) (by omega)) ?_
        refine x_iload_n ok 0 dX5_undo_49 rfl rfl ?_
        refine x_iadd ok (nI (52 * (As.length - 1) + k)) dX5_undo_50 (nN (nI_add _ _) (by omega)) ?_
        refine x_iald ok 2 0 (52 * (As.length - 1) + k) dX5_undo_51 rfl rfl (rfl) (by omega) (by decide) ((bf (52 * (As.length - 1) + k))) (rfl) ?_
        refine x_iast ok 1 0 k (ws' := [(y, .inr (5, [.int (nI 0), .ref mt, .int (nI ts), .int (nI pl), .int (nI W), .int (nI ll), .ref md, .ref ms, .int (nI rW), .ref mrd, .ref mrs, .ref mrp, .ref mp, .ref mb, .int (nI (As.length - 1)), .ref mk, .ref mi, .long sd, .ref m1, .ref m2, .ref m3, .ref ml, .ref mf, .ref mw, .ref mn])), (mp, .inl (cI, 52, .inl (upd g9 k (bf (52 * (As.length - 1) + k))))), (mb, .inl (cI, 624, .inl bf))]) dX5_undo_52 rfl rfl (rfl) (by omega) (by decide) (rfl) rfl ?_
        refine x_iinc ok (v := nI (k + 1)) (lv' := [(1, .int (nI (k + 1))), (0, .ref y)]) dX5_undo_53 0 rfl (nN (nI_inc _ 1) (by omega)) (by decide) rfl ?_
        refine x_goto ok 27 dX5_undo_56 (by decide) ?_
        exact ih_27 (k + 1) (upd g9 k (bf (52 * (As.length - 1) + k))) (by omega) (by first | assumption | omega) (fun j hj => by rcases Nat.lt_or_ge j k with q | q; (rw [upd_n (by omega)]; exact h9 j q); (rw [show j = k by omega, upd_s]))
  exact L_27 _ 0 g (Nat.lt_succ_self _) (by first | assumption | omega) (fun j hj => absurd hj (Nat.not_lt_zero j))
