set_option maxHeartbeats 4000000 in
set_option maxRecDepth 100000 in
theorem d_canSing (l : Launch) (D : va_G) (cI cZ cS : ClassId) (y : Nat) (zt : Int32) (mt : Nat) (ts : Nat) (pl : Nat) (W : Nat) (ll : Nat) (md : Nat) (ms : Nat) (rW : Nat) (mrd : Nat) (mrs : Nat) (mrp : Nat) (mp : Nat) (mb : Nat) (na : Nat) (mk : Nat) (mi : Nat) (sd : Int64) (m1 : Nat) (m2 : Nat) (m3 : Nat) (ml : Nat) (mf : Nat) (mw : Nat) (mn : Nat) (q : Nat) (g : Nat → Int32) (L : List Sg) (li : Nat) (ye : Int32) (br : Int32) (A : Nat) (s : Nat) (d : Nat) (hg : PGR g L li ye br) (hv : okL W A L) (hW4 : W ≤ 4) (hl : li < 256) (hs1 : s < L.length) (hd : d ≤ 1) : CO l D (TY cI cZ cS) yX5_canSing cX5_canSing 6 (some .boolean) 2 46 0 0 [.ref y, .ref q, .int (nI s), .int (nI d)] [(y, .inr (5, [.int zt, .ref mt, .int (nI ts), .int (nI pl), .int (nI W), .int (nI ll), .ref md, .ref ms, .int (nI rW), .ref mrd, .ref mrs, .ref mrp, .ref mp, .ref mb, .int (nI na), .ref mk, .ref mi, .long sd, .ref m1, .ref m2, .ref m3, .ref ml, .ref mf, .ref mw, .ref mn])), (q, .inl (cI, 52, .inl g))] (σ := Unit) (fun u => some (.int (bz (way W li (sg L s 1) d)))) (fun u => [(y, .inr (5, [.int zt, .ref mt, .int (nI ts), .int (nI pl), .int (nI W), .int (nI ll), .ref md, .ref ms, .int (nI rW), .ref mrd, .ref mrs, .ref mrp, .ref mp, .ref mb, .int (nI na), .ref mk, .ref mi, .long sd, .ref m1, .ref m2, .ref m3, .ref ml, .ref mf, .ref mw, .ref mn])), (q, .inl (cI, 52, .inl g))]) (fun u => True) := by
  refine CO_mkz (by decide +kernel) (Nat.le_of_ble_eq_true rfl) (fun K ok ret => ?_)
  show XX K [(y, .inr (5, [.int zt, .ref mt, .int (nI ts), .int (nI pl), .int (nI W), .int (nI ll), .ref md, .ref ms, .int (nI rW), .ref mrd, .ref mrs, .ref mrp, .ref mp, .ref mb, .int (nI na), .ref mk, .ref mi, .long sd, .ref m1, .ref m2, .ref m3, .ref ml, .ref mf, .ref mw, .ref mn])), (q, .inl (cI, 52, .inl g))] [(0, .ref y), (1, .ref q), (2, .int (nI s)), (3, .int (nI d))] 0 []
  have h8 := hv.1
  obtain ⟨v0, v1, v2, v2b, v3, v4, v5⟩ := hv.2 s hs1
  refine x_aload_n ok 1 dX5_canSing_0 rfl rfl ?_
  refine x_bipush ok (nI 6) dX5_canSing_1 (by decide) ?_
  refine x_iload_n ok 2 dX5_canSing_3 rfl rfl ?_
  refine x_imul ok (nI (s * 6)) dX5_canSing_4 (nN (pk_mul _ _) (by omega)) ?_
  refine x_iconst ok (nI 1) dX5_canSing_5 (by decide) ?_
  refine x_iadd ok (nI (s * 6 + 1)) dX5_canSing_6 (nN (nI_add _ _) (by omega)) ?_
  refine x_iald ok 1 0 (s * 6 + 1) dX5_canSing_7 rfl rfl (rfl) (by omega) (by decide) (nI (sg L s 1)) (hg.1 s 1 hs1 (by omega)) ?_
  refine x_istore ok (lv' := [(4, .int (nI (sg L s 1))), (0, .ref y), (1, .ref q), (2, .int (nI s)), (3, .int (nI d))]) dX5_canSing_8 (by decide) rfl ?_
  refine x_iload_n ok 4 dX5_canSing_10 rfl rfl ?_
  refine x_if_neN ok 21 dX5_canSing_11 (by decide) (by omega) (fun c_11 => ?_) (fun c_11 => ?_)
  · skip
    have hx : nxt (sg L s 1) d = nI (sg L s 1 + 1) := by rw [nxt, if_neg (by omega)]
    refine x_iload ok 0 dX5_canSing_21 rfl ?_
    refine x_iconst ok (nI 1) dX5_canSing_23 (by decide) ?_
    refine x_iadd ok (nI (sg L s 1 + 1)) dX5_canSing_24 (nN (nI_add _ _) (by omega)) ?_
    refine x_istore ok (lv' := [(5, .int (nI (sg L s 1 + 1))), (4, .int (nI (sg L s 1))), (0, .ref y), (1, .ref q), (2, .int (nI s)), (3, .int (nI d))]) dX5_canSing_25 (by decide) rfl ?_
    refine x_aload_n ok 2 dX5_canSing_27 rfl rfl ?_
    refine x_iload ok 0 dX5_canSing_28 rfl ?_
    refine qX5_116 ok (As := [.int (nI (sg L s 1 + 1))]) (st := []) 0 rfl (d_noWell l D cI cZ cS y zt mt ts pl W ll md ms rW mrd mrs mrp mp mb na mk mi sd m1 m2 m3 ml mf mw mn (nI (sg L s 1 + 1)) (by first | assumption | omega)) rfl (Nat.le_of_ble_eq_true rfl) (Nat.le_of_ble_eq_true rfl) (Nat.le_of_ble_eq_true rfl) dX5_canSing_30 [0] (by decide) rfl (ws' := fun u => [(y, .inr (5, [.int zt, .ref mt, .int (nI ts), .int (nI pl), .int (nI W), .int (nI ll), .ref md, .ref ms, .int (nI rW), .ref mrd, .ref mrs, .ref mrp, .ref mp, .ref mb, .int (nI na), .ref mk, .ref mi, .long sd, .ref m1, .ref m2, .ref m3, .ref ml, .ref mf, .ref mw, .ref mn])), (q, .inl (cI, 52, .inl g))]) (st' := fun u => [.int (bz (!hasB (nI (sg L s 1 + 1)) W))]) (fun _ => rfl) (fun _ => rfl) (fun _ => rfl) (fun _ _ => ?_)
    refine x_if_neB ok 64 dX5_canSing_33 (by decide) (fun c_33 => ?_) (fun c_33 => ?_)
    · skip
      refine x_iconst ok (nI 0) dX5_canSing_64 (by decide) ?_
      exact ret () _ _ _ (false) dX5_canSing_65 (rfl) (by rw [way, hx]; have c := c_33; simp only [Bool.not_eq_true, Bool.not_eq_eq_eq_not, Bool.not_true] at c; simp [c]) (trivial)
    · skip
      have hh : hasB (nI (sg L s 1 + 1)) W = true := by simpa using c_33
      obtain ⟨j, hj, ej⟩ := hasB_t (by omega) hh
      refine x_aload_n ok 3 dX5_canSing_36 rfl rfl ?_
      refine x_bipush ok (nI 49) dX5_canSing_37 (by decide) ?_
      refine x_iald ok 1 0 49 dX5_canSing_39 rfl rfl (rfl) (by omega) (by decide) (nI li) (hg.2.2.1) ?_
      refine x_iload ok 1 dX5_canSing_40 rfl ?_
      refine qX5_125 ok (As := [.int (nI li), .int (nI (sg L s 1))]) (st := []) (d_has l D cI cZ cS li (sg L s 1) (by first | assumption | omega) (by first | assumption | omega)) rfl (Nat.le_of_ble_eq_true rfl) (Nat.le_of_ble_eq_true rfl) (Nat.le_of_ble_eq_true rfl) dX5_canSing_42 [] (by decide) rfl (ws' := fun u => [(y, .inr (5, [.int zt, .ref mt, .int (nI ts), .int (nI pl), .int (nI W), .int (nI ll), .ref md, .ref ms, .int (nI rW), .ref mrd, .ref mrs, .ref mrp, .ref mp, .ref mb, .int (nI na), .ref mk, .ref mi, .long sd, .ref m1, .ref m2, .ref m3, .ref ml, .ref mf, .ref mw, .ref mn])), (q, .inl (cI, 52, .inl g))]) (st' := fun u => [.int (bz (li.testBit (sg L s 1)))]) (fun _ => rfl) (fun _ => rfl) (fun _ => rfl) (fun _ _ => ?_)
      refine x_if_neB ok 64 dX5_canSing_45 (by decide) (fun c_45 => ?_) (fun c_45 => ?_)
      · skip
        refine x_iconst ok (nI 0) dX5_canSing_64 (by decide) ?_
        exact ret () _ _ _ (false) dX5_canSing_65 (rfl) (by rw [way, hx, hh, ej, nI_clamp (by omega)]; simp [c_45]) (trivial)
      · skip
        refine x_aload_n ok 3 dX5_canSing_48 rfl rfl ?_
        refine x_bipush ok (nI 49) dX5_canSing_49 (by decide) ?_
        refine x_iald ok 1 0 49 dX5_canSing_51 rfl rfl (rfl) (by omega) (by decide) (nI li) (hg.2.2.1) ?_
        refine x_iload ok 0 dX5_canSing_52 rfl ?_
        refine x_eq (st' := [.int (nI j), .int (nI li)]) rfl rfl (by rw [ej]) ?_
        refine qX5_125 ok (As := [.int (nI li), .int (nI j)]) (st := []) (d_has l D cI cZ cS li j (by first | assumption | omega) (by first | assumption | omega)) rfl (Nat.le_of_ble_eq_true rfl) (Nat.le_of_ble_eq_true rfl) (Nat.le_of_ble_eq_true rfl) dX5_canSing_54 [] (by decide) rfl (ws' := fun u => [(y, .inr (5, [.int zt, .ref mt, .int (nI ts), .int (nI pl), .int (nI W), .int (nI ll), .ref md, .ref ms, .int (nI rW), .ref mrd, .ref mrs, .ref mrp, .ref mp, .ref mb, .int (nI na), .ref mk, .ref mi, .long sd, .ref m1, .ref m2, .ref m3, .ref ml, .ref mf, .ref mw, .ref mn])), (q, .inl (cI, 52, .inl g))]) (st' := fun u => [.int (bz (li.testBit j))]) (fun _ => rfl) (fun _ => rfl) (fun _ => rfl) (fun _ _ => ?_)
        refine x_if_neB ok 64 dX5_canSing_57 (by decide) (fun c_57 => ?_) (fun c_57 => ?_)
        · skip
          refine x_iconst ok (nI 0) dX5_canSing_64 (by decide) ?_
          exact ret () _ _ _ (false) dX5_canSing_65 (rfl) (by rw [way, hx, hh, ej, nI_clamp (by omega)]; simp [c_45, c_57]) (trivial)
        · skip
          refine x_iconst ok (nI 1) dX5_canSing_60 (by decide) ?_
          refine x_goto ok 65 dX5_canSing_61 (by decide) ?_
          exact ret () _ _ _ (true) dX5_canSing_65 (rfl) (by rw [way, hx, hh, ej, nI_clamp (by omega)]; simp [c_45, c_57]) (trivial)
  · skip
    have hx : nxt (sg L s 1) d = nI (sg L s 1) - nI 1 := by rw [nxt, if_pos (by omega)]
    refine x_iload ok 0 dX5_canSing_14 rfl ?_
    refine x_iconst ok (nI 1) dX5_canSing_16 (by decide) ?_
    refine x_isub ok (((nI (sg L s 1)) - (nI 1))) dX5_canSing_17 (rfl) ?_
    refine x_goto ok 25 dX5_canSing_18 (by decide) ?_
    refine x_istore ok (lv' := [(5, .int ((nI (sg L s 1)) - (nI 1))), (4, .int (nI (sg L s 1))), (0, .ref y), (1, .ref q), (2, .int (nI s)), (3, .int (nI d))]) dX5_canSing_25 (by decide) rfl ?_
    refine x_aload_n ok 2 dX5_canSing_27 rfl rfl ?_
    refine x_iload ok 0 dX5_canSing_28 rfl ?_
    refine qX5_116 ok (As := [.int ((nI (sg L s 1)) - (nI 1))]) (st := []) 0 rfl (d_noWell l D cI cZ cS y zt mt ts pl W ll md ms rW mrd mrs mrp mp mb na mk mi sd m1 m2 m3 ml mf mw mn ((nI (sg L s 1)) - (nI 1)) (by first | assumption | omega)) rfl (Nat.le_of_ble_eq_true rfl) (Nat.le_of_ble_eq_true rfl) (Nat.le_of_ble_eq_true rfl) dX5_canSing_30 [0] (by decide) rfl (ws' := fun u => [(y, .inr (5, [.int zt, .ref mt, .int (nI ts), .int (nI pl), .int (nI W), .int (nI ll), .ref md, .ref ms, .int (nI rW), .ref mrd, .ref mrs, .ref mrp, .ref mp, .ref mb, .int (nI na), .ref mk, .ref mi, .long sd, .ref m1, .ref m2, .ref m3, .ref ml, .ref mf, .ref mw, .ref mn])), (q, .inl (cI, 52, .inl g))]) (st' := fun u => [.int (bz (!hasB ((nI (sg L s 1)) - (nI 1)) W))]) (fun _ => rfl) (fun _ => rfl) (fun _ => rfl) (fun _ _ => ?_)
    refine x_if_neB ok 64 dX5_canSing_33 (by decide) (fun c_33 => ?_) (fun c_33 => ?_)
    · skip
      refine x_iconst ok (nI 0) dX5_canSing_64 (by decide) ?_
      exact ret () _ _ _ (false) dX5_canSing_65 (rfl) (by rw [way, hx]; have c := c_33; simp only [Bool.not_eq_true, Bool.not_eq_eq_eq_not, Bool.not_true] at c; simp [c]) (trivial)
    · skip
      have hh : hasB (nI (sg L s 1) - nI 1) W = true := by simpa using c_33
      obtain ⟨j, hj, ej⟩ := hasB_t (by omega) hh
      refine x_aload_n ok 3 dX5_canSing_36 rfl rfl ?_
      refine x_bipush ok (nI 49) dX5_canSing_37 (by decide) ?_
      refine x_iald ok 1 0 49 dX5_canSing_39 rfl rfl (rfl) (by omega) (by decide) (nI li) (hg.2.2.1) ?_
      refine x_iload ok 1 dX5_canSing_40 rfl ?_
      refine qX5_125 ok (As := [.int (nI li), .int (nI (sg L s 1))]) (st := []) (d_has l D cI cZ cS li (sg L s 1) (by first | assumption | omega) (by first | assumption | omega)) rfl (Nat.le_of_ble_eq_true rfl) (Nat.le_of_ble_eq_true rfl) (Nat.le_of_ble_eq_true rfl) dX5_canSing_42 [] (by decide) rfl (ws' := fun u => [(y, .inr (5, [.int zt, .ref mt, .int (nI ts), .int (nI pl), .int (nI W), .int (nI ll), .ref md, .ref ms, .int (nI rW), .ref mrd, .ref mrs, .ref mrp, .ref mp, .ref mb, .int (nI na), .ref mk, .ref mi, .long sd, .ref m1, .ref m2, .ref m3, .ref ml, .ref mf, .ref mw, .ref mn])), (q, .inl (cI, 52, .inl g))]) (st' := fun u => [.int (bz (li.testBit (sg L s 1)))]) (fun _ => rfl) (fun _ => rfl) (fun _ => rfl) (fun _ _ => ?_)
      refine x_if_neB ok 64 dX5_canSing_45 (by decide) (fun c_45 => ?_) (fun c_45 => ?_)
      · skip
        refine x_iconst ok (nI 0) dX5_canSing_64 (by decide) ?_
        exact ret () _ _ _ (false) dX5_canSing_65 (rfl) (by rw [way, hx, hh, ej, nI_clamp (by omega)]; simp [c_45]) (trivial)
      · skip
        refine x_aload_n ok 3 dX5_canSing_48 rfl rfl ?_
        refine x_bipush ok (nI 49) dX5_canSing_49 (by decide) ?_
        refine x_iald ok 1 0 49 dX5_canSing_51 rfl rfl (rfl) (by omega) (by decide) (nI li) (hg.2.2.1) ?_
        refine x_iload ok 0 dX5_canSing_52 rfl ?_
        refine x_eq (st' := [.int (nI j), .int (nI li)]) rfl rfl (by rw [ej]) ?_
        refine qX5_125 ok (As := [.int (nI li), .int (nI j)]) (st := []) (d_has l D cI cZ cS li j (by first | assumption | omega) (by first | assumption | omega)) rfl (Nat.le_of_ble_eq_true rfl) (Nat.le_of_ble_eq_true rfl) (Nat.le_of_ble_eq_true rfl) dX5_canSing_54 [] (by decide) rfl (ws' := fun u => [(y, .inr (5, [.int zt, .ref mt, .int (nI ts), .int (nI pl), .int (nI W), .int (nI ll), .ref md, .ref ms, .int (nI rW), .ref mrd, .ref mrs, .ref mrp, .ref mp, .ref mb, .int (nI na), .ref mk, .ref mi, .long sd, .ref m1, .ref m2, .ref m3, .ref ml, .ref mf, .ref mw, .ref mn])), (q, .inl (cI, 52, .inl g))]) (st' := fun u => [.int (bz (li.testBit j))]) (fun _ => rfl) (fun _ => rfl) (fun _ => rfl) (fun _ _ => ?_)
        refine x_if_neB ok 64 dX5_canSing_57 (by decide) (fun c_57 => ?_) (fun c_57 => ?_)
        · skip
          refine x_iconst ok (nI 0) dX5_canSing_64 (by decide) ?_
          exact ret () _ _ _ (false) dX5_canSing_65 (rfl) (by rw [way, hx, hh, ej, nI_clamp (by omega)]; simp [c_45, c_57]) (trivial)
        · skip
          refine x_iconst ok (nI 1) dX5_canSing_60 (by decide) ?_
          refine x_goto ok 65 dX5_canSing_61 (by decide) ?_
          exact ret () _ _ _ (true) dX5_canSing_65 (rfl) (by rw [way, hx, hh, ej, nI_clamp (by omega)]; simp [c_45, c_57]) (trivial)

set_option maxHeartbeats 4000000 in
set_option maxRecDepth 100000 in
theorem d_goSing (l : Launch) (D : va_G) (cI cZ cS : ClassId) (y : Nat) (zt : Int32) (mt : Nat) (ts : Nat) (pl : Nat) (W : Nat) (ll : Nat) (md : Nat) (ms : Nat) (rW : Nat) (mrd : Nat) (mrs : Nat) (mrp : Nat) (mp : Nat) (mb : Nat) (na : Nat) (mk : Nat) (mi : Nat) (sd : Int64) (m1 : Nat) (m2 : Nat) (m3 : Nat) (ml : Nat) (mf : Nat) (mw : Nat) (mn : Nat) (sf : Nat → Int32) (st : Nat → Nat) (q : Nat) (g : Nat → Int32) (L : List Sg) (li : Nat) (ye : Int32) (br : Int32) (A : Nat) (s : Nat) (d : Nat) (v : Nat) (p : Nat) (hst : ∀ w, w < W → sf w = nI (st w)) (hst2 : ∀ w, w < W → st w ≤ 2) (hg : PGR g L li ye br) (hv : okL W A L) (hW4 : W ≤ 4) (hl : li < 256) (hs1 : s < L.length) (hd : d ≤ 1) (hv9 : v ≤ 9) (hp3 : p ≤ 3) (hway : way W li (sg L s 1) d = true) (h7 : L.length < 8) : CO l D (TY cI cZ cS) yX5_goSing cX5_goSing 8 none 1 26 0 0 [.ref y, .ref q, .int (nI s), .int (nI d), .int (nI v), .int (nI p)] [(y, .inr (5, [.int zt, .ref mt, .int (nI ts), .int (nI pl), .int (nI W), .int (nI ll), .ref md, .ref ms, .int (nI rW), .ref mrd, .ref mrs, .ref mrp, .ref mp, .ref mb, .int (nI na), .ref mk, .ref mi, .long sd, .ref m1, .ref m2, .ref m3, .ref ml, .ref mf, .ref mw, .ref mn])), (ms, .inl (cI, 4, .inl sf)), (q, .inl (cI, 52, .inl g))] (σ := (Nat → Int32)) (fun u => none) (fun u => [(y, .inr (5, [.int zt, .ref mt, .int (nI ts), .int (nI pl), .int (nI W), .int (nI ll), .ref md, .ref ms, .int (nI rW), .ref mrd, .ref mrs, .ref mrp, .ref mp, .ref mb, .int (nI na), .ref mk, .ref mi, .long sd, .ref m1, .ref m2, .ref m3, .ref ml, .ref mf, .ref mw, .ref mn])), (ms, .inl (cI, 4, .inl sf)), (q, .inl (cI, 52, .inl u))]) (fun u => (PGR u (sungL st L s (jN L s d) v p) li ye (br + nI v))) := by
  refine CO_mkv (by decide +kernel) (Nat.le_of_ble_eq_true rfl) (fun K ok ret => ?_)
  show XX K [(y, .inr (5, [.int zt, .ref mt, .int (nI ts), .int (nI pl), .int (nI W), .int (nI ll), .ref md, .ref ms, .int (nI rW), .ref mrd, .ref mrs, .ref mrp, .ref mp, .ref mb, .int (nI na), .ref mk, .ref mi, .long sd, .ref m1, .ref m2, .ref m3, .ref ml, .ref mf, .ref mw, .ref mn])), (ms, .inl (cI, 4, .inl sf)), (q, .inl (cI, 52, .inl g))] [(0, .ref y), (1, .ref q), (2, .int (nI s)), (3, .int (nI d)), (4, .int (nI v)), (5, .int (nI p))] 0 []
  obtain ⟨v0, v1, v2, v2b, v3, v4, v5⟩ := hv.2 s hs1
  have hwj := way_j hW4 hway
  have hs2 := hst2 (sg L s 1) (by omega)
  have hjx : (nxt (sg L s 1) d).toNatClampNeg = jN L s d := rfl
  rw [hjx] at hwj
  refine x_aload_n ok 1 dX5_goSing_0 rfl rfl ?_
  refine x_bipush ok (nI 6) dX5_goSing_1 (by decide) ?_
  refine x_iload_n ok 2 dX5_goSing_3 rfl rfl ?_
  refine x_imul ok (nI (s * 6)) dX5_goSing_4 (nN (pk_mul _ _) (by omega)) ?_
  refine x_iconst ok (nI 1) dX5_goSing_5 (by decide) ?_
  refine x_iadd ok (nI (s * 6 + 1)) dX5_goSing_6 (nN (nI_add _ _) (by omega)) ?_
  refine x_iald ok 2 0 (s * 6 + 1) dX5_goSing_7 rfl rfl (rfl) (by omega) (by decide) (nI (sg L s 1)) (hg.1 s 1 hs1 (by omega)) ?_
  refine x_istore ok (lv' := [(6, .int (nI (sg L s 1))), (0, .ref y), (1, .ref q), (2, .int (nI s)), (3, .int (nI d)), (4, .int (nI v)), (5, .int (nI p))]) dX5_goSing_8 (by decide) rfl ?_
  refine x_aload_n ok 2 dX5_goSing_10 rfl rfl ?_
  refine x_bipush ok (nI 6) dX5_goSing_11 (by decide) ?_
  refine x_iload_n ok 3 dX5_goSing_13 rfl rfl ?_
  refine x_imul ok (nI (s * 6)) dX5_goSing_14 (nN (pk_mul _ _) (by omega)) ?_
  refine x_iconst ok (nI 5) dX5_goSing_15 (by decide) ?_
  refine x_iadd ok (nI (s * 6 + 5)) dX5_goSing_16 (nN (nI_add _ _) (by omega)) ?_
  refine x_iald ok 2 0 (s * 6 + 5) dX5_goSing_17 rfl rfl (rfl) (by omega) (by decide) (nI (sg L s 5)) (hg.1 s 5 hs1 (by omega)) ?_
  refine x_aload_n ok 1 dX5_goSing_18 rfl rfl ?_
  refine gX5_16 ok dX5_goSing_19 0 rfl rfl ?_
  refine x_iload ok 0 dX5_goSing_22 rfl ?_
  refine x_iald ok 1 0 (sg L s 1) dX5_goSing_24 rfl rfl (rfl) (by omega) (by decide) (nI (st (sg L s 1))) (hst _ (by omega)) ?_
  refine x_iconst ok (nI 2) dX5_goSing_25 (by decide) ?_
  have J_34 : ∀ (v34_1 : Nat), v34_1 = (if (st (sg L s 1)) = 2 then 1 else 0) → XX K [(y, .inr (5, [.int zt, .ref mt, .int (nI ts), .int (nI pl), .int (nI W), .int (nI ll), .ref md, .ref ms, .int (nI rW), .ref mrd, .ref mrs, .ref mrp, .ref mp, .ref mb, .int (nI na), .ref mk, .ref mi, .long sd, .ref m1, .ref m2, .ref m3, .ref ml, .ref mf, .ref mw, .ref mn])), (ms, .inl (cI, 4, .inl sf)), (q, .inl (cI, 52, .inl g))] [(6, .int (nI (sg L s 1))), (0, .ref y), (1, .ref q), (2, .int (nI s)), (3, .int (nI d)), (4, .int (nI v)), (5, .int (nI p))] 34 [.int (nI v34_1), .int (nI (sg L s 5))] := by
    intro v34_1 e_v34_1
    refine x_iadd ok (nI (sg L s 5 + v34_1)) dX5_goSing_34 (nN (nI_add _ _) (by omega)) ?_
    refine x_istore ok (lv' := [(7, .int (nI (sg L s 5 + v34_1))), (6, .int (nI (sg L s 1))), (0, .ref y), (1, .ref q), (2, .int (nI s)), (3, .int (nI d)), (4, .int (nI v)), (5, .int (nI p))]) dX5_goSing_35 (by decide) rfl ?_
    have hv34 : v34_1 ≤ 1 := by rw [e_v34_1]; split <;> omega
    refine x_aload_n ok 3 dX5_goSing_37 rfl rfl ?_
    refine x_aload_n ok 3 dX5_goSing_38 rfl rfl ?_
    refine x_bipush ok (nI 6) dX5_goSing_39 (by decide) ?_
    refine x_iload_n ok 4 dX5_goSing_41 rfl rfl ?_
    refine x_imul ok (nI (s * 6)) dX5_goSing_42 (nN (pk_mul _ _) (by omega)) ?_
    refine x_iald ok 2 0 (s * 6) dX5_goSing_43 rfl rfl (rfl) (by omega) (by decide) (nI (sg L s 0)) (hg.1 s 0 hs1 (by omega)) ?_
    refine x_iload_n ok 5 dX5_goSing_44 rfl rfl ?_
    have J_59 : ∀ (v59_1 : Int32), v59_1 = (if d = 0 then ((nI (sg L s 1)) - (nI 1)) else nI (sg L s 1 + 1)) → XX K [(y, .inr (5, [.int zt, .ref mt, .int (nI ts), .int (nI pl), .int (nI W), .int (nI ll), .ref md, .ref ms, .int (nI rW), .ref mrd, .ref mrs, .ref mrp, .ref mp, .ref mb, .int (nI na), .ref mk, .ref mi, .long sd, .ref m1, .ref m2, .ref m3, .ref ml, .ref mf, .ref mw, .ref mn])), (ms, .inl (cI, 4, .inl sf)), (q, .inl (cI, 52, .inl g))] [(7, .int (nI (sg L s 5 + v34_1))), (6, .int (nI (sg L s 1))), (0, .ref y), (1, .ref q), (2, .int (nI s)), (3, .int (nI d)), (4, .int (nI v)), (5, .int (nI p))] 59 [.int v59_1, .int (nI (sg L s 0)), .ref q] := by
      intro v59_1 e_v59_1
      refine x_iload ok 6 dX5_goSing_59 rfl ?_
      refine x_iload ok 7 dX5_goSing_61 rfl ?_
      refine x_iload ok 0 dX5_goSing_63 rfl ?_
      refine x_bipush ok (nI 9) dX5_goSing_65 (by decide) ?_
      have J_77 : ∀ (v77_1 : Nat), v77_1 = (if (sg L s 5 + v34_1) ≤ 9 then sg L s 5 + v34_1 else 9) → XX K [(y, .inr (5, [.int zt, .ref mt, .int (nI ts), .int (nI pl), .int (nI W), .int (nI ll), .ref md, .ref ms, .int (nI rW), .ref mrd, .ref mrs, .ref mrp, .ref mp, .ref mb, .int (nI na), .ref mk, .ref mi, .long sd, .ref m1, .ref m2, .ref m3, .ref ml, .ref mf, .ref mw, .ref mn])), (ms, .inl (cI, 4, .inl sf)), (q, .inl (cI, 52, .inl g))] [(7, .int (nI (sg L s 5 + v34_1))), (6, .int (nI (sg L s 1))), (0, .ref y), (1, .ref q), (2, .int (nI s)), (3, .int (nI d)), (4, .int (nI v)), (5, .int (nI p))] 77 [.int (nI v77_1), .int (nI p), .int (nI v), .int v59_1, .int (nI (sg L s 0)), .ref q] := by
        intro v77_1 e_v77_1
        refine x_eq (st' := [.int (nI v77_1), .int (nI p), .int (nI v), .int (nI (jN L s d)), .int (nI (sg L s 0)), .ref q]) rfl rfl (by rw [show v59_1 = nI (jN L s d) from e_v59_1.trans hwj.2]) ?_
        refine x_eq (st' := [.int (nI (slipN st L s)), .int (nI p), .int (nI v), .int (nI (jN L s d)), .int (nI (sg L s 0)), .ref q]) rfl rfl (by rw [show slipN st L s = v77_1 by rw [slipN, ← e_v34_1, e_v77_1]; split <;> omega]) ?_
        refine qX5_88 ok (As := [.ref q, .int (nI (sg L s 0)), .int (nI (jN L s d)), .int (nI v), .int (nI p), .int (nI (slipN st L s))]) (st := []) (d_add l D cI cZ cS q g L li ye br (sg L s 0) (jN L s d) v p (slipN st L s) (by first | assumption | omega) (by first | assumption | omega)) rfl (Nat.le_of_ble_eq_true rfl) (Nat.le_of_ble_eq_true rfl) (Nat.le_of_ble_eq_true rfl) dX5_goSing_77 [2] (by decide) rfl (ws' := fun u => [(y, .inr (5, [.int zt, .ref mt, .int (nI ts), .int (nI pl), .int (nI W), .int (nI ll), .ref md, .ref ms, .int (nI rW), .ref mrd, .ref mrs, .ref mrp, .ref mp, .ref mb, .int (nI na), .ref mk, .ref mi, .long sd, .ref m1, .ref m2, .ref m3, .ref ml, .ref mf, .ref mw, .ref mn])), (ms, .inl (cI, 4, .inl sf)), (q, .inl (cI, 52, .inl u))]) (st' := fun u => []) (fun _ => rfl) (fun _ => rfl) (fun _ => rfl) (fun u77 hu77 => ?_)
        obtain ⟨g277, rfl⟩ : ∃ z, z = u77 := ⟨_, rfl⟩
        have hg277 := hu77
        have hg277 : PGR g277 (L ++ [mkS (sg L s 0) (jN L s d) v p (slipN st L s)]) li ye br := hg277
        show XX K [(y, .inr (5, [.int zt, .ref mt, .int (nI ts), .int (nI pl), .int (nI W), .int (nI ll), .ref md, .ref ms, .int (nI rW), .ref mrd, .ref mrs, .ref mrp, .ref mp, .ref mb, .int (nI na), .ref mk, .ref mi, .long sd, .ref m1, .ref m2, .ref m3, .ref ml, .ref mf, .ref mw, .ref mn])), (ms, .inl (cI, 4, .inl sf)), (q, .inl (cI, 52, .inl g277))] [(7, .int (nI (sg L s 5 + v34_1))), (6, .int (nI (sg L s 1))), (0, .ref y), (1, .ref q), (2, .int (nI s)), (3, .int (nI d)), (4, .int (nI v)), (5, .int (nI p))] 80 []
        have hl9 : (sungL st L s (jN L s d) v p).length ≤ 8 := by rw [sungL]; simp; omega
        refine x_aload_n ok 3 dX5_goSing_80 rfl rfl ?_
        refine x_bipush ok (nI 51) dX5_goSing_81 (by decide) ?_
        refine x_dup2 ok dX5_goSing_83 rfl rfl ?_
        refine x_iald ok 2 0 51 dX5_goSing_84 rfl rfl (rfl) (by omega) (by decide) (br) (hg277.2.2.2.2) ?_
        refine x_iload ok 6 dX5_goSing_85 rfl ?_
        refine x_iadd ok ((br + (nI v))) dX5_goSing_87 (rfl) ?_
        refine x_iast ok 2 0 51 (ws' := [(y, .inr (5, [.int zt, .ref mt, .int (nI ts), .int (nI pl), .int (nI W), .int (nI ll), .ref md, .ref ms, .int (nI rW), .ref mrd, .ref mrs, .ref mrp, .ref mp, .ref mb, .int (nI na), .ref mk, .ref mi, .long sd, .ref m1, .ref m2, .ref m3, .ref ml, .ref mf, .ref mw, .ref mn])), (ms, .inl (cI, 4, .inl sf)), (q, .inl (cI, 52, .inl (upd g277 51 (br + (nI v)))))]) dX5_goSing_88 rfl rfl (rfl) (by omega) (by decide) (rfl) rfl ?_
        exact ret (upd g277 51 (br + (nI v))) _ _ _ dX5_goSing_89 (rfl) (⟨hs_upd hg277.1 (by omega), (upd_n (by omega)).trans hg277.2.1, (upd_n (by omega)).trans hg277.2.2.1, (upd_n (by omega)).trans hg277.2.2.2.1, upd_s⟩)
      refine x_icmp_leN ok 75 dX5_goSing_67 (by decide) (by omega) (by omega) (fun c_67 => ?_) (fun c_67 => ?_)
      · skip
        refine x_iload ok 0 dX5_goSing_75 rfl ?_
        exact J_77 (sg L s 5 + v34_1) (by first | rfl | (simp only [if_pos c_67]; done) | (simp [c_67]; done))
      · skip
        refine x_bipush ok (nI 9) dX5_goSing_70 (by decide) ?_
        refine x_goto ok 77 dX5_goSing_72 (by decide) ?_
        exact J_77 9 (by first | rfl | (simp only [if_neg c_67]; done) | (simp [c_67]; done))
    refine x_if_neN ok 55 dX5_goSing_45 (by decide) (by omega) (fun c_45 => ?_) (fun c_45 => ?_)
    · skip
      refine x_iload ok 1 dX5_goSing_55 rfl ?_
      refine x_iconst ok (nI 1) dX5_goSing_57 (by decide) ?_
      refine x_iadd ok (nI (sg L s 1 + 1)) dX5_goSing_58 (nN (nI_add _ _) (by omega)) ?_
      exact J_59 (nI (sg L s 1 + 1)) (by first | rfl | (simp only [if_neg c_45]; done) | (simp [c_45]; done))
    · skip
      refine x_iload ok 1 dX5_goSing_48 rfl ?_
      refine x_iconst ok (nI 1) dX5_goSing_50 (by decide) ?_
      refine x_isub ok (((nI (sg L s 1)) - (nI 1))) dX5_goSing_51 (rfl) ?_
      refine x_goto ok 59 dX5_goSing_52 (by decide) ?_
      exact J_59 ((nI (sg L s 1)) - (nI 1)) (by first | rfl | (simp only [if_pos c_45]; done) | (simp [c_45]; done))
  refine x_icmp_neN ok 33 dX5_goSing_26 (by decide) (by omega) (by omega) (fun c_26 => ?_) (fun c_26 => ?_)
  · skip
    refine x_iconst ok (nI 0) dX5_goSing_33 (by decide) ?_
    exact J_34 0 (by first | rfl | (simp only [if_neg c_26]; done) | (simp [c_26]; done))
  · skip
    refine x_iconst ok (nI 1) dX5_goSing_29 (by decide) ?_
    refine x_goto ok 34 dX5_goSing_30 (by decide) ?_
    exact J_34 1 (by first | rfl | (simp only [if_pos c_26]; done) | (simp [c_26]; done))
