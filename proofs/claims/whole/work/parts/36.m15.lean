set_option maxHeartbeats 4000000 in
set_option maxRecDepth 100000 in
theorem d_in (l : Launch) (D : va_G) (cI cZ cS : ClassId) (x : Int32) (lo : Int32) (up : Int32)  : CO l D (TY cI cZ cS) yX5_in cX5_in 6 (some .boolean) 0 0 0 0 [.long ((x).toInt64), .long ((lo).toInt64), .long ((up).toInt64)] [] (σ := Unit) (fun u => some (.int (bz (inB x lo up)))) (fun u => []) (fun u => True) := by
  refine CO_mkz (by decide +kernel) (Nat.le_of_ble_eq_true rfl) (fun K ok ret => ?_)
  show XX K [] [(0, .long ((x).toInt64)), (2, .long ((lo).toInt64)), (4, .long ((up).toInt64))] 0 []
  refine x_lload_n ok 0 dX5_in_0 rfl rfl ?_
  refine x_lload_n ok 1 dX5_in_1 rfl rfl ?_
  refine x_lcmp ok dX5_in_2 ?_
  refine x_if_lt ok 17 dX5_in_3 (by decide) (fun c_3 => ?_) (fun c_3 => ?_)
  · skip
    refine x_iconst ok (nI 0) dX5_in_17 (by decide) ?_
    exact ret () _ _ _ (false) dX5_in_18 (rfl) (by rw [inB]; simp [(lgI_lt x lo).mp c_3]) (trivial)
  · skip
    refine x_lload_n ok 0 dX5_in_6 rfl rfl ?_
    refine x_lload ok 2 dX5_in_7 rfl ?_
    refine x_lcmp ok dX5_in_9 ?_
    refine x_if_gt ok 17 dX5_in_10 (by decide) (fun c_10 => ?_) (fun c_10 => ?_)
    · skip
      refine x_iconst ok (nI 0) dX5_in_17 (by decide) ?_
      exact ret () _ _ _ (false) dX5_in_18 (rfl) (by rw [inB]; simp [(lgI_gt x up).mp c_10]) (trivial)
    · skip
      refine x_iconst ok (nI 1) dX5_in_13 (by decide) ?_
      refine x_goto ok 18 dX5_in_14 (by decide) ?_
      exact ret () _ _ _ (true) dX5_in_18 (rfl) (by rw [inB]; simp [Classical.byContradiction fun z => c_3 ((lgI_lt x lo).mpr z), Classical.byContradiction fun z => c_10 ((lgI_gt x up).mpr z)]) (trivial)

set_option maxHeartbeats 4000000 in
set_option maxRecDepth 100000 in
theorem d_has (l : Launch) (D : va_G) (cI cZ cS : ClassId) (s : Nat) (k : Nat) (hs : s < 256) (hk : k < 8) : CO l D (TY cI cZ cS) yX5_has cX5_has 2 (some .boolean) 0 0 0 0 [.int (nI s), .int (nI k)] [] (σ := Unit) (fun u => some (.int (bz (s.testBit k)))) (fun u => []) (fun u => True) := by
  refine CO_mkz (by decide +kernel) (Nat.le_of_ble_eq_true rfl) (fun K ok ret => ?_)
  show XX K [] [(0, .int (nI s)), (1, .int (nI k))] 0 []
  refine x_iload_n ok 0 dX5_has_0 rfl rfl ?_
  refine x_iload_n ok 1 dX5_has_1 rfl rfl ?_
  refine x_ishr ok (((nI s) >>> ((nI k) &&& 31))) dX5_has_2 (rfl) ?_
  refine x_iconst ok (nI 1) dX5_has_3 (by decide) ?_
  refine x_iand ok (nI ((s.testBit k).toNat)) dX5_has_4 (tb0 s hs k hk) ?_
  refine x_iconst ok (nI 1) dX5_has_5 (by decide) ?_
  refine x_icmp_neN ok 13 dX5_has_6 (by decide) (by first | omega | (have := (s.testBit k).toNat_le; omega)) (by first | omega | (have := (s.testBit k).toNat_le; omega)) (fun c_6 => ?_) (fun c_6 => ?_)
  · skip
    refine x_iconst ok (nI 0) dX5_has_13 (by decide) ?_
    exact ret () _ _ _ (false) dX5_has_14 (rfl) (by revert c_6; cases s.testBit k <;> simp) (trivial)
  · skip
    refine x_iconst ok (nI 1) dX5_has_9 (by decide) ?_
    refine x_goto ok 14 dX5_has_10 (by decide) ?_
    exact ret () _ _ _ (true) dX5_has_14 (rfl) (by revert c_6; cases s.testBit k <;> simp) (trivial)

set_option maxHeartbeats 4000000 in
set_option maxRecDepth 100000 in
theorem d_many (l : Launch) (D : va_G) (cI cZ cS : ClassId) (a : Nat) (ha : a < 256) : CO l D (TY cI cZ cS) yX5_many cX5_many 3 (some .int) 0 0 0 0 [.int (nI a)] [] (σ := Unit) (fun u => some (.int (nI (popN a)))) (fun u => []) (fun u => True) := by
  refine CO_mki (by decide +kernel) (Nat.le_of_ble_eq_true rfl) (fun K ok ret => ?_)
  show XX K [] [(0, .int (nI a))] 0 []
  refine x_iconst ok (nI 0) dX5_many_0 (by decide) ?_
  refine x_istore_n ok (lv' := [(1, .int (nI 0)), (0, .int (nI a))]) dX5_many_1 rfl (by decide) rfl ?_
  refine x_iconst ok (nI 0) dX5_many_2 (by decide) ?_
  refine x_istore_n ok (lv' := [(2, .int (nI 0)), (1, .int (nI 0)), (0, .int (nI a))]) dX5_many_3 rfl (by decide) rfl ?_
  have L_4 : ∀ (n_4 : Nat) (i : Nat), 6 - i < n_4 → (i ≤ 6) → XX K [] [(2, .int (nI i)), (1, .int (nI (suN (fun k => (a.testBit k).toNat) i))), (0, .int (nI a))] 4 [] := by
    intro n_4
    induction n_4 with
    | zero => intro i hm; exact absurd hm (Nat.not_lt_zero _)
    | succ n_4 ih_4 =>
      intro i hm_4 hi
      refine x_iload_n ok 0 dX5_many_4 rfl rfl ?_
      refine x_bipush ok (nI 6) dX5_many_5 (by decide) ?_
      refine x_icmp_geN ok 24 dX5_many_7 (by decide) (by omega) (by omega) (fun c_7 => ?_) (fun c_7 => ?_)
      · skip
        have e_i : 6 = i := by omega
        subst e_i
        refine x_iload_n ok 1 dX5_many_24 rfl rfl ?_
        exact ret () _ _ _ (nI (suN (fun k => (a.testBit k).toNat) 6)) dX5_many_25 (rfl) (by first | rfl | (simp [c_7]; done)) (trivial)
      · skip
        refine x_iload_n ok 1 dX5_many_10 rfl rfl ?_
        refine x_iload_n ok 2 dX5_many_11 rfl rfl ?_
        refine x_iload_n ok 0 dX5_many_12 rfl rfl ?_
        refine x_ishr ok (((nI a) >>> ((nI i) &&& 31))) dX5_many_13 (rfl) ?_
        refine x_iconst ok (nI 1) dX5_many_14 (by decide) ?_
        refine x_iand ok (nI ((a.testBit i).toNat)) dX5_many_15 (tb0 a ha i (by omega)) ?_
        refine x_iadd ok (nI (suN (fun k => (a.testBit k).toNat) (i + 1))) dX5_many_16 (nI_add _ _) ?_
        refine x_istore_n ok (lv' := [(1, .int (nI (suN (fun k => (a.testBit k).toNat) (i + 1)))), (2, .int (nI i)), (0, .int (nI a))]) dX5_many_17 rfl (by decide) rfl ?_
        refine x_iinc ok (v := nI (i + 1)) (lv' := [(2, .int (nI (i + 1))), (1, .int (nI (suN (fun k => (a.testBit k).toNat) (i + 1)))), (0, .int (nI a))]) dX5_many_18 1 rfl (nN (nI_inc _ 1) (by omega)) (by decide) rfl ?_
        refine x_goto ok 4 dX5_many_21 (by decide) ?_
        exact ih_4 (i + 1) (by omega) (by first | assumption | omega)
  exact L_4 _ 0 (Nat.lt_succ_self _) (by first | assumption | omega)

set_option maxHeartbeats 4000000 in
set_option maxRecDepth 100000 in
theorem d_noWell (l : Launch) (D : va_G) (cI cZ cS : ClassId) (y : Nat) (zt : Int32) (mt : Nat) (ts : Nat) (pl : Nat) (W : Nat) (ll : Nat) (md : Nat) (ms : Nat) (rW : Nat) (mrd : Nat) (mrs : Nat) (mrp : Nat) (mp : Nat) (mb : Nat) (na : Nat) (mk : Nat) (mi : Nat) (sd : Int64) (m1 : Nat) (m2 : Nat) (m3 : Nat) (ml : Nat) (mf : Nat) (mw : Nat) (mn : Nat) (w : Int32) (hW : W < 1000) : CO l D (TY cI cZ cS) yX5_noWell cX5_noWell 2 (some .boolean) 1 25 0 0 [.ref y, .int w] [(y, .inr (5, [.int zt, .ref mt, .int (nI ts), .int (nI pl), .int (nI W), .int (nI ll), .ref md, .ref ms, .int (nI rW), .ref mrd, .ref mrs, .ref mrp, .ref mp, .ref mb, .int (nI na), .ref mk, .ref mi, .long sd, .ref m1, .ref m2, .ref m3, .ref ml, .ref mf, .ref mw, .ref mn]))] (σ := Unit) (fun u => some (.int (bz (!hasB w W)))) (fun u => [(y, .inr (5, [.int zt, .ref mt, .int (nI ts), .int (nI pl), .int (nI W), .int (nI ll), .ref md, .ref ms, .int (nI rW), .ref mrd, .ref mrs, .ref mrp, .ref mp, .ref mb, .int (nI na), .ref mk, .ref mi, .long sd, .ref m1, .ref m2, .ref m3, .ref ml, .ref mf, .ref mw, .ref mn]))]) (fun u => True) := by
  refine CO_mkz (by decide +kernel) (Nat.le_of_ble_eq_true rfl) (fun K ok ret => ?_)
  show XX K [(y, .inr (5, [.int zt, .ref mt, .int (nI ts), .int (nI pl), .int (nI W), .int (nI ll), .ref md, .ref ms, .int (nI rW), .ref mrd, .ref mrs, .ref mrp, .ref mp, .ref mb, .int (nI na), .ref mk, .ref mi, .long sd, .ref m1, .ref m2, .ref m3, .ref ml, .ref mf, .ref mw, .ref mn]))] [(0, .ref y), (1, .int w)] 0 []
  refine x_iload_n ok 1 dX5_noWell_0 rfl rfl ?_
  refine x_i2l ok ((w).toInt64) dX5_noWell_1 rfl ?_
  refine x_lconst ok ((nI 0).toInt64) dX5_noWell_2 (by decide) ?_
  refine x_aload_n ok 0 dX5_noWell_3 rfl rfl ?_
  refine gX5_66 ok dX5_noWell_4 0 rfl rfl ?_
  refine x_iconst ok (nI 1) dX5_noWell_7 (by decide) ?_
  refine x_isub ok (((nI W) - (nI 1))) dX5_noWell_8 (rfl) ?_
  refine x_i2l ok ((((nI W) - (nI 1))).toInt64) dX5_noWell_9 rfl ?_
  refine qX5_69 ok (As := [.long ((w).toInt64), .long ((nI 0).toInt64), .long ((((nI W) - (nI 1))).toInt64)]) (st := []) (d_in l D cI cZ cS w (nI 0) ((nI W) - (nI 1)) ) rfl (Nat.le_of_ble_eq_true rfl) (Nat.le_of_ble_eq_true rfl) (Nat.le_of_ble_eq_true rfl) dX5_noWell_10 [] (by decide) rfl (ws' := fun u => [(y, .inr (5, [.int zt, .ref mt, .int (nI ts), .int (nI pl), .int (nI W), .int (nI ll), .ref md, .ref ms, .int (nI rW), .ref mrd, .ref mrs, .ref mrp, .ref mp, .ref mb, .int (nI na), .ref mk, .ref mi, .long sd, .ref m1, .ref m2, .ref m3, .ref ml, .ref mf, .ref mw, .ref mn]))]) (st' := fun u => [.int (bz (inB w (nI 0) ((nI W) - (nI 1))))]) (fun _ => rfl) (fun _ => rfl) (fun _ => rfl) (fun _ _ => ?_)
  refine x_if_neB ok 20 dX5_noWell_13 (by decide) (fun c_13 => ?_) (fun c_13 => ?_)
  · skip
    refine x_iconst ok (nI 0) dX5_noWell_20 (by decide) ?_
    exact ret () _ _ _ (false) dX5_noWell_21 (rfl) (by rw [inB_w hW] at c_13; simp [c_13]) (trivial)
  · skip
    refine x_iconst ok (nI 1) dX5_noWell_16 (by decide) ?_
    refine x_goto ok 21 dX5_noWell_17 (by decide) ?_
    exact ret () _ _ _ (true) dX5_noWell_21 (rfl) (by rw [inB_w hW] at c_13; simp [c_13]) (trivial)

set_option maxHeartbeats 4000000 in
set_option maxRecDepth 100000 in
theorem d_noSong (l : Launch) (D : va_G) (cI cZ cS : ClassId) (y : Nat) (zt : Int32) (mt : Nat) (ts : Nat) (pl : Nat) (W : Nat) (ll : Nat) (md : Nat) (ms : Nat) (rW : Nat) (mrd : Nat) (mrs : Nat) (mrp : Nat) (mp : Nat) (mb : Nat) (na : Nat) (mk : Nat) (mi : Nat) (sd : Int64) (m1 : Nat) (m2 : Nat) (m3 : Nat) (ml : Nat) (mf : Nat) (mw : Nat) (mn : Nat) (g : Nat → Int32) (L : List Sg) (li : Nat) (ye : Int32) (br : Int32) (s : Int32) (hg : PGR g L li ye br) (h8 : L.length ≤ 8) : CO l D (TY cI cZ cS) yX5_noSong cX5_noSong 2 (some .boolean) 1 25 0 0 [.ref y, .int s] [(y, .inr (5, [.int zt, .ref mt, .int (nI ts), .int (nI pl), .int (nI W), .int (nI ll), .ref md, .ref ms, .int (nI rW), .ref mrd, .ref mrs, .ref mrp, .ref mp, .ref mb, .int (nI na), .ref mk, .ref mi, .long sd, .ref m1, .ref m2, .ref m3, .ref ml, .ref mf, .ref mw, .ref mn])), (mp, .inl (cI, 52, .inl g))] (σ := Unit) (fun u => some (.int (bz (!hasB s L.length)))) (fun u => [(y, .inr (5, [.int zt, .ref mt, .int (nI ts), .int (nI pl), .int (nI W), .int (nI ll), .ref md, .ref ms, .int (nI rW), .ref mrd, .ref mrs, .ref mrp, .ref mp, .ref mb, .int (nI na), .ref mk, .ref mi, .long sd, .ref m1, .ref m2, .ref m3, .ref ml, .ref mf, .ref mw, .ref mn])), (mp, .inl (cI, 52, .inl g))]) (fun u => True) := by
  refine CO_mkz (by decide +kernel) (Nat.le_of_ble_eq_true rfl) (fun K ok ret => ?_)
  show XX K [(y, .inr (5, [.int zt, .ref mt, .int (nI ts), .int (nI pl), .int (nI W), .int (nI ll), .ref md, .ref ms, .int (nI rW), .ref mrd, .ref mrs, .ref mrp, .ref mp, .ref mb, .int (nI na), .ref mk, .ref mi, .long sd, .ref m1, .ref m2, .ref m3, .ref ml, .ref mf, .ref mw, .ref mn])), (mp, .inl (cI, 52, .inl g))] [(0, .ref y), (1, .int s)] 0 []
  refine x_iload_n ok 1 dX5_noSong_0 rfl rfl ?_
  refine x_i2l ok ((s).toInt64) dX5_noSong_1 rfl ?_
  refine x_lconst ok ((nI 0).toInt64) dX5_noSong_2 (by decide) ?_
  refine x_aload_n ok 0 dX5_noSong_3 rfl rfl ?_
  refine gX5_28 ok dX5_noSong_4 0 rfl rfl ?_
  refine x_bipush ok (nI 48) dX5_noSong_7 (by decide) ?_
  refine x_iald ok 1 0 48 dX5_noSong_9 rfl rfl (rfl) (by omega) (by decide) (nI L.length) (hg.2.1) ?_
  refine x_iconst ok (nI 1) dX5_noSong_10 (by decide) ?_
  refine x_isub ok (((nI L.length) - (nI 1))) dX5_noSong_11 (rfl) ?_
  refine x_i2l ok ((((nI L.length) - (nI 1))).toInt64) dX5_noSong_12 rfl ?_
  refine qX5_69 ok (As := [.long ((s).toInt64), .long ((nI 0).toInt64), .long ((((nI L.length) - (nI 1))).toInt64)]) (st := []) (d_in l D cI cZ cS s (nI 0) ((nI L.length) - (nI 1)) ) rfl (Nat.le_of_ble_eq_true rfl) (Nat.le_of_ble_eq_true rfl) (Nat.le_of_ble_eq_true rfl) dX5_noSong_13 [] (by decide) rfl (ws' := fun u => [(y, .inr (5, [.int zt, .ref mt, .int (nI ts), .int (nI pl), .int (nI W), .int (nI ll), .ref md, .ref ms, .int (nI rW), .ref mrd, .ref mrs, .ref mrp, .ref mp, .ref mb, .int (nI na), .ref mk, .ref mi, .long sd, .ref m1, .ref m2, .ref m3, .ref ml, .ref mf, .ref mw, .ref mn])), (mp, .inl (cI, 52, .inl g))]) (st' := fun u => [.int (bz (inB s (nI 0) ((nI L.length) - (nI 1))))]) (fun _ => rfl) (fun _ => rfl) (fun _ => rfl) (fun _ _ => ?_)
  refine x_if_neB ok 23 dX5_noSong_16 (by decide) (fun c_16 => ?_) (fun c_16 => ?_)
  · skip
    refine x_iconst ok (nI 0) dX5_noSong_23 (by decide) ?_
    exact ret () _ _ _ (false) dX5_noSong_24 (rfl) (by rw [inB_w (by omega)] at c_16; simp [c_16]) (trivial)
  · skip
    refine x_iconst ok (nI 1) dX5_noSong_19 (by decide) ?_
    refine x_goto ok 24 dX5_noSong_20 (by decide) ?_
    exact ret () _ _ _ (true) dX5_noSong_24 (rfl) (by rw [inB_w (by omega)] at c_16; simp [c_16]) (trivial)

set_option maxHeartbeats 4000000 in
set_option maxRecDepth 100000 in
theorem d_lawsOf (l : Launch) (D : va_G) (cI cZ cS : ClassId) (q : Nat) (g : Nat → Int32) (L : List Sg) (li : Nat) (ye : Int32) (br : Int32) (W : Nat) (A : Nat) (hg : PGR g L li ye br) (hv : okL W A L) : CO l D (TY cI cZ cS) yX5_lawsOf cX5_lawsOf 3 (some .int) 0 0 0 0 [.ref q] [(q, .inl (cI, 52, .inl g))] (σ := Unit) (fun u => some (.int (nI (lawsN L)))) (fun u => [(q, .inl (cI, 52, .inl g))]) (fun u => True) := by
  refine CO_mki (by decide +kernel) (Nat.le_of_ble_eq_true rfl) (fun K ok ret => ?_)
  show XX K [(q, .inl (cI, 52, .inl g))] [(0, .ref q)] 0 []
  have h8 := hv.1
  refine x_iconst ok (nI 0) dX5_lawsOf_0 (by decide) ?_
  refine x_istore_n ok (lv' := [(1, .int (nI 0)), (0, .ref q)]) dX5_lawsOf_1 rfl (by decide) rfl ?_
  refine x_iconst ok (nI 0) dX5_lawsOf_2 (by decide) ?_
  refine x_istore_n ok (lv' := [(2, .int (nI 0)), (1, .int (nI 0)), (0, .ref q)]) dX5_lawsOf_3 rfl (by decide) rfl ?_
  have L_4 : ∀ (n_4 : Nat) (i : Nat), L.length - i < n_4 → (i ≤ L.length) → XX K [(q, .inl (cI, 52, .inl g))] [(2, .int (nI i)), (1, .int (nI (orN (fun t => 2 ^ sg L t 0) i))), (0, .ref q)] 4 [] := by
    intro n_4
    induction n_4 with
    | zero => intro i hm; exact absurd hm (Nat.not_lt_zero _)
    | succ n_4 ih_4 =>
      intro i hm_4 hi
      refine x_iload_n ok 0 dX5_lawsOf_4 rfl rfl ?_
      refine x_aload_n ok 2 dX5_lawsOf_5 rfl rfl ?_
      refine x_bipush ok (nI 48) dX5_lawsOf_6 (by decide) ?_
      refine x_iald ok 0 0 48 dX5_lawsOf_8 rfl rfl (rfl) (by omega) (by decide) (nI L.length) (hg.2.1) ?_
      refine x_icmp_geN ok 29 dX5_lawsOf_9 (by decide) (by omega) (by omega) (fun c_9 => ?_) (fun c_9 => ?_)
      · skip
        have e_i : L.length = i := by omega
        subst e_i
        refine x_iload_n ok 1 dX5_lawsOf_29 rfl rfl ?_
        exact ret () _ _ _ (nI (orN (fun t => 2 ^ sg L t 0) L.length)) dX5_lawsOf_30 (rfl) (by first | rfl | (simp [c_9]; done)) (trivial)
      · skip
        obtain ⟨v0, v1, v2, v2b, v3, v4, v5⟩ := hv.2 i (by omega)
        refine x_iload_n ok 1 dX5_lawsOf_12 rfl rfl ?_
        refine x_iconst ok (nI 1) dX5_lawsOf_13 (by decide) ?_
        refine x_aload_n ok 2 dX5_lawsOf_14 rfl rfl ?_
        refine x_bipush ok (nI 6) dX5_lawsOf_15 (by decide) ?_
        refine x_iload_n ok 0 dX5_lawsOf_17 rfl rfl ?_
        refine x_imul ok (nI (i * 6)) dX5_lawsOf_18 (nN (pk_mul _ _) (by omega)) ?_
        refine x_iald ok 0 0 (i * 6) dX5_lawsOf_19 rfl rfl (rfl) (by omega) (by decide) (nI (sg L i 0)) (hg.1 i 0 (by omega) (by omega)) ?_
        refine x_ishl ok (nI (2 ^ sg L i 0)) dX5_lawsOf_20 (shl1 _ (by omega)) ?_
        refine x_ior ok (nI (orN (fun t => 2 ^ sg L t 0) (i + 1))) dX5_lawsOf_21 (fa_or _ _) ?_
        refine x_istore_n ok (lv' := [(1, .int (nI (orN (fun t => 2 ^ sg L t 0) (i + 1)))), (2, .int (nI i)), (0, .ref q)]) dX5_lawsOf_22 rfl (by decide) rfl ?_
        refine x_iinc ok (v := nI (i + 1)) (lv' := [(2, .int (nI (i + 1))), (1, .int (nI (orN (fun t => 2 ^ sg L t 0) (i + 1)))), (0, .ref q)]) dX5_lawsOf_23 1 rfl (nN (nI_inc _ 1) (by omega)) (by decide) rfl ?_
        refine x_goto ok 4 dX5_lawsOf_26 (by decide) ?_
        exact ih_4 (i + 1) (by omega) (by first | assumption | omega)
  exact L_4 _ 0 (Nat.lt_succ_self _) (by first | assumption | omega)

set_option maxHeartbeats 4000000 in
set_option maxRecDepth 100000 in
theorem d_copy (l : Launch) (D : va_G) (cI cZ cS : ClassId) (q : Nat) (g : Nat → Int32) (L : List Sg) (li : Nat) (ye : Int32) (br : Int32) (q2 : Nat) (g0 : Nat → Int32) (hg : PGR g L li ye br) (h8 : L.length ≤ 8) : CO l D (TY cI cZ cS) yX5_copy cX5_copy 3 none 0 0 0 0 [.ref q, .ref q2] [(q, .inl (cI, 52, .inl g)), (q2, .inl (cI, 52, .inl g0))] (σ := (Nat → Int32)) (fun u => none) (fun u => [(q, .inl (cI, 52, .inl g)), (q2, .inl (cI, 52, .inl u))]) (fun u => (PGR u L li ye br)) := by
  refine CO_mkv (by decide +kernel) (Nat.le_of_ble_eq_true rfl) (fun K ok ret => ?_)
  show XX K [(q, .inl (cI, 52, .inl g)), (q2, .inl (cI, 52, .inl g0))] [(0, .ref q), (1, .ref q2)] 0 []
  refine x_iconst ok (nI 0) dX5_copy_0 (by decide) ?_
  refine x_istore_n ok (lv' := [(2, .int (nI 0)), (0, .ref q), (1, .ref q2)]) dX5_copy_1 rfl (by decide) rfl ?_
  have L_2 : ∀ (n_2 : Nat) (i : Nat) (g9 : Nat → Int32), 52 - i < n_2 → (i ≤ 52) → (∀ j, j < i → g9 j = g j) → XX K [(q, .inl (cI, 52, .inl g)), (q2, .inl (cI, 52, .inl g9))] [(2, .int (nI i)), (0, .ref q), (1, .ref q2)] 2 [] := by
    intro n_2
    induction n_2 with
    | zero => intro i g9 hm; exact absurd hm (Nat.not_lt_zero _)
    | succ n_2 ih_2 =>
      intro i g9 hm_2 hi h9
      refine x_iload_n ok 0 dX5_copy_2 rfl rfl ?_
      refine x_bipush ok (nI 52) dX5_copy_3 (by decide) ?_
      refine x_icmp_geN ok 20 dX5_copy_5 (by decide) (by omega) (by omega) (fun c_5 => ?_) (fun c_5 => ?_)
      · skip
        exact ret g9 _ _ _ dX5_copy_20 (rfl) (pgr_same hg h8 (fun j hj => h9 j (by omega)))
      · skip
        refine x_aload_n ok 2 dX5_copy_8 rfl rfl ?_
        refine x_iload_n ok 0 dX5_copy_9 rfl rfl ?_
        refine x_aload_n ok 1 dX5_copy_10 rfl rfl ?_
        refine x_iload_n ok 0 dX5_copy_11 rfl rfl ?_
        refine x_iald ok 0 0 i dX5_copy_12 rfl rfl (rfl) (by omega) (by decide) ((g i)) (rfl) ?_
        refine x_iast ok 1 0 i (ws' := [(q, .inl (cI, 52, .inl g)), (q2, .inl (cI, 52, .inl (upd g9 i (g i))))]) dX5_copy_13 rfl rfl (rfl) (by omega) (by decide) (rfl) rfl ?_
        refine x_iinc ok (v := nI (i + 1)) (lv' := [(2, .int (nI (i + 1))), (0, .ref q), (1, .ref q2)]) dX5_copy_14 0 rfl (nN (nI_inc _ 1) (by omega)) (by decide) rfl ?_
        refine x_goto ok 2 dX5_copy_17 (by decide) ?_
        exact ih_2 (i + 1) (upd g9 i (g i)) (by omega) (by first | assumption | omega) (fun j hj => by rcases Nat.lt_or_ge j i with q | q; (rw [upd_n (by omega)]; exact h9 j q); (rw [show j = i by omega, upd_s]))
  exact L_2 _ 0 g0 (Nat.lt_succ_self _) (by first | assumption | omega) (fun j hj => absurd hj (Nat.not_lt_zero j))

set_option maxHeartbeats 4000000 in
set_option maxRecDepth 100000 in
theorem d_add (l : Launch) (D : va_G) (cI cZ cS : ClassId) (q : Nat) (g : Nat → Int32) (L : List Sg) (li : Nat) (ye : Int32) (br : Int32) (a : Nat) (w : Nat) (v : Nat) (p : Nat) (s : Nat) (hg : PGR g L li ye br) (h7 : L.length < 8) : CO l D (TY cI cZ cS) yX5_add cX5_add 7 none 0 0 0 0 [.ref q, .int (nI a), .int (nI w), .int (nI v), .int (nI p), .int (nI s)] [(q, .inl (cI, 52, .inl g))] (σ := (Nat → Int32)) (fun u => none) (fun u => [(q, .inl (cI, 52, .inl u))]) (fun u => (PGR u (L ++ [mkS a w v p s]) li ye br)) := by
  refine CO_mkv (by decide +kernel) (Nat.le_of_ble_eq_true rfl) (fun K ok ret => ?_)
  show XX K [(q, .inl (cI, 52, .inl g))] [(0, .ref q), (1, .int (nI a)), (2, .int (nI w)), (3, .int (nI v)), (4, .int (nI p)), (5, .int (nI s))] 0 []
  refine x_bipush ok (nI 6) dX5_add_0 (by decide) ?_
  refine x_aload_n ok 0 dX5_add_2 rfl rfl ?_
  refine x_bipush ok (nI 48) dX5_add_3 (by decide) ?_
  refine x_iald ok 0 0 48 dX5_add_5 rfl rfl (rfl) (by omega) (by decide) (nI L.length) (hg.2.1) ?_
  refine x_imul ok (nI (L.length * 6)) dX5_add_6 (nN (pk_mul _ _) (by omega)) ?_
  refine x_istore ok (lv' := [(6, .int (nI (L.length * 6))), (0, .ref q), (1, .int (nI a)), (2, .int (nI w)), (3, .int (nI v)), (4, .int (nI p)), (5, .int (nI s))]) dX5_add_7 (by decide) rfl ?_
  refine x_aload_n ok 1 dX5_add_9 rfl rfl ?_
  refine x_iload ok 0 dX5_add_10 rfl ?_
  refine x_iload_n ok 2 dX5_add_12 rfl rfl ?_
  refine x_iast ok 0 0 (L.length * 6) (ws' := [(q, .inl (cI, 52, .inl (upd g (L.length * 6) (nI a))))]) dX5_add_13 rfl rfl (rfl) (by omega) (by decide) (rfl) rfl ?_
  refine x_aload_n ok 1 dX5_add_14 rfl rfl ?_
  refine x_iload ok 0 dX5_add_15 rfl ?_
  refine x_iconst ok (nI 1) dX5_add_17 (by decide) ?_
  refine x_iadd ok (nI (L.length * 6 + 1)) dX5_add_18 (nN (nI_add _ _) (by omega)) ?_
  refine x_iload_n ok 3 dX5_add_19 rfl rfl ?_
  refine x_iast ok 0 0 (L.length * 6 + 1) (ws' := [(q, .inl (cI, 52, .inl (upd (upd g (L.length * 6) (nI a)) (L.length * 6 + 1) (nI w))))]) dX5_add_20 rfl rfl (rfl) (by omega) (by decide) (rfl) rfl ?_
  refine x_aload_n ok 1 dX5_add_21 rfl rfl ?_
  refine x_iload ok 0 dX5_add_22 rfl ?_
  refine x_iconst ok (nI 2) dX5_add_24 (by decide) ?_
  refine x_iadd ok (nI (L.length * 6 + 2)) dX5_add_25 (nN (nI_add _ _) (by omega)) ?_
  refine x_iload_n ok 4 dX5_add_26 rfl rfl ?_
  refine x_iast ok 0 0 (L.length * 6 + 2) (ws' := [(q, .inl (cI, 52, .inl (upd (upd (upd g (L.length * 6) (nI a)) (L.length * 6 + 1) (nI w)) (L.length * 6 + 2) (nI v))))]) dX5_add_27 rfl rfl (rfl) (by omega) (by decide) (rfl) rfl ?_
  refine x_aload_n ok 1 dX5_add_28 rfl rfl ?_
  refine x_iload ok 0 dX5_add_29 rfl ?_
  refine x_iconst ok (nI 3) dX5_add_31 (by decide) ?_
  refine x_iadd ok (nI (L.length * 6 + 3)) dX5_add_32 (nN (nI_add _ _) (by omega)) ?_
  refine x_iload ok 5 dX5_add_33 rfl ?_
  refine x_iast ok 0 0 (L.length * 6 + 3) (ws' := [(q, .inl (cI, 52, .inl (upd (upd (upd (upd g (L.length * 6) (nI a)) (L.length * 6 + 1) (nI w)) (L.length * 6 + 2) (nI v)) (L.length * 6 + 3) (nI p))))]) dX5_add_35 rfl rfl (rfl) (by omega) (by decide) (rfl) rfl ?_
  refine x_aload_n ok 1 dX5_add_36 rfl rfl ?_
  refine x_iload ok 0 dX5_add_37 rfl ?_
  refine x_iconst ok (nI 4) dX5_add_39 (by decide) ?_
  refine x_iadd ok (nI (L.length * 6 + 4)) dX5_add_40 (nN (nI_add _ _) (by omega)) ?_
  refine x_iconst ok (nI 0) dX5_add_41 (by decide) ?_
  refine x_iast ok 0 0 (L.length * 6 + 4) (ws' := [(q, .inl (cI, 52, .inl (upd (upd (upd (upd (upd g (L.length * 6) (nI a)) (L.length * 6 + 1) (nI w)) (L.length * 6 + 2) (nI v)) (L.length * 6 + 3) (nI p)) (L.length * 6 + 4) (nI 0))))]) dX5_add_42 rfl rfl (rfl) (by omega) (by decide) (rfl) rfl ?_
  refine x_aload_n ok 1 dX5_add_43 rfl rfl ?_
  refine x_iload ok 0 dX5_add_44 rfl ?_
  refine x_iconst ok (nI 5) dX5_add_46 (by decide) ?_
  refine x_iadd ok (nI (L.length * 6 + 5)) dX5_add_47 (nN (nI_add _ _) (by omega)) ?_
  refine x_iload ok 6 dX5_add_48 rfl ?_
  refine x_iast ok 0 0 (L.length * 6 + 5) (ws' := [(q, .inl (cI, 52, .inl (upd (upd (upd (upd (upd (upd g (L.length * 6) (nI a)) (L.length * 6 + 1) (nI w)) (L.length * 6 + 2) (nI v)) (L.length * 6 + 3) (nI p)) (L.length * 6 + 4) (nI 0)) (L.length * 6 + 5) (nI s))))]) dX5_add_50 rfl rfl (rfl) (by omega) (by decide) (rfl) rfl ?_
  refine x_aload_n ok 1 dX5_add_51 rfl rfl ?_
  refine x_bipush ok (nI 48) dX5_add_52 (by decide) ?_
  refine x_dup2 ok dX5_add_54 rfl rfl ?_
  refine x_iald ok 0 0 48 dX5_add_55 rfl rfl (rfl) (by omega) (by decide) (nI L.length) (by simp only [upd]; (repeat rw [if_neg (by omega)]); exact hg.2.1) ?_
  refine x_iconst ok (nI 1) dX5_add_56 (by decide) ?_
  refine x_iadd ok (nI (L.length + 1)) dX5_add_57 (nN (nI_add _ _) (by omega)) ?_
  refine x_iast ok 0 0 48 (ws' := [(q, .inl (cI, 52, .inl (upd (upd (upd (upd (upd (upd (upd g (L.length * 6) (nI a)) (L.length * 6 + 1) (nI w)) (L.length * 6 + 2) (nI v)) (L.length * 6 + 3) (nI p)) (L.length * 6 + 4) (nI 0)) (L.length * 6 + 5) (nI s)) 48 (nI (L.length + 1)))))]) dX5_add_58 rfl rfl (rfl) (by omega) (by decide) (rfl) rfl ?_
  exact ret (upd (upd (upd (upd (upd (upd (upd g (L.length * 6) (nI a)) (L.length * 6 + 1) (nI w)) (L.length * 6 + 2) (nI v)) (L.length * 6 + 3) (nI p)) (L.length * 6 + 4) (nI 0)) (L.length * 6 + 5) (nI s)) 48 (nI (L.length + 1))) _ _ _ dX5_add_59 (rfl) (pgr_add hg h7 a w v p s)
