set_option maxHeartbeats 4000000 in
set_option maxRecDepth 100000 in
theorem d_flood (l : Launch) (D : va_G) (cI cZ cS : ClassId) (y : Nat) (zt : Int32) (mt : Nat) (ts : Nat) (pl : Nat) (W : Nat) (ll : Nat) (md : Nat) (ms : Nat) (rW : Nat) (mrd : Nat) (mrs : Nat) (mrp : Nat) (mp : Nat) (mb : Nat) (na : Nat) (mk : Nat) (mi : Nat) (sd : Int64) (m1 : Nat) (m2 : Nat) (m3 : Nat) (ml : Nat) (mf : Nat) (mw : Nat) (mn : Nat) (q : Nat) (g : Nat → Int32) (L : List Sg) (li : Nat) (ye : Int32) (br : Int32) (lf : Nat → Int32) (A : Nat) (fl : Nat) (hg : PGR g L li ye br) (hv : okL W A L) (hW4 : W ≤ 4) (hfl : fl < 256) (hA : A < 1000000) : CO l D (TY cI cZ cS) yX5_flood cX5_flood 4 none 1 28 0 0 [.ref y, .ref q, .int (nI fl)] [(y, .inr (5, [.int zt, .ref mt, .int (nI ts), .int (nI pl), .int (nI W), .int (nI ll), .ref md, .ref ms, .int (nI rW), .ref mrd, .ref mrs, .ref mrp, .ref mp, .ref mb, .int (nI na), .ref mk, .ref mi, .long sd, .ref m1, .ref m2, .ref m3, .ref ml, .ref mf, .ref mw, .ref mn])), (q, .inl (cI, 52, .inl g)), (ml, .inl (cI, 8, .inl lf))] (σ := (Nat → Int32) × (Nat → Int32)) (fun u => none) (fun u => [(y, .inr (5, [.int zt, .ref mt, .int (nI ts), .int (nI pl), .int (nI W), .int (nI ll), .ref md, .ref ms, .int (nI rW), .ref mrd, .ref mrs, .ref mrp, .ref mp, .ref mb, .int (nI na), .ref mk, .ref mi, .long sd, .ref m1, .ref m2, .ref m3, .ref ml, .ref mf, .ref mw, .ref mn])), (q, .inl (cI, 52, .inl u.1)), (ml, .inl (cI, 8, .inl u.2))]) (fun u => (PGR u.1 (floodL fl L) li ye br)) := by
  refine CO_mkv (by decide +kernel) (Nat.le_of_ble_eq_true rfl) (fun K ok ret => ?_)
  show XX K [(y, .inr (5, [.int zt, .ref mt, .int (nI ts), .int (nI pl), .int (nI W), .int (nI ll), .ref md, .ref ms, .int (nI rW), .ref mrd, .ref mrs, .ref mrp, .ref mp, .ref mb, .int (nI na), .ref mk, .ref mi, .long sd, .ref m1, .ref m2, .ref m3, .ref ml, .ref mf, .ref mw, .ref mn])), (q, .inl (cI, 52, .inl g)), (ml, .inl (cI, 8, .inl lf))] [(0, .ref y), (1, .ref q), (2, .int (nI fl))] 0 []
  have h8 := hv.1
  refine x_iconst ok (nI 0) dX5_flood_0 (by decide) ?_
  refine x_istore_n ok (lv' := [(3, .int (nI 0)), (0, .ref y), (1, .ref q), (2, .int (nI fl))]) dX5_flood_1 rfl (by decide) rfl ?_
  have L_2 : ∀ (n_2 : Nat) (i : Nat) (lf9 : Nat → Int32), L.length - i < n_2 → (i ≤ L.length) → (∀ j, j < i → lf9 j = nI (flo L fl j)) → XX K [(y, .inr (5, [.int zt, .ref mt, .int (nI ts), .int (nI pl), .int (nI W), .int (nI ll), .ref md, .ref ms, .int (nI rW), .ref mrd, .ref mrs, .ref mrp, .ref mp, .ref mb, .int (nI na), .ref mk, .ref mi, .long sd, .ref m1, .ref m2, .ref m3, .ref ml, .ref mf, .ref mw, .ref mn])), (q, .inl (cI, 52, .inl g)), (ml, .inl (cI, 8, .inl lf9))] [(3, .int (nI i)), (0, .ref y), (1, .ref q), (2, .int (nI fl))] 2 [] := by
    intro n_2
    induction n_2 with
    | zero => intro i lf9 hm; exact absurd hm (Nat.not_lt_zero _)
    | succ n_2 ih_2 =>
      intro i lf9 hm_2 hi hlf9
      refine x_iload_n ok 0 dX5_flood_2 rfl rfl ?_
      refine x_aload_n ok 2 dX5_flood_3 rfl rfl ?_
      refine x_bipush ok (nI 48) dX5_flood_4 (by decide) ?_
      refine x_iald ok 1 0 48 dX5_flood_6 rfl rfl (rfl) (by omega) (by decide) (nI L.length) (hg.2.1) ?_
      refine x_icmp_geN ok 42 dX5_flood_7 (by decide) (by omega) (by omega) (fun c_7 => ?_) (fun c_7 => ?_)
      · skip
        have e_i : L.length = i := by omega
        subst e_i
        refine x_aload_n ok 1 dX5_flood_42 rfl rfl ?_
        refine x_aload_n ok 2 dX5_flood_43 rfl rfl ?_
        refine x_bipush ok ((-9)) dX5_flood_44 (by decide) ?_
        refine x_iconst ok (nI 0) dX5_flood_46 (by decide) ?_
        refine x_eq (st' := [.int (bz false), .int (-9), .ref q, .ref y]) rfl rfl (rfl) ?_
        refine qX5_132 ok (As := [.ref q, .int (-9), .int (bz false)]) (st := []) 0 rfl (d_wear l D cI cZ cS y zt mt ts pl W ll md ms rW mrd mrs mrp mp mb na mk mi sd m1 m2 m3 ml mf mw mn q g L li ye br lf9 (flo L fl) A (-9) false 0 (by first | assumption | omega) (by first | assumption | omega) (hlf9) (fun j hj => by rw [flo]; split <;> omega) (rfl) (by first | assumption | omega)) rfl (Nat.le_of_ble_eq_true rfl) (Nat.le_of_ble_eq_true rfl) (Nat.le_of_ble_eq_true rfl) dX5_flood_47 [0, 1, 2] (by decide) rfl (ws' := fun u => [(y, .inr (5, [.int zt, .ref mt, .int (nI ts), .int (nI pl), .int (nI W), .int (nI ll), .ref md, .ref ms, .int (nI rW), .ref mrd, .ref mrs, .ref mrp, .ref mp, .ref mb, .int (nI na), .ref mk, .ref mi, .long sd, .ref m1, .ref m2, .ref m3, .ref ml, .ref mf, .ref mw, .ref mn])), (q, .inl (cI, 52, .inl u)), (ml, .inl (cI, 8, .inl lf9))]) (st' := fun u => [.int (wrN (flo L fl) L (-9) L.length)]) (fun _ => rfl) (fun _ => rfl) (fun _ => rfl) (fun u47 hu47 => ?_)
        obtain ⟨g247, rfl⟩ : ∃ z, z = u47 := ⟨_, rfl⟩
        have hg247 := hu47
        have hg247 : PGR g247 (low (flo L fl) 0 L L.length) li ye br := hg247
        show XX K [(y, .inr (5, [.int zt, .ref mt, .int (nI ts), .int (nI pl), .int (nI W), .int (nI ll), .ref md, .ref ms, .int (nI rW), .ref mrd, .ref mrs, .ref mrp, .ref mp, .ref mb, .int (nI na), .ref mk, .ref mi, .long sd, .ref m1, .ref m2, .ref m3, .ref ml, .ref mf, .ref mw, .ref mn])), (q, .inl (cI, 52, .inl g247)), (ml, .inl (cI, 8, .inl lf9))] [(3, .int (nI L.length)), (0, .ref y), (1, .ref q), (2, .int (nI fl))] 50 [.int (wrN (flo L fl) L (-9) L.length)]
        refine x_pop ok dX5_flood_50 rfl ?_
        exact ret (g247, lf9) _ _ _ dX5_flood_51 (rfl) (hg247)
      · skip
        obtain ⟨v0, v1, v2, v2b, v3, v4, v5⟩ := hv.2 i (by omega)
        refine x_aload_n ok 1 dX5_flood_10 rfl rfl ?_
        refine gX5_50 ok dX5_flood_11 0 rfl rfl ?_
        refine x_iload_n ok 0 dX5_flood_14 rfl rfl ?_
        refine x_iload_n ok 3 dX5_flood_15 rfl rfl ?_
        refine x_aload_n ok 2 dX5_flood_16 rfl rfl ?_
        refine x_bipush ok (nI 6) dX5_flood_17 (by decide) ?_
        refine x_iload_n ok 0 dX5_flood_19 rfl rfl ?_
        refine x_imul ok (nI (i * 6)) dX5_flood_20 (nN (pk_mul _ _) (by omega)) ?_
        refine x_iconst ok (nI 1) dX5_flood_21 (by decide) ?_
        refine x_iadd ok (nI (i * 6 + 1)) dX5_flood_22 (nN (nI_add _ _) (by omega)) ?_
        refine x_iald ok 1 0 (i * 6 + 1) dX5_flood_23 rfl rfl (rfl) (by omega) (by decide) (nI (sg L i 1)) (hg.1 i 1 (by omega) (by omega)) ?_
        refine qX5_125 ok (As := [.int (nI fl), .int (nI (sg L i 1))]) (st := [.int (nI i), .ref ml]) (d_has l D cI cZ cS fl (sg L i 1) (by first | assumption | omega) (by first | assumption | omega)) rfl (Nat.le_of_ble_eq_true rfl) (Nat.le_of_ble_eq_true rfl) (Nat.le_of_ble_eq_true rfl) dX5_flood_24 [] (by decide) rfl (ws' := fun u => [(y, .inr (5, [.int zt, .ref mt, .int (nI ts), .int (nI pl), .int (nI W), .int (nI ll), .ref md, .ref ms, .int (nI rW), .ref mrd, .ref mrs, .ref mrp, .ref mp, .ref mb, .int (nI na), .ref mk, .ref mi, .long sd, .ref m1, .ref m2, .ref m3, .ref ml, .ref mf, .ref mw, .ref mn])), (q, .inl (cI, 52, .inl g)), (ml, .inl (cI, 8, .inl lf9))]) (st' := fun u => [.int (bz (fl.testBit (sg L i 1))), .int (nI i), .ref ml]) (fun _ => rfl) (fun _ => rfl) (fun _ => rfl) (fun _ _ => ?_)
        have J_35 : ∀ (v35_1 : Nat), v35_1 = (if fl.testBit (sg L i 1) = true then 3 else 0) → XX K [(y, .inr (5, [.int zt, .ref mt, .int (nI ts), .int (nI pl), .int (nI W), .int (nI ll), .ref md, .ref ms, .int (nI rW), .ref mrd, .ref mrs, .ref mrp, .ref mp, .ref mb, .int (nI na), .ref mk, .ref mi, .long sd, .ref m1, .ref m2, .ref m3, .ref ml, .ref mf, .ref mw, .ref mn])), (q, .inl (cI, 52, .inl g)), (ml, .inl (cI, 8, .inl lf9))] [(3, .int (nI i)), (0, .ref y), (1, .ref q), (2, .int (nI fl))] 35 [.int (nI v35_1), .int (nI i), .ref ml] := by
          intro v35_1 e_v35_1
          refine x_iast ok 2 0 i (ws' := [(y, .inr (5, [.int zt, .ref mt, .int (nI ts), .int (nI pl), .int (nI W), .int (nI ll), .ref md, .ref ms, .int (nI rW), .ref mrd, .ref mrs, .ref mrp, .ref mp, .ref mb, .int (nI na), .ref mk, .ref mi, .long sd, .ref m1, .ref m2, .ref m3, .ref ml, .ref mf, .ref mw, .ref mn])), (q, .inl (cI, 52, .inl g)), (ml, .inl (cI, 8, .inl (upd lf9 i (nI v35_1))))]) dX5_flood_35 rfl rfl (rfl) (by omega) (by decide) (rfl) rfl ?_
          refine x_iinc ok (v := nI (i + 1)) (lv' := [(3, .int (nI (i + 1))), (0, .ref y), (1, .ref q), (2, .int (nI fl))]) dX5_flood_36 0 rfl (nN (nI_inc _ 1) (by omega)) (by decide) rfl ?_
          refine x_goto ok 2 dX5_flood_39 (by decide) ?_
          exact ih_2 (i + 1) (upd lf9 i (nI v35_1)) (by omega) (by first | assumption | omega) (fun j hj => by rcases Nat.lt_or_ge j i with q | q; (rw [upd_n (by omega)]; exact hlf9 j q); (rw [show j = i by omega, upd_s, e_v35_1, flo]))
        refine x_if_eqB ok 34 dX5_flood_27 (by decide) (fun c_27 => ?_) (fun c_27 => ?_)
        · skip
          refine x_iconst ok (nI 0) dX5_flood_34 (by decide) ?_
          exact J_35 0 (by first | rfl | (simp only [if_neg c_27]; done) | (simp [c_27]; done))
        · skip
          refine x_iconst ok (nI 3) dX5_flood_30 (by decide) ?_
          refine x_goto ok 35 dX5_flood_31 (by decide) ?_
          exact J_35 3 (by first | rfl | (simp only [if_pos c_27]; done) | (simp [c_27]; done))
  exact L_2 _ 0 lf (Nat.lt_succ_self _) (by first | assumption | omega) (fun j hj => absurd hj (Nat.not_lt_zero j))

set_option maxHeartbeats 4000000 in
set_option maxRecDepth 100000 in
theorem d_divisor (l : Launch) (D : va_G) (cI cZ cS : ClassId) (a : Nat) (b : Nat) (ha : a < 2 ^ 31) (hb : b < 2 ^ 31) : CO l D (TY cI cZ cS) yX5_divisor cX5_divisor 5 (some .int) 0 0 0 0 [.int (nI a), .int (nI b)] [] (σ := Unit) (fun u => some (.int (nI (Nat.gcd a b)))) (fun u => []) (fun u => True) := by
  refine CO_mki (by decide +kernel) (Nat.le_of_ble_eq_true rfl) (fun K ok ret => ?_)
  show XX K [] [(0, .int (nI a)), (1, .int (nI b))] 0 []
  refine x_iload_n ok 0 dX5_divisor_0 rfl rfl ?_
  refine x_istore_n ok (lv' := [(2, .int (nI a)), (0, .int (nI a)), (1, .int (nI b))]) dX5_divisor_1 rfl (by decide) rfl ?_
  refine x_iload_n ok 2 dX5_divisor_2 rfl rfl ?_
  refine x_istore_n ok (lv' := [(3, .int (nI b)), (2, .int (nI a)), (0, .int (nI a)), (1, .int (nI b))]) dX5_divisor_3 rfl (by decide) rfl ?_
  have L_4 : ∀ (n_4 : Nat) (u : Nat) (v : Nat), v < n_4 → (u < 2 ^ 31) → (v < 2 ^ 31) → (Nat.gcd u v = Nat.gcd a b) → XX K [] [(3, .int (nI v)), (2, .int (nI u)), (0, .int (nI a)), (1, .int (nI b))] 4 [] := by
    intro n_4
    induction n_4 with
    | zero => intro u v hm; exact absurd hm (Nat.not_lt_zero _)
    | succ n_4 ih_4 =>
      intro u v hm_4 hu hv hg
      refine x_iload_n ok 0 dX5_divisor_4 rfl rfl ?_
      refine x_if_eqN ok 21 dX5_divisor_5 (by decide) (by omega) (fun c_5 => ?_) (fun c_5 => ?_)
      · skip
        refine x_iload_n ok 1 dX5_divisor_21 rfl rfl ?_
        exact ret () _ _ _ (nI u) dX5_divisor_22 (rfl) (by rw [← hg, c_5, Nat.gcd_zero_right]) (trivial)
      · skip
        refine x_iload_n ok 1 dX5_divisor_8 rfl rfl ?_
        refine x_iload_n ok 0 dX5_divisor_9 rfl rfl ?_
        refine x_irem ok (nI (u % v)) dX5_divisor_10 (fun z => c_5 ((nI_eq0 _ (by omega)).mp z)) (pk_rem (by omega) (by omega) (by omega)) ?_
        refine x_istore ok (lv' := [(4, .int (nI (u % v))), (3, .int (nI v)), (2, .int (nI u)), (0, .int (nI a)), (1, .int (nI b))]) dX5_divisor_11 (by decide) rfl ?_
        refine x_iload_n ok 1 dX5_divisor_13 rfl rfl ?_
        refine x_istore_n ok (lv' := [(2, .int (nI v)), (4, .int (nI (u % v))), (3, .int (nI v)), (0, .int (nI a)), (1, .int (nI b))]) dX5_divisor_14 rfl (by decide) rfl ?_
        refine x_iload ok 1 dX5_divisor_15 rfl ?_
        refine x_istore_n ok (lv' := [(3, .int (nI (u % v))), (2, .int (nI v)), (4, .int (nI (u % v))), (0, .int (nI a)), (1, .int (nI b))]) dX5_divisor_17 rfl (by decide) rfl ?_
        refine x_goto ok 4 dX5_divisor_18 (by decide) ?_
        refine x_loc ok [0, 1, 3, 4] (lv' := [(3, .int (nI (u % v))), (2, .int (nI v)), (0, .int (nI a)), (1, .int (nI b))]) rfl ?_
        exact ih_4 v (u % v) (by have := Nat.mod_lt u (Nat.pos_of_ne_zero c_5); omega) (by first | assumption | omega) (Nat.lt_of_le_of_lt (Nat.mod_le _ _) hu) (by rw [← hg, Nat.gcd_comm u v, Nat.gcd_rec v u, Nat.gcd_comm v (u % v)])
  exact L_4 _ a b (Nat.lt_succ_self _) (by first | assumption | omega) (by first | assumption | omega) (rfl)

set_option maxHeartbeats 4000000 in
set_option maxRecDepth 100000 in
theorem e_rain (l : Launch) (D : va_G) (cI cZ cS : ClassId) (y : Nat) (zt : Int32) (mt : Nat) (ts : Nat) (pl : Nat) (W : Nat) (ll : Nat) (md : Nat) (ms : Nat) (rW : Nat) (mrd : Nat) (mrs : Nat) (mrp : Nat) (mp : Nat) (mb : Nat) (na : Nat) (mk : Nat) (mi : Nat) (sd : Int64) (m1 : Nat) (m2 : Nat) (m3 : Nat) (ml : Nat) (mf : Nat) (mw : Nat) (mn : Nat) (g : Nat → Int32) (L : List Sg) (li : Nat) (ye : Int32) (br : Int32) (A : Nat) (of : Nat → Int32) (lf : Nat → Int32) (z : Int32) (z2 : Int32) (up : Bool) (hg : PGR g L li ye br) (hv : okL W A L) (hW4 : W ≤ 4) (hlW : li < 2 ^ W) (hA : A < 900000) : CO l D (TY cI cZ cS) yX5_rain cX5_rain 9 (some .int) 2 51 0 0 [.ref y, .int z, .int z2, .int (bz up)] [(y, .inr (5, [.int zt, .ref mt, .int (nI ts), .int (nI pl), .int (nI W), .int (nI ll), .ref md, .ref ms, .int (nI rW), .ref mrd, .ref mrs, .ref mrp, .ref mp, .ref mb, .int (nI na), .ref mk, .ref mi, .long sd, .ref m1, .ref m2, .ref m3, .ref ml, .ref mf, .ref mw, .ref mn])), (mp, .inl (cI, 52, .inl g)), (m1, .inl (cI, 52, .inl of)), (ml, .inl (cI, 8, .inl lf))] (σ := (Nat → Int32) × (Nat → Int32)) (fun u => some (.int (rainI W li L z z2 up))) (fun u => [(y, .inr (5, [.int (nI 0), .ref mt, .int (nI ts), .int (nI pl), .int (nI W), .int (nI ll), .ref md, .ref ms, .int (nI rW), .ref mrd, .ref mrs, .ref mrp, .ref mp, .ref mb, .int (nI na), .ref mk, .ref mi, .long sd, .ref m1, .ref m2, .ref m3, .ref ml, .ref mf, .ref mw, .ref mn])), (mp, .inl (cI, 52, .inl g)), (m1, .inl (cI, 52, .inl u.1)), (ml, .inl (cI, 8, .inl u.2))]) (fun u => True) := by
  refine CO_mki (by decide +kernel) (Nat.le_of_ble_eq_true rfl) (fun K ok ret => ?_)
  show XX K [(y, .inr (5, [.int zt, .ref mt, .int (nI ts), .int (nI pl), .int (nI W), .int (nI ll), .ref md, .ref ms, .int (nI rW), .ref mrd, .ref mrs, .ref mrp, .ref mp, .ref mb, .int (nI na), .ref mk, .ref mi, .long sd, .ref m1, .ref m2, .ref m3, .ref ml, .ref mf, .ref mw, .ref mn])), (mp, .inl (cI, 52, .inl g)), (m1, .inl (cI, 52, .inl of)), (ml, .inl (cI, 8, .inl lf))] [(0, .ref y), (1, .int z), (2, .int z2), (3, .int (bz up))] 0 []
  have h8 := hv.1
  have hp16 : 2 ^ W ≤ 16 := (Nat.pow_le_pow_right (by omega) hW4 : 2 ^ W ≤ 2 ^ 4)
  have hp1 : 1 ≤ 2 ^ W := Nat.one_le_two_pow
  have ht4 : 10 ^ W ≤ 10 ^ 4 := Nat.pow_le_pow_right (by omega) hW4
  refine x_aload_n ok 0 dX5_rain_0 rfl rfl ?_
  refine x_iconst ok (nI 0) dX5_rain_1 (by decide) ?_
  refine pX5_62 ok dX5_rain_2 0 rfl rfl rfl (Nat.le_of_ble_eq_true rfl) (ws' := [(y, .inr (5, [.int (nI 0), .ref mt, .int (nI ts), .int (nI pl), .int (nI W), .int (nI ll), .ref md, .ref ms, .int (nI rW), .ref mrd, .ref mrs, .ref mrp, .ref mp, .ref mb, .int (nI na), .ref mk, .ref mi, .long sd, .ref m1, .ref m2, .ref m3, .ref ml, .ref mf, .ref mw, .ref mn])), (mp, .inl (cI, 52, .inl g)), (m1, .inl (cI, 52, .inl of)), (ml, .inl (cI, 8, .inl lf))]) rfl ?_
  refine x_iload_n ok 1 dX5_rain_5 rfl rfl ?_
  refine qX5_163 ok (As := [.int z]) (st := []) (d_noLaw l D cI cZ cS z ) rfl (Nat.le_of_ble_eq_true rfl) (Nat.le_of_ble_eq_true rfl) (Nat.le_of_ble_eq_true rfl) dX5_rain_6 [] (by decide) rfl (ws' := fun u => [(y, .inr (5, [.int (nI 0), .ref mt, .int (nI ts), .int (nI pl), .int (nI W), .int (nI ll), .ref md, .ref ms, .int (nI rW), .ref mrd, .ref mrs, .ref mrp, .ref mp, .ref mb, .int (nI na), .ref mk, .ref mi, .long sd, .ref m1, .ref m2, .ref m3, .ref ml, .ref mf, .ref mw, .ref mn])), (mp, .inl (cI, 52, .inl g)), (m1, .inl (cI, 52, .inl of)), (ml, .inl (cI, 8, .inl lf))]) (st' := fun u => [.int (bz (!inB z (nI 0) (nI 5)))]) (fun _ => rfl) (fun _ => rfl) (fun _ => rfl) (fun _ _ => ?_)
  refine x_if_neB ok 24 dX5_rain_9 (by decide) (fun c_9 => ?_) (fun c_9 => ?_)
  · skip
    have hh : ¬ inB z (nI 0) (nI 5) = true := by simpa using c_9
    refine x_bipush ok ((-2)) dX5_rain_24 (by decide) ?_
    exact ret (of, lf) _ _ _ ((-2)) dX5_rain_26 (rfl) (by rw [rainI, if_neg (fun x => hh x.1)]) (trivial)
  · skip
    have hh : inB z (nI 0) (nI 5) = true := by simpa using c_9
    obtain ⟨j, hj0, hj, e_z⟩ := inB_t (by omega) (by omega) hh
    subst e_z
    have ej := cl_n (show j < 2 ^ 31 by omega)
    refine x_iload_n ok 2 dX5_rain_12 rfl rfl ?_
    refine x_i2l ok ((z2).toInt64) dX5_rain_13 rfl ?_
    refine x_lconst ok ((nI 0).toInt64) dX5_rain_14 (by decide) ?_
    refine x_ldc2v ok KX5_185 (v' := (nI 10).toInt64) (by decide) dX5_rain_15 ?_
    refine qX5_69 ok (As := [.long ((z2).toInt64), .long ((nI 0).toInt64), .long ((nI 10).toInt64)]) (st := []) (d_in l D cI cZ cS z2 (nI 0) (nI 10) ) rfl (Nat.le_of_ble_eq_true rfl) (Nat.le_of_ble_eq_true rfl) (Nat.le_of_ble_eq_true rfl) dX5_rain_18 [] (by decide) rfl (ws' := fun u => [(y, .inr (5, [.int (nI 0), .ref mt, .int (nI ts), .int (nI pl), .int (nI W), .int (nI ll), .ref md, .ref ms, .int (nI rW), .ref mrd, .ref mrs, .ref mrp, .ref mp, .ref mb, .int (nI na), .ref mk, .ref mi, .long sd, .ref m1, .ref m2, .ref m3, .ref ml, .ref mf, .ref mw, .ref mn])), (mp, .inl (cI, 52, .inl g)), (m1, .inl (cI, 52, .inl of)), (ml, .inl (cI, 8, .inl lf))]) (st' := fun u => [.int (bz (inB z2 (nI 0) (nI 10)))]) (fun _ => rfl) (fun _ => rfl) (fun _ => rfl) (fun _ _ => ?_)
    refine x_if_neB ok 27 dX5_rain_21 (by decide) (fun c_21 => ?_) (fun c_21 => ?_)
    · skip
      obtain ⟨q, hq0, hq, e_z2⟩ := inB_t (by omega) (by omega) c_21
      subst e_z2
      have eq := cl_n (show q < 2 ^ 31 by omega)
      refine x_iconst ok (nI 0) dX5_rain_27 (by decide) ?_
      refine x_istore ok (lv' := [(4, .int (nI 0)), (0, .ref y), (1, .int (nI j)), (2, .int (nI q)), (3, .int (bz up))]) dX5_rain_28 (by decide) rfl ?_
      refine x_iconst ok (nI 1) dX5_rain_30 (by decide) ?_
      refine x_istore ok (lv' := [(5, .int (nI 1)), (4, .int (nI 0)), (0, .ref y), (1, .int (nI j)), (2, .int (nI q)), (3, .int (bz up))]) dX5_rain_31 (by decide) rfl ?_
      refine x_iconst ok (nI 0) dX5_rain_33 (by decide) ?_
      refine x_istore ok (lv' := [(6, .int (nI 0)), (5, .int (nI 1)), (4, .int (nI 0)), (0, .ref y), (1, .int (nI j)), (2, .int (nI q)), (3, .int (bz up))]) dX5_rain_34 (by decide) rfl ?_
      have L_36 : ∀ (n_36 : Nat) (w : Nat), W - w < n_36 → (w ≤ W) → XX K [(y, .inr (5, [.int (nI 0), .ref mt, .int (nI ts), .int (nI pl), .int (nI W), .int (nI ll), .ref md, .ref ms, .int (nI rW), .ref mrd, .ref mrs, .ref mrp, .ref mp, .ref mb, .int (nI na), .ref mk, .ref mi, .long sd, .ref m1, .ref m2, .ref m3, .ref ml, .ref mf, .ref mw, .ref mn])), (mp, .inl (cI, 52, .inl g)), (m1, .inl (cI, 52, .inl of)), (ml, .inl (cI, 8, .inl lf))] [(6, .int (nI w)), (5, .int (nI (allN li w))), (4, .int (nI 0)), (0, .ref y), (1, .int (nI j)), (2, .int (nI q)), (3, .int (bz up))] 36 [] := by
        intro n_36
        induction n_36 with
        | zero => intro w hm; exact absurd hm (Nat.not_lt_zero _)
        | succ n_36 ih_36 =>
          intro w hm_36 hw
          refine x_iload ok 0 dX5_rain_36 rfl ?_
          refine x_aload_n ok 3 dX5_rain_38 rfl rfl ?_
          refine gX5_66 ok dX5_rain_39 0 rfl rfl ?_
          refine x_icmp_geN ok 77 dX5_rain_42 (by decide) (by omega) (by omega) (fun c_42 => ?_) (fun c_42 => ?_)
          · skip
            have e_w : W = w := by omega
            subst e_w
            refine x_iconst ok (nI 0) dX5_rain_77 (by decide) ?_
            refine x_istore ok (lv' := [(6, .int (nI 0)), (5, .int (nI (allN li W))), (4, .int (nI 0)), (0, .ref y), (1, .int (nI j)), (2, .int (nI q)), (3, .int (bz up))]) dX5_rain_78 (by decide) rfl ?_
            have L_80 : ∀ (n_80 : Nat) (s : Nat) (o9 : Nat → Int32) (l9 : Nat → Int32), 2 ^ W - s < n_80 → (s ≤ 2 ^ W) → XX K [(y, .inr (5, [.int (nI 0), .ref mt, .int (nI ts), .int (nI pl), .int (nI W), .int (nI ll), .ref md, .ref ms, .int (nI rW), .ref mrd, .ref mrs, .ref mrp, .ref mp, .ref mb, .int (nI na), .ref mk, .ref mi, .long sd, .ref m1, .ref m2, .ref m3, .ref ml, .ref mf, .ref mw, .ref mn])), (mp, .inl (cI, 52, .inl g)), (m1, .inl (cI, 52, .inl o9)), (ml, .inl (cI, 8, .inl l9))] [(6, .int (nI s)), (5, .int (nI (allN li W))), (4, .int (nI (rsN li q W L j s))), (0, .ref y), (1, .int (nI j)), (2, .int (nI q)), (3, .int (bz up))] 80 [] := by
              intro n_80
              induction n_80 with
              | zero => intro s o9 l9 hm; exact absurd hm (Nat.not_lt_zero _)
              | succ n_80 ih_80 =>
                intro s o9 l9 hm_80 hs
                refine x_iload ok 0 dX5_rain_80 rfl ?_
                refine x_iconst ok (nI 1) dX5_rain_82 (by decide) ?_
                refine x_aload_n ok 3 dX5_rain_83 rfl rfl ?_
                refine gX5_66 ok dX5_rain_84 0 rfl rfl ?_
                refine x_ishl ok (nI (2 ^ W)) dX5_rain_87 (shl1 W (by omega)) ?_
                refine x_icmp_geN ok 219 dX5_rain_88 (by decide) (by omega) (by omega) (fun c_88 => ?_) (fun c_88 => ?_)
                · skip
                  have e_s : 2 ^ W = s := by omega
                  subst e_s
                  have hrs := rsN_b (li := li) (W := W) (n := 2 ^ W) (a := j) (L := L) hq
                  have hal := allN_b (li := li) (W := W)
                  have hm : 2 ^ W * 10 ^ W ≤ 16 * 10 ^ 4 := Nat.mul_le_mul hp16 ht4
                  have hgp := Nat.gcd_pos_of_pos_right (rsN li q W L j (2 ^ W)) hal.1
                  have hgl := Nat.gcd_le_right (rsN li q W L j (2 ^ W)) hal.1
                  refine x_iload ok 2 dX5_rain_219 rfl ?_
                  refine x_iload ok 1 dX5_rain_221 rfl ?_
                  refine qX5_190 ok (As := [.int (nI (rsN li q W L j (2 ^ W))), .int (nI (allN li W))]) (st := []) (d_divisor l D cI cZ cS (rsN li q W L j (2 ^ W)) (allN li W) (by first | assumption | omega) (by first | assumption | omega)) rfl (Nat.le_of_ble_eq_true rfl) (Nat.le_of_ble_eq_true rfl) (Nat.le_of_ble_eq_true rfl) dX5_rain_223 [] (by decide) rfl (ws' := fun u => [(y, .inr (5, [.int (nI 0), .ref mt, .int (nI ts), .int (nI pl), .int (nI W), .int (nI ll), .ref md, .ref ms, .int (nI rW), .ref mrd, .ref mrs, .ref mrp, .ref mp, .ref mb, .int (nI na), .ref mk, .ref mi, .long sd, .ref m1, .ref m2, .ref m3, .ref ml, .ref mf, .ref mw, .ref mn])), (mp, .inl (cI, 52, .inl g)), (m1, .inl (cI, 52, .inl o9)), (ml, .inl (cI, 8, .inl l9))]) (st' := fun u => [.int (nI (Nat.gcd (rsN li q W L j (2 ^ W)) (allN li W)))]) (fun _ => rfl) (fun _ => rfl) (fun _ => rfl) (fun _ _ => ?_)
                  obtain ⟨gg, e_gg⟩ : ∃ y : Nat, y = Nat.gcd (rsN li q W L j (2 ^ W)) (allN li W) := ⟨_, rfl⟩
                  rw [← e_gg]
                  refine x_istore ok (lv' := [(6, .int (nI gg)), (5, .int (nI (allN li W))), (4, .int (nI (rsN li q W L j (2 ^ W)))), (0, .ref y), (1, .int (nI j)), (2, .int (nI q)), (3, .int (bz up))]) dX5_rain_226 (by decide) rfl ?_
                  have hgp2 : 0 < gg := by rw [e_gg]; exact hgp
                  have hgl2 : gg ≤ allN li W := by rw [e_gg]; exact hgl
                  refine x_iload_n ok 6 dX5_rain_228 rfl rfl ?_
                  refine x_if_eqB ok 240 dX5_rain_229 (by decide) (fun c_229 => ?_) (fun c_229 => ?_)
                  · skip
                    refine x_iload ok 1 dX5_rain_240 rfl ?_
                    refine x_iload ok 0 dX5_rain_242 rfl ?_
                    refine x_idiv ok (nI (allN li W / gg)) dX5_rain_244 (fun z => by have := (nI_eq0 _ (by omega)).mp z; omega) (pk_div (by omega) (by omega) (by omega)) ?_
                    exact ret (o9, l9) _ _ _ (nI (allN li W / gg)) dX5_rain_245 (rfl) (by rw [← rain_end hv hq hj, if_neg c_229, e_gg]) (trivial)
                  · skip
                    refine x_iload ok 2 dX5_rain_232 rfl ?_
                    refine x_iload ok 0 dX5_rain_234 rfl ?_
                    refine x_idiv ok (nI (rsN li q W L j (2 ^ W) / gg)) dX5_rain_236 (fun z => by have := (nI_eq0 _ (by omega)).mp z; omega) (pk_div (by omega) (by omega) (by omega)) ?_
                    refine x_goto ok 245 dX5_rain_237 (by decide) ?_
                    exact ret (o9, l9) _ _ _ (nI (rsN li q W L j (2 ^ W) / gg)) dX5_rain_245 (rfl) (by rw [← rain_end hv hq hj, if_pos c_229, e_gg]) (trivial)
                · skip
                  refine x_iload ok 0 dX5_rain_91 rfl ?_
                  refine x_aload_n ok 3 dX5_rain_93 rfl rfl ?_
                  refine gX5_28 ok dX5_rain_94 0 rfl rfl ?_
                  refine x_bipush ok (nI 49) dX5_rain_97 (by decide) ?_
                  refine x_iald ok 1 0 49 dX5_rain_99 rfl rfl (rfl) (by omega) (by decide) (nI li) (hg.2.2.1) ?_
                  refine x_iand ok (nI (s &&& li)) dX5_rain_100 (fa_and _ _) ?_
                  refine x_if_neN ok 213 dX5_rain_101 (by decide) (by have := (Nat.and_le_left : s &&& li ≤ s); omega) (fun c_101 => ?_) (fun c_101 => ?_)
                  · skip
                    refine x_iinc ok (v := nI (s + 1)) (lv' := [(6, .int (nI (s + 1))), (5, .int (nI (allN li W))), (4, .int (nI (rsN li q W L j s))), (0, .ref y), (1, .int (nI j)), (2, .int (nI q)), (3, .int (bz up))]) dX5_rain_213 0 rfl (nN (nI_inc _ 1) (by omega)) (by decide) rfl ?_
                    refine x_goto ok 80 dX5_rain_216 (by decide) ?_
                    have em : rsN li q W L j s = rsN li q W L j (s + 1) := by
                      show _ = rsN li q W L j s + rsT li q W L j s
                      rw [rsT, if_neg c_101, Nat.add_zero]
                    rw [em]
                    exact ih_80 (s + 1) o9 l9 (by omega) (by first | assumption | omega)
                  · skip
                    refine x_iconst ok (nI 1) dX5_rain_104 (by decide) ?_
                    refine x_istore ok (lv' := [(7, .int (nI 1)), (6, .int (nI s)), (5, .int (nI (allN li W))), (4, .int (nI (rsN li q W L j s))), (0, .ref y), (1, .int (nI j)), (2, .int (nI q)), (3, .int (bz up))]) dX5_rain_105 (by decide) rfl ?_
                    refine x_iconst ok (nI 0) dX5_rain_107 (by decide) ?_
                    refine x_istore ok (lv' := [(8, .int (nI 0)), (7, .int (nI 1)), (6, .int (nI s)), (5, .int (nI (allN li W))), (4, .int (nI (rsN li q W L j s))), (0, .ref y), (1, .int (nI j)), (2, .int (nI q)), (3, .int (bz up))]) dX5_rain_108 (by decide) rfl ?_
                    have L_110 : ∀ (n_110 : Nat) (w : Nat), W - w < n_110 → (w ≤ W) → XX K [(y, .inr (5, [.int (nI 0), .ref mt, .int (nI ts), .int (nI pl), .int (nI W), .int (nI ll), .ref md, .ref ms, .int (nI rW), .ref mrd, .ref mrs, .ref mrp, .ref mp, .ref mb, .int (nI na), .ref mk, .ref mi, .long sd, .ref m1, .ref m2, .ref m3, .ref ml, .ref mf, .ref mw, .ref mn])), (mp, .inl (cI, 52, .inl g)), (m1, .inl (cI, 52, .inl o9)), (ml, .inl (cI, 8, .inl l9))] [(8, .int (nI w)), (7, .int (nI (byN li q s w))), (6, .int (nI s)), (5, .int (nI (allN li W))), (4, .int (nI (rsN li q W L j s))), (0, .ref y), (1, .int (nI j)), (2, .int (nI q)), (3, .int (bz up))] 110 [] := by
                      intro n_110
                      induction n_110 with
                      | zero => intro w hm; exact absurd hm (Nat.not_lt_zero _)
                      | succ n_110 ih_110 =>
                        intro w hm_110 hw
                        refine x_iload ok 0 dX5_rain_110 rfl ?_
                        refine x_aload_n ok 5 dX5_rain_112 rfl rfl ?_
                        refine gX5_66 ok dX5_rain_113 0 rfl rfl ?_
                        refine x_icmp_geN ok 167 dX5_rain_116 (by decide) (by omega) (by omega) (fun c_116 => ?_) (fun c_116 => ?_)
                        · skip
                          have e_w : W = w := by omega
                          subst e_w
                          refine x_aload_n ok 5 dX5_rain_167 rfl rfl ?_
                          refine gX5_28 ok dX5_rain_168 0 rfl rfl ?_
                          refine x_aload_n ok 5 dX5_rain_171 rfl rfl ?_
                          refine gX5_41 ok dX5_rain_172 0 rfl rfl ?_
                          refine qX5_159 ok (As := [.ref mp, .ref m1]) (st := []) (d_copy l D cI cZ cS mp g L li ye br m1 o9 (by first | assumption | omega) (by first | assumption | omega)) rfl (Nat.le_of_ble_eq_true rfl) (Nat.le_of_ble_eq_true rfl) (Nat.le_of_ble_eq_true rfl) dX5_rain_175 [1, 2] (by decide) rfl (ws' := fun u => [(y, .inr (5, [.int (nI 0), .ref mt, .int (nI ts), .int (nI pl), .int (nI W), .int (nI ll), .ref md, .ref ms, .int (nI rW), .ref mrd, .ref mrs, .ref mrp, .ref mp, .ref mb, .int (nI na), .ref mk, .ref mi, .long sd, .ref m1, .ref m2, .ref m3, .ref ml, .ref mf, .ref mw, .ref mn])), (mp, .inl (cI, 52, .inl g)), (m1, .inl (cI, 52, .inl u)), (ml, .inl (cI, 8, .inl l9))]) (st' := fun u => []) (fun _ => rfl) (fun _ => rfl) (fun _ => rfl) (fun u175 hu175 => ?_)
                          obtain ⟨g2175, rfl⟩ : ∃ z, z = u175 := ⟨_, rfl⟩
                          have hg2175 := hu175
                          have hg2175 : PGR g2175 L li ye br := hg2175
                          show XX K [(y, .inr (5, [.int (nI 0), .ref mt, .int (nI ts), .int (nI pl), .int (nI W), .int (nI ll), .ref md, .ref ms, .int (nI rW), .ref mrd, .ref mrs, .ref mrp, .ref mp, .ref mb, .int (nI na), .ref mk, .ref mi, .long sd, .ref m1, .ref m2, .ref m3, .ref ml, .ref mf, .ref mw, .ref mn])), (mp, .inl (cI, 52, .inl g)), (m1, .inl (cI, 52, .inl g2175)), (ml, .inl (cI, 8, .inl l9))] [(8, .int (nI W)), (7, .int (nI (byN li q s W))), (6, .int (nI s)), (5, .int (nI (allN li W))), (4, .int (nI (rsN li q W L j s))), (0, .ref y), (1, .int (nI j)), (2, .int (nI q)), (3, .int (bz up))] 178 []
                          refine x_aload_n ok 5 dX5_rain_178 rfl rfl ?_
                          refine x_aload_n ok 5 dX5_rain_179 rfl rfl ?_
                          refine gX5_41 ok dX5_rain_180 0 rfl rfl ?_
                          refine x_iload ok 2 dX5_rain_183 rfl ?_
                          refine qX5_187 ok (As := [.ref m1, .int (nI s)]) (st := []) 0 rfl (d_flood l D cI cZ cS y (nI 0) mt ts pl W ll md ms rW mrd mrs mrp mp mb na mk mi sd m1 m2 m3 ml mf mw mn m1 g2175 L li ye br l9 A s (hg2175) (by first | assumption | omega) (by first | assumption | omega) (by first | assumption | omega) (by first | assumption | omega)) rfl (Nat.le_of_ble_eq_true rfl) (Nat.le_of_ble_eq_true rfl) (Nat.le_of_ble_eq_true rfl) dX5_rain_185 [0, 2, 3] (by decide) rfl (ws' := fun u => [(y, .inr (5, [.int (nI 0), .ref mt, .int (nI ts), .int (nI pl), .int (nI W), .int (nI ll), .ref md, .ref ms, .int (nI rW), .ref mrd, .ref mrs, .ref mrp, .ref mp, .ref mb, .int (nI na), .ref mk, .ref mi, .long sd, .ref m1, .ref m2, .ref m3, .ref ml, .ref mf, .ref mw, .ref mn])), (mp, .inl (cI, 52, .inl g)), (m1, .inl (cI, 52, .inl u.1)), (ml, .inl (cI, 8, .inl u.2))]) (st' := fun u => []) (fun _ => rfl) (fun _ => rfl) (fun _ => rfl) (fun u185 hu185 => ?_)
                          obtain ⟨g2185, lf2185⟩ := u185
                          have hg2185 := hu185
                          have hg2185 : PGR g2185 (floodL s L) li ye br := hg2185
                          show XX K [(y, .inr (5, [.int (nI 0), .ref mt, .int (nI ts), .int (nI pl), .int (nI W), .int (nI ll), .ref md, .ref ms, .int (nI rW), .ref mrd, .ref mrs, .ref mrp, .ref mp, .ref mb, .int (nI na), .ref mk, .ref mi, .long sd, .ref m1, .ref m2, .ref m3, .ref ml, .ref mf, .ref mw, .ref mn])), (mp, .inl (cI, 52, .inl g)), (m1, .inl (cI, 52, .inl g2185)), (ml, .inl (cI, 8, .inl lf2185))] [(8, .int (nI W)), (7, .int (nI (byN li q s W))), (6, .int (nI s)), (5, .int (nI (allN li W))), (4, .int (nI (rsN li q W L j s))), (0, .ref y), (1, .int (nI j)), (2, .int (nI q)), (3, .int (bz up))] 188 []
                          refine x_iload ok 4 dX5_rain_188 rfl ?_
                          refine x_aload_n ok 5 dX5_rain_190 rfl rfl ?_
                          refine gX5_41 ok dX5_rain_191 0 rfl rfl ?_
                          refine qX5_106 ok (As := [.ref m1]) (st := [.int (nI (rsN li q W L j s))]) (d_lawsOf l D cI cZ cS m1 g2185 (floodL s L) li ye br W A (hg2185) (flood_ok hv)) rfl (Nat.le_of_ble_eq_true rfl) (Nat.le_of_ble_eq_true rfl) (Nat.le_of_ble_eq_true rfl) dX5_rain_194 [2] (by decide) rfl (ws' := fun u => [(y, .inr (5, [.int (nI 0), .ref mt, .int (nI ts), .int (nI pl), .int (nI W), .int (nI ll), .ref md, .ref ms, .int (nI rW), .ref mrd, .ref mrs, .ref mrp, .ref mp, .ref mb, .int (nI na), .ref mk, .ref mi, .long sd, .ref m1, .ref m2, .ref m3, .ref ml, .ref mf, .ref mw, .ref mn])), (mp, .inl (cI, 52, .inl g)), (m1, .inl (cI, 52, .inl g2185)), (ml, .inl (cI, 8, .inl lf2185))]) (st' := fun u => [.int (nI (lawsN (floodL s L))), .int (nI (rsN li q W L j s))]) (fun _ => rfl) (fun _ => rfl) (fun _ => rfl) (fun _ _ => ?_)
                          refine x_iload_n ok 6 dX5_rain_197 rfl rfl ?_
                          refine qX5_125 ok (As := [.int (nI (lawsN (floodL s L))), .int (nI j)]) (st := [.int (nI (rsN li q W L j s))]) (d_has l D cI cZ cS (lawsN (floodL s L)) j (by have := lawsN_lt (flood_ok (fl := s) hv); omega) (by first | assumption | omega)) rfl (Nat.le_of_ble_eq_true rfl) (Nat.le_of_ble_eq_true rfl) (Nat.le_of_ble_eq_true rfl) dX5_rain_198 [] (by decide) rfl (ws' := fun u => [(y, .inr (5, [.int (nI 0), .ref mt, .int (nI ts), .int (nI pl), .int (nI W), .int (nI ll), .ref md, .ref ms, .int (nI rW), .ref mrd, .ref mrs, .ref mrp, .ref mp, .ref mb, .int (nI na), .ref mk, .ref mi, .long sd, .ref m1, .ref m2, .ref m3, .ref ml, .ref mf, .ref mw, .ref mn])), (mp, .inl (cI, 52, .inl g)), (m1, .inl (cI, 52, .inl g2185)), (ml, .inl (cI, 8, .inl lf2185))]) (st' := fun u => [.int (bz ((lawsN (floodL s L)).testBit j)), .int (nI (rsN li q W L j s))]) (fun _ => rfl) (fun _ => rfl) (fun _ => rfl) (fun _ _ => ?_)
                          have J_210 : ∀ (v210_1 : Nat), v210_1 = (if (lawsN (floodL s L)).testBit j = true then byN li q s W else 0) → XX K [(y, .inr (5, [.int (nI 0), .ref mt, .int (nI ts), .int (nI pl), .int (nI W), .int (nI ll), .ref md, .ref ms, .int (nI rW), .ref mrd, .ref mrs, .ref mrp, .ref mp, .ref mb, .int (nI na), .ref mk, .ref mi, .long sd, .ref m1, .ref m2, .ref m3, .ref ml, .ref mf, .ref mw, .ref mn])), (mp, .inl (cI, 52, .inl g)), (m1, .inl (cI, 52, .inl g2185)), (ml, .inl (cI, 8, .inl lf2185))] [(8, .int (nI W)), (7, .int (nI (byN li q s W))), (6, .int (nI s)), (5, .int (nI (allN li W))), (4, .int (nI (rsN li q W L j s))), (0, .ref y), (1, .int (nI j)), (2, .int (nI q)), (3, .int (bz up))] 210 [.int (nI v210_1), .int (nI (rsN li q W L j s))] := by
                            intro v210_1 e_v210_1
                            refine x_iadd ok (nI (rsN li q W L j (s + 1))) dX5_rain_210 ((nI_add _ _).trans (congrArg nI (by rw [e_v210_1]; show _ = rsN li q W L j s + rsT li q W L j s; rw [rsT, if_pos c_101]))) ?_
                            refine x_istore ok (lv' := [(4, .int (nI (rsN li q W L j (s + 1)))), (8, .int (nI W)), (7, .int (nI (byN li q s W))), (6, .int (nI s)), (5, .int (nI (allN li W))), (0, .ref y), (1, .int (nI j)), (2, .int (nI q)), (3, .int (bz up))]) dX5_rain_211 (by decide) rfl ?_
                            refine x_iinc ok (v := nI (s + 1)) (lv' := [(6, .int (nI (s + 1))), (4, .int (nI (rsN li q W L j (s + 1)))), (8, .int (nI W)), (7, .int (nI (byN li q s W))), (5, .int (nI (allN li W))), (0, .ref y), (1, .int (nI j)), (2, .int (nI q)), (3, .int (bz up))]) dX5_rain_213 3 rfl (nN (nI_inc _ 1) (by omega)) (by decide) rfl ?_
                            refine x_goto ok 80 dX5_rain_216 (by decide) ?_
                            refine x_loc ok [0, 4, 1, 5, 6, 7, 8] (lv' := [(6, .int (nI (s + 1))), (5, .int (nI (allN li W))), (4, .int (nI (rsN li q W L j (s + 1)))), (0, .ref y), (1, .int (nI j)), (2, .int (nI q)), (3, .int (bz up))]) rfl ?_
                            exact ih_80 (s + 1) g2185 lf2185 (by omega) (by first | assumption | omega)
                          refine x_if_eqB ok 209 dX5_rain_201 (by decide) (fun c_201 => ?_) (fun c_201 => ?_)
                          · skip
                            refine x_iconst ok (nI 0) dX5_rain_209 (by decide) ?_
                            exact J_210 0 (by first | rfl | (simp only [if_neg c_201]; done) | (simp [c_201]; done))
                          · skip
                            refine x_iload ok 1 dX5_rain_204 rfl ?_
                            refine x_goto ok 210 dX5_rain_206 (by decide) ?_
                            exact J_210 (byN li q s W) (by first | rfl | (simp only [if_pos c_201]; done) | (simp [c_201]; done))
                        · skip
                          refine x_iload ok 1 dX5_rain_119 rfl ?_
                          refine x_aload_n ok 5 dX5_rain_121 rfl rfl ?_
                          refine gX5_28 ok dX5_rain_122 0 rfl rfl ?_
                          refine x_bipush ok (nI 49) dX5_rain_125 (by decide) ?_
                          refine x_iald ok 1 0 49 dX5_rain_127 rfl rfl (rfl) (by omega) (by decide) (nI li) (hg.2.2.1) ?_
                          refine x_iload ok 0 dX5_rain_128 rfl ?_
                          refine qX5_125 ok (As := [.int (nI li), .int (nI w)]) (st := [.int (nI (byN li q s w))]) (d_has l D cI cZ cS li w (by first | assumption | omega) (by first | assumption | omega)) rfl (Nat.le_of_ble_eq_true rfl) (Nat.le_of_ble_eq_true rfl) (Nat.le_of_ble_eq_true rfl) dX5_rain_130 [] (by decide) rfl (ws' := fun u => [(y, .inr (5, [.int (nI 0), .ref mt, .int (nI ts), .int (nI pl), .int (nI W), .int (nI ll), .ref md, .ref ms, .int (nI rW), .ref mrd, .ref mrs, .ref mrp, .ref mp, .ref mb, .int (nI na), .ref mk, .ref mi, .long sd, .ref m1, .ref m2, .ref m3, .ref ml, .ref mf, .ref mw, .ref mn])), (mp, .inl (cI, 52, .inl g)), (m1, .inl (cI, 52, .inl o9)), (ml, .inl (cI, 8, .inl l9))]) (st' := fun u => [.int (bz (li.testBit w)), .int (nI (byN li q s w))]) (fun _ => rfl) (fun _ => rfl) (fun _ => rfl) (fun _ _ => ?_)
                          have J_158 : ∀ (v158_1 : Nat), v158_1 = (if li.testBit w = true then 1 else (if s.testBit w = true then q else 10 - q)) → XX K [(y, .inr (5, [.int (nI 0), .ref mt, .int (nI ts), .int (nI pl), .int (nI W), .int (nI ll), .ref md, .ref ms, .int (nI rW), .ref mrd, .ref mrs, .ref mrp, .ref mp, .ref mb, .int (nI na), .ref mk, .ref mi, .long sd, .ref m1, .ref m2, .ref m3, .ref ml, .ref mf, .ref mw, .ref mn])), (mp, .inl (cI, 52, .inl g)), (m1, .inl (cI, 52, .inl o9)), (ml, .inl (cI, 8, .inl l9))] [(8, .int (nI w)), (7, .int (nI (byN li q s w))), (6, .int (nI s)), (5, .int (nI (allN li W))), (4, .int (nI (rsN li q W L j s))), (0, .ref y), (1, .int (nI j)), (2, .int (nI q)), (3, .int (bz up))] 158 [.int (nI v158_1), .int (nI (byN li q s w))] := by
                            intro v158_1 e_v158_1
                            refine x_imul ok (nI (byN li q s (w + 1))) dX5_rain_158 ((pk_mul _ _).trans (congrArg nI (by rw [e_v158_1]; rfl))) ?_
                            refine x_istore ok (lv' := [(7, .int (nI (byN li q s (w + 1)))), (8, .int (nI w)), (6, .int (nI s)), (5, .int (nI (allN li W))), (4, .int (nI (rsN li q W L j s))), (0, .ref y), (1, .int (nI j)), (2, .int (nI q)), (3, .int (bz up))]) dX5_rain_159 (by decide) rfl ?_
                            refine x_iinc ok (v := nI (w + 1)) (lv' := [(8, .int (nI (w + 1))), (7, .int (nI (byN li q s (w + 1)))), (6, .int (nI s)), (5, .int (nI (allN li W))), (4, .int (nI (rsN li q W L j s))), (0, .ref y), (1, .int (nI j)), (2, .int (nI q)), (3, .int (bz up))]) dX5_rain_161 1 rfl (nN (nI_inc _ 1) (by omega)) (by decide) rfl ?_
                            refine x_goto ok 110 dX5_rain_164 (by decide) ?_
                            exact ih_110 (w + 1) (by omega) (by first | assumption | omega)
                          refine x_if_eqB ok 140 dX5_rain_133 (by decide) (fun c_133 => ?_) (fun c_133 => ?_)
                          · skip
                            refine x_iload ok 2 dX5_rain_140 rfl ?_
                            refine x_iload ok 0 dX5_rain_142 rfl ?_
                            refine qX5_125 ok (As := [.int (nI s), .int (nI w)]) (st := [.int (nI (byN li q s w))]) (d_has l D cI cZ cS s w (by first | assumption | omega) (by first | assumption | omega)) rfl (Nat.le_of_ble_eq_true rfl) (Nat.le_of_ble_eq_true rfl) (Nat.le_of_ble_eq_true rfl) dX5_rain_144 [] (by decide) rfl (ws' := fun u => [(y, .inr (5, [.int (nI 0), .ref mt, .int (nI ts), .int (nI pl), .int (nI W), .int (nI ll), .ref md, .ref ms, .int (nI rW), .ref mrd, .ref mrs, .ref mrp, .ref mp, .ref mb, .int (nI na), .ref mk, .ref mi, .long sd, .ref m1, .ref m2, .ref m3, .ref ml, .ref mf, .ref mw, .ref mn])), (mp, .inl (cI, 52, .inl g)), (m1, .inl (cI, 52, .inl o9)), (ml, .inl (cI, 8, .inl l9))]) (st' := fun u => [.int (bz (s.testBit w)), .int (nI (byN li q s w))]) (fun _ => rfl) (fun _ => rfl) (fun _ => rfl) (fun _ _ => ?_)
                            refine x_if_eqB ok 154 dX5_rain_147 (by decide) (fun c_147 => ?_) (fun c_147 => ?_)
                            · skip
                              refine x_bipush ok (nI 10) dX5_rain_154 (by decide) ?_
                              refine x_iload_n ok 7 dX5_rain_156 rfl rfl ?_
                              refine x_isub ok (nI (10 - q)) dX5_rain_157 (pk_sub (by omega)) ?_
                              exact J_158 (10 - q) (by first | rfl | (simp only [if_neg c_133, if_neg c_147]; done) | (simp [c_133, c_147]; done))
                            · skip
                              refine x_iload_n ok 7 dX5_rain_150 rfl rfl ?_
                              refine x_goto ok 158 dX5_rain_151 (by decide) ?_
                              exact J_158 q (by first | rfl | (simp only [if_neg c_133, if_pos c_147]; done) | (simp [c_133, c_147]; done))
                          · skip
                            refine x_iconst ok (nI 1) dX5_rain_136 (by decide) ?_
                            refine x_goto ok 158 dX5_rain_137 (by decide) ?_
                            exact J_158 1 (by first | rfl | (simp only [if_pos c_133]; done) | (simp [c_133]; done))
                    exact L_110 _ 0 (Nat.lt_succ_self _) (by first | assumption | omega)
            exact L_80 _ 0 of lf (Nat.lt_succ_self _) (by first | assumption | omega)
          · skip
            refine x_iload ok 1 dX5_rain_45 rfl ?_
            refine x_aload_n ok 3 dX5_rain_47 rfl rfl ?_
            refine gX5_28 ok dX5_rain_48 0 rfl rfl ?_
            refine x_bipush ok (nI 49) dX5_rain_51 (by decide) ?_
            refine x_iald ok 1 0 49 dX5_rain_53 rfl rfl (rfl) (by omega) (by decide) (nI li) (hg.2.2.1) ?_
            refine x_iload ok 0 dX5_rain_54 rfl ?_
            refine qX5_125 ok (As := [.int (nI li), .int (nI w)]) (st := [.int (nI (allN li w))]) (d_has l D cI cZ cS li w (by first | assumption | omega) (by first | assumption | omega)) rfl (Nat.le_of_ble_eq_true rfl) (Nat.le_of_ble_eq_true rfl) (Nat.le_of_ble_eq_true rfl) dX5_rain_56 [] (by decide) rfl (ws' := fun u => [(y, .inr (5, [.int (nI 0), .ref mt, .int (nI ts), .int (nI pl), .int (nI W), .int (nI ll), .ref md, .ref ms, .int (nI rW), .ref mrd, .ref mrs, .ref mrp, .ref mp, .ref mb, .int (nI na), .ref mk, .ref mi, .long sd, .ref m1, .ref m2, .ref m3, .ref ml, .ref mf, .ref mw, .ref mn])), (mp, .inl (cI, 52, .inl g)), (m1, .inl (cI, 52, .inl of)), (ml, .inl (cI, 8, .inl lf))]) (st' := fun u => [.int (bz (li.testBit w)), .int (nI (allN li w))]) (fun _ => rfl) (fun _ => rfl) (fun _ => rfl) (fun _ _ => ?_)
            have J_68 : ∀ (v68_1 : Nat), v68_1 = (if li.testBit w = true then 1 else 10) → XX K [(y, .inr (5, [.int (nI 0), .ref mt, .int (nI ts), .int (nI pl), .int (nI W), .int (nI ll), .ref md, .ref ms, .int (nI rW), .ref mrd, .ref mrs, .ref mrp, .ref mp, .ref mb, .int (nI na), .ref mk, .ref mi, .long sd, .ref m1, .ref m2, .ref m3, .ref ml, .ref mf, .ref mw, .ref mn])), (mp, .inl (cI, 52, .inl g)), (m1, .inl (cI, 52, .inl of)), (ml, .inl (cI, 8, .inl lf))] [(6, .int (nI w)), (5, .int (nI (allN li w))), (4, .int (nI 0)), (0, .ref y), (1, .int (nI j)), (2, .int (nI q)), (3, .int (bz up))] 68 [.int (nI v68_1), .int (nI (allN li w))] := by
              intro v68_1 e_v68_1
              refine x_imul ok (nI (allN li (w + 1))) dX5_rain_68 ((pk_mul _ _).trans (congrArg nI (by rw [e_v68_1]; rfl))) ?_
              refine x_istore ok (lv' := [(5, .int (nI (allN li (w + 1)))), (6, .int (nI w)), (4, .int (nI 0)), (0, .ref y), (1, .int (nI j)), (2, .int (nI q)), (3, .int (bz up))]) dX5_rain_69 (by decide) rfl ?_
              refine x_iinc ok (v := nI (w + 1)) (lv' := [(6, .int (nI (w + 1))), (5, .int (nI (allN li (w + 1)))), (4, .int (nI 0)), (0, .ref y), (1, .int (nI j)), (2, .int (nI q)), (3, .int (bz up))]) dX5_rain_71 1 rfl (nN (nI_inc _ 1) (by omega)) (by decide) rfl ?_
              refine x_goto ok 36 dX5_rain_74 (by decide) ?_
              exact ih_36 (w + 1) (by omega) (by first | assumption | omega)
            refine x_if_eqB ok 66 dX5_rain_59 (by decide) (fun c_59 => ?_) (fun c_59 => ?_)
            · skip
              refine x_bipush ok (nI 10) dX5_rain_66 (by decide) ?_
              exact J_68 10 (by first | rfl | (simp only [if_neg c_59]; done) | (simp [c_59]; done))
            · skip
              refine x_iconst ok (nI 1) dX5_rain_62 (by decide) ?_
              refine x_goto ok 68 dX5_rain_63 (by decide) ?_
              exact J_68 1 (by first | rfl | (simp only [if_pos c_59]; done) | (simp [c_59]; done))
      exact L_36 _ 0 (Nat.lt_succ_self _) (by first | assumption | omega)
    · skip
      refine x_bipush ok ((-2)) dX5_rain_24 (by decide) ?_
      exact ret (of, lf) _ _ _ ((-2)) dX5_rain_26 (rfl) (by rw [rainI, if_neg (fun x => c_21 x.2)]) (trivial)

set_option maxHeartbeats 4000000 in
set_option maxRecDepth 100000 in
theorem e_rains (l : Launch) (D : va_G) (cI cZ cS : ClassId) (y : Nat) (zt : Int32) (mt : Nat) (ts : Nat) (pl : Nat) (W : Nat) (ll : Nat) (md : Nat) (ms : Nat) (rW : Nat) (mrd : Nat) (mrs : Nat) (mrp : Nat) (mp : Nat) (mb : Nat) (na : Nat) (mk : Nat) (mi : Nat) (sd : Int64) (m1 : Nat) (m2 : Nat) (m3 : Nat) (ml : Nat) (mf : Nat) (mw : Nat) (mn : Nat) (sf : Nat → Int32) (st : Nat → Nat) (g : Nat → Int32) (L : List Sg) (li : Nat) (ye : Int32) (br : Int32) (A : Nat) (of : Nat → Int32) (lf : Nat → Int32) (z : Int32) (z2 : Int32) (hst : ∀ w, w < W → sf w = nI (st w)) (hst2 : ∀ w, w < W → st w ≤ 2) (hg : PGR g L li ye br) (hv : okL W A L) (hW4 : W ≤ 4) (hl : li < 256) (hA : A < 900000) : CO l D (TY cI cZ cS) yX5_rains cX5_rains 6 (some .int) 3 67 0 0 [.ref y, .int z, .int z2] [(y, .inr (5, [.int zt, .ref mt, .int (nI ts), .int (nI pl), .int (nI W), .int (nI ll), .ref md, .ref ms, .int (nI rW), .ref mrd, .ref mrs, .ref mrp, .ref mp, .ref mb, .int (nI na), .ref mk, .ref mi, .long sd, .ref m1, .ref m2, .ref m3, .ref ml, .ref mf, .ref mw, .ref mn])), (ms, .inl (cI, 4, .inl sf)), (mp, .inl (cI, 52, .inl g)), (m1, .inl (cI, 52, .inl of)), (ml, .inl (cI, 8, .inl lf))] (σ := (Nat → Int32) × (Nat → Int32)) (fun u => some (.int ((rainsI st W li L sd z z2).1))) (fun u => [(y, .inr (5, [.int (nI 0), .ref mt, .int (nI ts), .int (nI pl), .int (nI W), .int (nI ll), .ref md, .ref ms, .int (nI rW), .ref mrd, .ref mrs, .ref mrp, .ref mp, .ref mb, .int (nI na), .ref mk, .ref mi, .long ((rainsI st W li L sd z z2).2), .ref m1, .ref m2, .ref m3, .ref ml, .ref mf, .ref mw, .ref mn])), (ms, .inl (cI, 4, .inl sf)), (mp, .inl (cI, 52, .inl g)), (m1, .inl (cI, 52, .inl u.1)), (ml, .inl (cI, 8, .inl u.2))]) (fun u => True) := by
  refine CO_mki (by decide +kernel) (Nat.le_of_ble_eq_true rfl) (fun K ok ret => ?_)
  show XX K [(y, .inr (5, [.int zt, .ref mt, .int (nI ts), .int (nI pl), .int (nI W), .int (nI ll), .ref md, .ref ms, .int (nI rW), .ref mrd, .ref mrs, .ref mrp, .ref mp, .ref mb, .int (nI na), .ref mk, .ref mi, .long sd, .ref m1, .ref m2, .ref m3, .ref ml, .ref mf, .ref mw, .ref mn])), (ms, .inl (cI, 4, .inl sf)), (mp, .inl (cI, 52, .inl g)), (m1, .inl (cI, 52, .inl of)), (ml, .inl (cI, 8, .inl lf))] [(0, .ref y), (1, .int z), (2, .int z2)] 0 []
  have h8 := hv.1
  have hp16 : 2 ^ W ≤ 16 := (Nat.pow_le_pow_right (by omega) hW4 : 2 ^ W ≤ 2 ^ 4)
  refine x_aload_n ok 0 dX5_rains_0 rfl rfl ?_
  refine x_iconst ok (nI 0) dX5_rains_1 (by decide) ?_
  refine pX5_62 ok dX5_rains_2 0 rfl rfl rfl (Nat.le_of_ble_eq_true rfl) (ws' := [(y, .inr (5, [.int (nI 0), .ref mt, .int (nI ts), .int (nI pl), .int (nI W), .int (nI ll), .ref md, .ref ms, .int (nI rW), .ref mrd, .ref mrs, .ref mrp, .ref mp, .ref mb, .int (nI na), .ref mk, .ref mi, .long sd, .ref m1, .ref m2, .ref m3, .ref ml, .ref mf, .ref mw, .ref mn])), (ms, .inl (cI, 4, .inl sf)), (mp, .inl (cI, 52, .inl g)), (m1, .inl (cI, 52, .inl of)), (ml, .inl (cI, 8, .inl lf))]) rfl ?_
  refine x_iload_n ok 1 dX5_rains_5 rfl rfl ?_
  refine x_i2l ok ((z).toInt64) dX5_rains_6 rfl ?_
  refine x_lconst ok ((nI 1).toInt64) dX5_rains_7 (by decide) ?_
  refine x_ldc2v ok KX5_197 (v' := (nI 20).toInt64) (by decide) dX5_rains_8 ?_
  refine qX5_69 ok (As := [.long ((z).toInt64), .long ((nI 1).toInt64), .long ((nI 20).toInt64)]) (st := []) (d_in l D cI cZ cS z (nI 1) (nI 20) ) rfl (Nat.le_of_ble_eq_true rfl) (Nat.le_of_ble_eq_true rfl) (Nat.le_of_ble_eq_true rfl) dX5_rains_11 [] (by decide) rfl (ws' := fun u => [(y, .inr (5, [.int (nI 0), .ref mt, .int (nI ts), .int (nI pl), .int (nI W), .int (nI ll), .ref md, .ref ms, .int (nI rW), .ref mrd, .ref mrs, .ref mrp, .ref mp, .ref mb, .int (nI na), .ref mk, .ref mi, .long sd, .ref m1, .ref m2, .ref m3, .ref ml, .ref mf, .ref mw, .ref mn])), (ms, .inl (cI, 4, .inl sf)), (mp, .inl (cI, 52, .inl g)), (m1, .inl (cI, 52, .inl of)), (ml, .inl (cI, 8, .inl lf))]) (st' := fun u => [.int (bz (inB z (nI 1) (nI 20)))]) (fun _ => rfl) (fun _ => rfl) (fun _ => rfl) (fun _ _ => ?_)
  refine x_if_eqB ok 29 dX5_rains_14 (by decide) (fun c_14 => ?_) (fun c_14 => ?_)
  · skip
    have er : rainsI st W li L sd z z2 = (-2, sd) := by rw [rainsI, if_neg (fun y => c_14 y.1)]
    refine x_bipush ok ((-2)) dX5_rains_29 (by decide) ?_
    exact ret (of, lf) _ _ _ ((-2)) dX5_rains_31 (by rw [er]) (by rw [er]) (trivial)
  · skip
    refine x_iload_n ok 2 dX5_rains_17 rfl rfl ?_
    refine x_i2l ok ((z2).toInt64) dX5_rains_18 rfl ?_
    refine x_lconst ok ((nI 0).toInt64) dX5_rains_19 (by decide) ?_
    refine x_ldc2v ok KX5_185 (v' := (nI 10).toInt64) (by decide) dX5_rains_20 ?_
    refine qX5_69 ok (As := [.long ((z2).toInt64), .long ((nI 0).toInt64), .long ((nI 10).toInt64)]) (st := []) (d_in l D cI cZ cS z2 (nI 0) (nI 10) ) rfl (Nat.le_of_ble_eq_true rfl) (Nat.le_of_ble_eq_true rfl) (Nat.le_of_ble_eq_true rfl) dX5_rains_23 [] (by decide) rfl (ws' := fun u => [(y, .inr (5, [.int (nI 0), .ref mt, .int (nI ts), .int (nI pl), .int (nI W), .int (nI ll), .ref md, .ref ms, .int (nI rW), .ref mrd, .ref mrs, .ref mrp, .ref mp, .ref mb, .int (nI na), .ref mk, .ref mi, .long sd, .ref m1, .ref m2, .ref m3, .ref ml, .ref mf, .ref mw, .ref mn])), (ms, .inl (cI, 4, .inl sf)), (mp, .inl (cI, 52, .inl g)), (m1, .inl (cI, 52, .inl of)), (ml, .inl (cI, 8, .inl lf))]) (st' := fun u => [.int (bz (inB z2 (nI 0) (nI 10)))]) (fun _ => rfl) (fun _ => rfl) (fun _ => rfl) (fun _ _ => ?_)
    refine x_if_neB ok 32 dX5_rains_26 (by decide) (fun c_26 => ?_) (fun c_26 => ?_)
    · skip
      obtain ⟨j, hj0, hj, ej⟩ := inB_t (by omega) (by omega) c_14
      obtain ⟨q, hq0, hq, eq⟩ := inB_t (by omega) (by omega) c_26
      have er : rainsI st W li L sd z z2 = (nI (lawsN (ryF st W li q j (L, sd)).1), (ryF st W li q j (L, sd)).2) := by rw [rainsI, if_pos ⟨c_14, c_26⟩, ej, eq, cl_n (by omega), cl_n (by omega)]
      refine x_eq (lv' := [(0, .ref y), (1, .int (nI j)), (2, .int (nI q))]) rfl (by rw [ej, eq]) rfl ?_
      refine x_aload_n ok 0 dX5_rains_32 rfl rfl ?_
      refine gX5_28 ok dX5_rains_33 0 rfl rfl ?_
      refine x_aload_n ok 0 dX5_rains_36 rfl rfl ?_
      refine gX5_41 ok dX5_rains_37 0 rfl rfl ?_
      refine qX5_159 ok (As := [.ref mp, .ref m1]) (st := []) (d_copy l D cI cZ cS mp g L li ye br m1 of (by first | assumption | omega) (by first | assumption | omega)) rfl (Nat.le_of_ble_eq_true rfl) (Nat.le_of_ble_eq_true rfl) (Nat.le_of_ble_eq_true rfl) dX5_rains_40 [2, 3] (by decide) rfl (ws' := fun u => [(y, .inr (5, [.int (nI 0), .ref mt, .int (nI ts), .int (nI pl), .int (nI W), .int (nI ll), .ref md, .ref ms, .int (nI rW), .ref mrd, .ref mrs, .ref mrp, .ref mp, .ref mb, .int (nI na), .ref mk, .ref mi, .long sd, .ref m1, .ref m2, .ref m3, .ref ml, .ref mf, .ref mw, .ref mn])), (ms, .inl (cI, 4, .inl sf)), (mp, .inl (cI, 52, .inl g)), (m1, .inl (cI, 52, .inl u)), (ml, .inl (cI, 8, .inl lf))]) (st' := fun u => []) (fun _ => rfl) (fun _ => rfl) (fun _ => rfl) (fun u40 hu40 => ?_)
      obtain ⟨g240, rfl⟩ : ∃ z, z = u40 := ⟨_, rfl⟩
      have hg240 := hu40
      have hg240 : PGR g240 L li ye br := hg240
      show XX K [(y, .inr (5, [.int (nI 0), .ref mt, .int (nI ts), .int (nI pl), .int (nI W), .int (nI ll), .ref md, .ref ms, .int (nI rW), .ref mrd, .ref mrs, .ref mrp, .ref mp, .ref mb, .int (nI na), .ref mk, .ref mi, .long sd, .ref m1, .ref m2, .ref m3, .ref ml, .ref mf, .ref mw, .ref mn])), (ms, .inl (cI, 4, .inl sf)), (mp, .inl (cI, 52, .inl g)), (m1, .inl (cI, 52, .inl g240)), (ml, .inl (cI, 8, .inl lf))] [(0, .ref y), (1, .int (nI j)), (2, .int (nI q))] 43 []
      refine x_iconst ok (nI 0) dX5_rains_43 (by decide) ?_
      refine x_istore_n ok (lv' := [(3, .int (nI 0)), (0, .ref y), (1, .int (nI j)), (2, .int (nI q))]) dX5_rains_44 rfl (by decide) rfl ?_
      have L_45 : ∀ (n_45 : Nat) (n : Nat) (g9 : Nat → Int32) (lf9 : Nat → Int32) (y9 : Int32) (s9 : Int64), j - n < n_45 → (n ≤ j) → (PGR g9 (ryF st W li q n (L, sd)).1 li y9 br) → (s9 = (ryF st W li q n (L, sd)).2) → XX K [(y, .inr (5, [.int (nI 0), .ref mt, .int (nI ts), .int (nI pl), .int (nI W), .int (nI ll), .ref md, .ref ms, .int (nI rW), .ref mrd, .ref mrs, .ref mrp, .ref mp, .ref mb, .int (nI na), .ref mk, .ref mi, .long s9, .ref m1, .ref m2, .ref m3, .ref ml, .ref mf, .ref mw, .ref mn])), (ms, .inl (cI, 4, .inl sf)), (mp, .inl (cI, 52, .inl g)), (m1, .inl (cI, 52, .inl g9)), (ml, .inl (cI, 8, .inl lf9))] [(3, .int (nI n)), (0, .ref y), (1, .int (nI j)), (2, .int (nI q))] 45 [] := by
        intro n_45
        induction n_45 with
        | zero => intro n g9 lf9 y9 s9 hm; exact absurd hm (Nat.not_lt_zero _)
        | succ n_45 ih_45 =>
          intro n g9 lf9 y9 s9 hm_45 hn hg9 hs9
          refine x_iload_n ok 0 dX5_rains_45 rfl rfl ?_
          refine x_iload_n ok 2 dX5_rains_46 rfl rfl ?_
          refine x_icmp_geN ok 159 dX5_rains_47 (by decide) (by omega) (by omega) (fun c_47 => ?_) (fun c_47 => ?_)
          · skip
            have e_n : j = n := by omega
            subst e_n
            refine x_aload_n ok 1 dX5_rains_159 rfl rfl ?_
            refine gX5_41 ok dX5_rains_160 0 rfl rfl ?_
            refine qX5_106 ok (As := [.ref m1]) (st := []) (d_lawsOf l D cI cZ cS m1 g9 ((ryF st W li q j (L, sd)).1) li y9 br W (A + j) (hg9) (ryF_ok hv j)) rfl (Nat.le_of_ble_eq_true rfl) (Nat.le_of_ble_eq_true rfl) (Nat.le_of_ble_eq_true rfl) dX5_rains_163 [3] (by decide) rfl (ws' := fun u => [(y, .inr (5, [.int (nI 0), .ref mt, .int (nI ts), .int (nI pl), .int (nI W), .int (nI ll), .ref md, .ref ms, .int (nI rW), .ref mrd, .ref mrs, .ref mrp, .ref mp, .ref mb, .int (nI na), .ref mk, .ref mi, .long s9, .ref m1, .ref m2, .ref m3, .ref ml, .ref mf, .ref mw, .ref mn])), (ms, .inl (cI, 4, .inl sf)), (mp, .inl (cI, 52, .inl g)), (m1, .inl (cI, 52, .inl g9)), (ml, .inl (cI, 8, .inl lf9))]) (st' := fun u => [.int (nI (lawsN ((ryF st W li q j (L, sd)).1)))]) (fun _ => rfl) (fun _ => rfl) (fun _ => rfl) (fun _ _ => ?_)
            exact ret (g9, lf9) _ _ _ (nI (lawsN ((ryF st W li q j (L, sd)).1))) dX5_rains_166 (by rw [er, hs9]) (by rw [er]) (trivial)
          · skip
            have hvr := ryF_ok (li := li) (r := q) (st := st) (W := W) (z := (L, sd)) hv n
            have hvy := year_ok (st := st) (li := li) hvr
            refine x_aload_n ok 1 dX5_rains_50 rfl rfl ?_
            refine x_aload_n ok 1 dX5_rains_51 rfl rfl ?_
            refine gX5_41 ok dX5_rains_52 0 rfl rfl ?_
            refine x_bipush ok ((-9)) dX5_rains_55 (by decide) ?_
            refine qX5_136 ok (As := [.ref m1, .int (-9)]) (st := []) 0 rfl (d_goYear l D cI cZ cS y (nI 0) mt ts pl W ll md ms rW mrd mrs mrp mp mb na mk mi s9 m1 m2 m3 ml mf mw mn sf st m1 g9 ((ryF st W li q n (L, sd)).1) li y9 br lf9 (A + n) (-9) (by first | assumption | omega) (by first | assumption | omega) (hg9) (hvr) (by first | assumption | omega) (by first | assumption | omega) (by first | assumption | omega)) rfl (Nat.le_of_ble_eq_true rfl) (Nat.le_of_ble_eq_true rfl) (Nat.le_of_ble_eq_true rfl) dX5_rains_57 [0, 1, 3, 4] (by decide) rfl (ws' := fun u => [(y, .inr (5, [.int (nI 0), .ref mt, .int (nI ts), .int (nI pl), .int (nI W), .int (nI ll), .ref md, .ref ms, .int (nI rW), .ref mrd, .ref mrs, .ref mrp, .ref mp, .ref mb, .int (nI na), .ref mk, .ref mi, .long s9, .ref m1, .ref m2, .ref m3, .ref ml, .ref mf, .ref mw, .ref mn])), (ms, .inl (cI, 4, .inl sf)), (mp, .inl (cI, 52, .inl g)), (m1, .inl (cI, 52, .inl u.1)), (ml, .inl (cI, 8, .inl u.2))]) (st' := fun u => [.int (wrN (lossN st li ((ryF st W li q n (L, sd)).1)) ((ryF st W li q n (L, sd)).1) (-9) ((ryF st W li q n (L, sd)).1).length)]) (fun _ => rfl) (fun _ => rfl) (fun _ => rfl) (fun u57 hu57 => ?_)
            obtain ⟨g257, lf257⟩ := u57
            have hg257 := hu57
            have hg257 : PGR g257 (yearL st li ((ryF st W li q n (L, sd)).1)) li (y9 + nI 1) br := hg257
            show XX K [(y, .inr (5, [.int (nI 0), .ref mt, .int (nI ts), .int (nI pl), .int (nI W), .int (nI ll), .ref md, .ref ms, .int (nI rW), .ref mrd, .ref mrs, .ref mrp, .ref mp, .ref mb, .int (nI na), .ref mk, .ref mi, .long s9, .ref m1, .ref m2, .ref m3, .ref ml, .ref mf, .ref mw, .ref mn])), (ms, .inl (cI, 4, .inl sf)), (mp, .inl (cI, 52, .inl g)), (m1, .inl (cI, 52, .inl g257)), (ml, .inl (cI, 8, .inl lf257))] [(3, .int (nI n)), (0, .ref y), (1, .int (nI j)), (2, .int (nI q))] 60 [.int (wrN (lossN st li ((ryF st W li q n (L, sd)).1)) ((ryF st W li q n (L, sd)).1) (-9) ((ryF st W li q n (L, sd)).1).length)]
            refine x_pop ok dX5_rains_60 rfl ?_
            refine x_iconst ok (nI 0) dX5_rains_61 (by decide) ?_
            refine x_istore ok (lv' := [(4, .int (nI 0)), (3, .int (nI n)), (0, .ref y), (1, .int (nI j)), (2, .int (nI q))]) dX5_rains_62 (by decide) rfl ?_
            refine x_iconst ok (nI 0) dX5_rains_64 (by decide) ?_
            refine x_istore ok (lv' := [(5, .int (nI 0)), (4, .int (nI 0)), (3, .int (nI n)), (0, .ref y), (1, .int (nI j)), (2, .int (nI q))]) dX5_rains_65 (by decide) rfl ?_
            have L_67 : ∀ (n_67 : Nat) (w : Nat) (fl : Nat) (s8 : Int64), W - w < n_67 → (w ≤ W) → (fl < 2 ^ w) → ((rwF li q w ((yearL st li (ryF st W li q n (L, sd)).1), (ryF st W li q n (L, sd)).2)).1 = floodL fl (yearL st li (ryF st W li q n (L, sd)).1)) → (s8 = (rwF li q w ((yearL st li (ryF st W li q n (L, sd)).1), (ryF st W li q n (L, sd)).2)).2) → XX K [(y, .inr (5, [.int (nI 0), .ref mt, .int (nI ts), .int (nI pl), .int (nI W), .int (nI ll), .ref md, .ref ms, .int (nI rW), .ref mrd, .ref mrs, .ref mrp, .ref mp, .ref mb, .int (nI na), .ref mk, .ref mi, .long s8, .ref m1, .ref m2, .ref m3, .ref ml, .ref mf, .ref mw, .ref mn])), (ms, .inl (cI, 4, .inl sf)), (mp, .inl (cI, 52, .inl g)), (m1, .inl (cI, 52, .inl g257)), (ml, .inl (cI, 8, .inl lf257))] [(5, .int (nI w)), (4, .int (nI fl)), (3, .int (nI n)), (0, .ref y), (1, .int (nI j)), (2, .int (nI q))] 67 [] := by
              intro n_67
              induction n_67 with
              | zero => intro w fl s8 hm; exact absurd hm (Nat.not_lt_zero _)
              | succ n_67 ih_67 =>
                intro w fl s8 hm_67 hw hfl hr8 hs8
                refine x_iload ok 0 dX5_rains_67 rfl ?_
                refine x_aload_n ok 3 dX5_rains_69 rfl rfl ?_
                refine gX5_66 ok dX5_rains_70 0 rfl rfl ?_
                refine x_icmp_geN ok 143 dX5_rains_73 (by decide) (by omega) (by omega) (fun c_73 => ?_) (fun c_73 => ?_)
                · skip
                  have e_w : W = w := by omega
                  subst e_w
                  refine x_aload_n ok 3 dX5_rains_143 rfl rfl ?_
                  refine x_aload_n ok 3 dX5_rains_144 rfl rfl ?_
                  refine gX5_41 ok dX5_rains_145 0 rfl rfl ?_
                  refine x_iload ok 1 dX5_rains_148 rfl ?_
                  refine qX5_187 ok (As := [.ref m1, .int (nI fl)]) (st := []) 0 rfl (d_flood l D cI cZ cS y (nI 0) mt ts pl W ll md ms rW mrd mrs mrp mp mb na mk mi s8 m1 m2 m3 ml mf mw mn m1 g257 (yearL st li (ryF st W li q n (L, sd)).1) li (y9 + nI 1) br lf257 (A + n + 1) fl (hg257) (hvy) (by first | assumption | omega) (by first | assumption | omega) (by first | assumption | omega)) rfl (Nat.le_of_ble_eq_true rfl) (Nat.le_of_ble_eq_true rfl) (Nat.le_of_ble_eq_true rfl) dX5_rains_150 [0, 3, 4] (by decide) rfl (ws' := fun u => [(y, .inr (5, [.int (nI 0), .ref mt, .int (nI ts), .int (nI pl), .int (nI W), .int (nI ll), .ref md, .ref ms, .int (nI rW), .ref mrd, .ref mrs, .ref mrp, .ref mp, .ref mb, .int (nI na), .ref mk, .ref mi, .long s8, .ref m1, .ref m2, .ref m3, .ref ml, .ref mf, .ref mw, .ref mn])), (ms, .inl (cI, 4, .inl sf)), (mp, .inl (cI, 52, .inl g)), (m1, .inl (cI, 52, .inl u.1)), (ml, .inl (cI, 8, .inl u.2))]) (st' := fun u => []) (fun _ => rfl) (fun _ => rfl) (fun _ => rfl) (fun u150 hu150 => ?_)
                  obtain ⟨g2150, lf2150⟩ := u150
                  have hg2150 := hu150
                  have hg2150 : PGR g2150 (floodL fl (yearL st li (ryF st W li q n (L, sd)).1)) li (y9 + nI 1) br := hg2150
                  show XX K [(y, .inr (5, [.int (nI 0), .ref mt, .int (nI ts), .int (nI pl), .int (nI W), .int (nI ll), .ref md, .ref ms, .int (nI rW), .ref mrd, .ref mrs, .ref mrp, .ref mp, .ref mb, .int (nI na), .ref mk, .ref mi, .long s8, .ref m1, .ref m2, .ref m3, .ref ml, .ref mf, .ref mw, .ref mn])), (ms, .inl (cI, 4, .inl sf)), (mp, .inl (cI, 52, .inl g)), (m1, .inl (cI, 52, .inl g2150)), (ml, .inl (cI, 8, .inl lf2150))] [(5, .int (nI W)), (4, .int (nI fl)), (3, .int (nI n)), (0, .ref y), (1, .int (nI j)), (2, .int (nI q))] 153 []
                  refine x_iinc ok (v := nI (n + 1)) (lv' := [(3, .int (nI (n + 1))), (5, .int (nI W)), (4, .int (nI fl)), (0, .ref y), (1, .int (nI j)), (2, .int (nI q))]) dX5_rains_153 2 rfl (nN (nI_inc _ 1) (by omega)) (by decide) rfl ?_
                  refine x_goto ok 45 dX5_rains_156 (by decide) ?_
                  refine x_loc ok [0, 3, 4, 5] (lv' := [(3, .int (nI (n + 1))), (0, .ref y), (1, .int (nI j)), (2, .int (nI q))]) rfl ?_
                  exact ih_45 (n + 1) g2150 lf2150 (y9 + nI 1) s8 (by omega) (by first | assumption | omega) (by show PGR _ (rwF li q W ((yearL st li (ryF st W li q n (L, sd)).1), (ryF st W li q n (L, sd)).2)).1 _ _ _; rw [hr8]; exact hg2150) (hs8)
                · skip
                  refine x_aload_n ok 3 dX5_rains_76 rfl rfl ?_
                  refine gX5_41 ok dX5_rains_77 0 rfl rfl ?_
                  refine x_bipush ok (nI 49) dX5_rains_80 (by decide) ?_
                  refine x_iald ok 3 0 49 dX5_rains_82 rfl rfl (rfl) (by omega) (by decide) (nI li) (hg257.2.2.1) ?_
                  refine x_iload ok 0 dX5_rains_83 rfl ?_
                  refine qX5_125 ok (As := [.int (nI li), .int (nI w)]) (st := []) (d_has l D cI cZ cS li w (by first | assumption | omega) (by first | assumption | omega)) rfl (Nat.le_of_ble_eq_true rfl) (Nat.le_of_ble_eq_true rfl) (Nat.le_of_ble_eq_true rfl) dX5_rains_85 [] (by decide) rfl (ws' := fun u => [(y, .inr (5, [.int (nI 0), .ref mt, .int (nI ts), .int (nI pl), .int (nI W), .int (nI ll), .ref md, .ref ms, .int (nI rW), .ref mrd, .ref mrs, .ref mrp, .ref mp, .ref mb, .int (nI na), .ref mk, .ref mi, .long s8, .ref m1, .ref m2, .ref m3, .ref ml, .ref mf, .ref mw, .ref mn])), (ms, .inl (cI, 4, .inl sf)), (mp, .inl (cI, 52, .inl g)), (m1, .inl (cI, 52, .inl g257)), (ml, .inl (cI, 8, .inl lf257))]) (st' := fun u => [.int (bz (li.testBit w))]) (fun _ => rfl) (fun _ => rfl) (fun _ => rfl) (fun _ _ => ?_)
                  refine x_if_neB ok 137 dX5_rains_88 (by decide) (fun c_88 => ?_) (fun c_88 => ?_)
                  · skip
                    refine x_iinc ok (v := nI (w + 1)) (lv' := [(5, .int (nI (w + 1))), (4, .int (nI fl)), (3, .int (nI n)), (0, .ref y), (1, .int (nI j)), (2, .int (nI q))]) dX5_rains_137 0 rfl (nN (nI_inc _ 1) (by omega)) (by decide) rfl ?_
                    refine x_goto ok 67 dX5_rains_140 (by decide) ?_
                    exact ih_67 (w + 1) fl s8 (by omega) (by first | assumption | omega) (lt_pw hfl) (by rw [rw_lid c_88]; exact hr8) (by rw [rw_lid c_88]; exact hs8)
                  · skip
                    refine x_aload_n ok 3 dX5_rains_91 rfl rfl ?_
                    refine x_aload_n ok 3 dX5_rains_92 rfl rfl ?_
                    refine gX5_193 ok dX5_rains_93 0 rfl rfl ?_
                    refine x_ldc2v ok KX5_199 (v' := (6364136223846793005)) (by decide) dX5_rains_96 ?_
                    refine x_lmul ok ((s8 * (6364136223846793005))) dX5_rains_99 (rfl) ?_
                    refine x_ldc2v ok KX5_201 (v' := (1442695040888963407)) (by decide) dX5_rains_100 ?_
                    refine x_ladd ok ((seedN s8)) dX5_rains_103 (rfl) ?_
                    refine pX5_193 ok dX5_rains_104 0 rfl rfl rfl (Nat.le_of_ble_eq_true rfl) (ws' := [(y, .inr (5, [.int (nI 0), .ref mt, .int (nI ts), .int (nI pl), .int (nI W), .int (nI ll), .ref md, .ref ms, .int (nI rW), .ref mrd, .ref mrs, .ref mrp, .ref mp, .ref mb, .int (nI na), .ref mk, .ref mi, .long (seedN s8), .ref m1, .ref m2, .ref m3, .ref ml, .ref mf, .ref mw, .ref mn])), (ms, .inl (cI, 4, .inl sf)), (mp, .inl (cI, 52, .inl g)), (m1, .inl (cI, 52, .inl g257)), (ml, .inl (cI, 8, .inl lf257))]) rfl ?_
                    refine x_iload ok 1 dX5_rains_107 rfl ?_
                    refine x_aload_n ok 3 dX5_rains_109 rfl rfl ?_
                    refine gX5_193 ok dX5_rains_110 0 rfl rfl ?_
                    refine x_bipush ok (nI 33) dX5_rains_113 (by decide) ?_
                    refine x_lushr ok ((seedS (seedN s8))) dX5_rains_115 (rfl) ?_
                    refine x_ldc2v ok KX5_185 (v' := (nI 10).toInt64) (by decide) dX5_rains_116 ?_
                    refine x_lrem ok ((seedR (seedN s8))) dX5_rains_119 (by decide) (rfl) ?_
                    refine x_iload_n ok 5 dX5_rains_120 rfl rfl ?_
                    refine x_i2l ok ((nI q).toInt64) dX5_rains_121 rfl ?_
                    refine x_lcmp ok dX5_rains_122 ?_
                    refine x_if_ge ok 133 dX5_rains_123 (by decide) (fun c_123 => ?_) (fun c_123 => ?_)
                    · skip
                      have hfb : ¬ flB (seedN s8) q = true := by rw [flB]; simpa using c_123
                      refine x_iconst ok (nI 0) dX5_rains_133 (by decide) ?_
                      refine x_ior ok (nI fl) dX5_rains_134 ((fa_or _ _).trans (congrArg nI (Nat.or_zero _))) ?_
                      refine x_istore ok (lv' := [(4, .int (nI fl)), (5, .int (nI w)), (3, .int (nI n)), (0, .ref y), (1, .int (nI j)), (2, .int (nI q))]) dX5_rains_135 (by decide) rfl ?_
                      refine x_iinc ok (v := nI (w + 1)) (lv' := [(5, .int (nI (w + 1))), (4, .int (nI fl)), (3, .int (nI n)), (0, .ref y), (1, .int (nI j)), (2, .int (nI q))]) dX5_rains_137 1 rfl (nN (nI_inc _ 1) (by omega)) (by decide) rfl ?_
                      refine x_goto ok 67 dX5_rains_140 (by decide) ?_
                      exact ih_67 (w + 1) fl (seedN s8) (by omega) (by first | assumption | omega) (lt_pw hfl) ((rw_dry c_88 hr8 (by rw [← hs8]; exact hfb)).1) (by rw [(rw_dry c_88 hr8 (by rw [← hs8]; exact hfb)).2, hs8])
                    · skip
                      have hfb : flB (seedN s8) q = true := by rw [flB]; simpa using c_123
                      refine x_iconst ok (nI 1) dX5_rains_126 (by decide) ?_
                      refine x_iload ok 0 dX5_rains_127 rfl ?_
                      refine x_ishl ok (nI (2 ^ w)) dX5_rains_129 (shl1 w (by omega)) ?_
                      refine x_goto ok 134 dX5_rains_130 (by decide) ?_
                      refine x_ior ok (nI (fl ||| 2 ^ w)) dX5_rains_134 (fa_or _ _) ?_
                      refine x_istore ok (lv' := [(4, .int (nI (fl ||| 2 ^ w))), (5, .int (nI w)), (3, .int (nI n)), (0, .ref y), (1, .int (nI j)), (2, .int (nI q))]) dX5_rains_135 (by decide) rfl ?_
                      refine x_iinc ok (v := nI (w + 1)) (lv' := [(5, .int (nI (w + 1))), (4, .int (nI (fl ||| 2 ^ w))), (3, .int (nI n)), (0, .ref y), (1, .int (nI j)), (2, .int (nI q))]) dX5_rains_137 1 rfl (nN (nI_inc _ 1) (by omega)) (by decide) rfl ?_
                      refine x_goto ok 67 dX5_rains_140 (by decide) ?_
                      exact ih_67 (w + 1) (fl ||| 2 ^ w) (seedN s8) (by omega) (by first | assumption | omega) (or_pw hfl) ((rw_wet c_88 hr8 hfl (by rw [← hs8]; exact hfb)).1) (by rw [(rw_wet c_88 hr8 hfl (by rw [← hs8]; exact hfb)).2, hs8])
            exact L_67 _ 0 0 s9 (Nat.lt_succ_self _) (by first | assumption | omega) (Nat.two_pow_pos 0) ((rw_0 hvy).1) (hs9)
      exact L_45 _ 0 g240 lf ye sd (Nat.lt_succ_self _) (by first | assumption | omega) (hg240) (rfl)
    · skip
      have er : rainsI st W li L sd z z2 = (-2, sd) := by rw [rainsI, if_neg (fun y => c_26 y.2)]
      refine x_bipush ok ((-2)) dX5_rains_29 (by decide) ?_
      exact ret (of, lf) _ _ _ ((-2)) dX5_rains_31 (by rw [er]) (by rw [er]) (trivial)
