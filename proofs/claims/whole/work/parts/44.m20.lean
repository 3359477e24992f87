set_option maxHeartbeats 4000000 in
set_option maxRecDepth 100000 in
theorem d_note (l : Launch) (D : va_G) (cI cZ cS : ClassId) (y : Nat) (zt : Int32) (mt : Nat) (ts : Nat) (pl : Nat) (W : Nat) (ll : Nat) (md : Nat) (ms : Nat) (rW : Nat) (mrd : Nat) (mrs : Nat) (mrp : Nat) (mp : Nat) (mb : Nat) (na : Nat) (mk : Nat) (mi : Nat) (sd : Int64) (m1 : Nat) (m2 : Nat) (m3 : Nat) (ml : Nat) (mf : Nat) (mw : Nat) (mn : Nat) (g : Nat → Int32) (L : List Sg) (li : Nat) (ye : Int32) (br : Int32) (As : List SS) (bf : Nat → Int32) (hg : PGR g L li ye br) (hb : BKR bf As) (ha : As.length ≤ 12) (h8 : L.length ≤ 8) : CO l D (TY cI cZ cS) yX5_note cX5_note 2 none 0 0 0 0 [.ref y] [(y, .inr (5, [.int zt, .ref mt, .int (nI ts), .int (nI pl), .int (nI W), .int (nI ll), .ref md, .ref ms, .int (nI rW), .ref mrd, .ref mrs, .ref mrp, .ref mp, .ref mb, .int (nI As.length), .ref mk, .ref mi, .long sd, .ref m1, .ref m2, .ref m3, .ref ml, .ref mf, .ref mw, .ref mn])), (mp, .inl (cI, 52, .inl g)), (mb, .inl (cI, 624, .inl bf))] (σ := (Nat → Int32)) (fun u => none) (fun u => [(y, .inr (5, [.int zt, .ref mt, .int (nI ts), .int (nI pl), .int (nI W), .int (nI ll), .ref md, .ref ms, .int (nI rW), .ref mrd, .ref mrs, .ref mrp, .ref mp, .ref mb, .int (nI ((remL As (L, li, ye, br)).length)), .ref mk, .ref mi, .long sd, .ref m1, .ref m2, .ref m3, .ref ml, .ref mf, .ref mw, .ref mn])), (mp, .inl (cI, 52, .inl g)), (mb, .inl (cI, 624, .inl u))]) (fun u => (BKR u (remL As (L, li, ye, br)))) := by
  refine CO_mkv (by decide +kernel) (Nat.le_of_ble_eq_true rfl) (fun K ok ret => ?_)
  show XX K [(y, .inr (5, [.int zt, .ref mt, .int (nI ts), .int (nI pl), .int (nI W), .int (nI ll), .ref md, .ref ms, .int (nI rW), .ref mrd, .ref mrs, .ref mrp, .ref mp, .ref mb, .int (nI As.length), .ref mk, .ref mi, .long sd, .ref m1, .ref m2, .ref m3, .ref ml, .ref mf, .ref mw, .ref mn])), (mp, .inl (cI, 52, .inl g)), (mb, .inl (cI, 624, .inl bf))] [(0, .ref y)] 0 []
  refine x_aload_n ok 0 dX5_note_0 rfl rfl ?_
  refine gX5_113 ok dX5_note_1 0 rfl rfl ?_
  refine x_bipush ok (nI 12) dX5_note_4 (by decide) ?_
  refine x_icmp_neN ok 49 dX5_note_6 (by decide) (by omega) (by omega) (fun c_6 => ?_) (fun c_6 => ?_)
  · skip
    have eD : dropF As = As := by rw [dropF, if_neg (by omega)]
    have hbD : BKR bf (dropF As) := by rw [eD]; exact hb
    have hd12 : (dropF As).length < 12 := by rw [eD]; omega
    rw [show As.length = (dropF As).length from by rw [eD]]
    refine x_iconst ok (nI 0) dX5_note_49 (by decide) ?_
    refine x_istore_n ok (lv' := [(1, .int (nI 0)), (0, .ref y)]) dX5_note_50 rfl (by decide) rfl ?_
    have L_51 : ∀ (n_51 : Nat) (k : Nat) (b9 : Nat → Int32), 52 - k < n_51 → (k ≤ 52) → (BKR b9 (dropF As)) → (∀ j, j < k → b9 (52 * (dropF As).length + j) = g j) → XX K [(y, .inr (5, [.int zt, .ref mt, .int (nI ts), .int (nI pl), .int (nI W), .int (nI ll), .ref md, .ref ms, .int (nI rW), .ref mrd, .ref mrs, .ref mrp, .ref mp, .ref mb, .int (nI ((dropF As).length)), .ref mk, .ref mi, .long sd, .ref m1, .ref m2, .ref m3, .ref ml, .ref mf, .ref mw, .ref mn])), (mp, .inl (cI, 52, .inl g)), (mb, .inl (cI, 624, .inl b9))] [(1, .int (nI k)), (0, .ref y)] 51 [] := by
      intro n_51
      induction n_51 with
      | zero => intro k b9 hm; exact absurd hm (Nat.not_lt_zero _)
      | succ n_51 ih_51 =>
        intro k b9 hm_51 hk hb9 hc
        refine x_iload_n ok 0 dX5_note_51 rfl rfl ?_
        refine x_bipush ok (nI 52) dX5_note_52 (by decide) ?_
        refine x_icmp_geN ok 83 dX5_note_54 (by decide) (by omega) (by omega) (fun c_54 => ?_) (fun c_54 => ?_)
        · skip
          have eR : (remL As (L, li, ye, br)).length = (dropF As).length + 1 := by rw [remL]; simp
          refine x_aload_n ok 1 dX5_note_83 rfl rfl ?_
          refine x_dup ok dX5_note_84 rfl ?_
          refine gX5_113 ok dX5_note_85 0 rfl rfl ?_
          refine x_iconst ok (nI 1) dX5_note_88 (by decide) ?_
          refine x_iadd ok (nI ((dropF As).length + 1)) dX5_note_89 (nN (nI_add _ _) (by omega)) ?_
          refine pX5_113 ok dX5_note_90 0 rfl rfl rfl (Nat.le_of_ble_eq_true rfl) (ws' := [(y, .inr (5, [.int zt, .ref mt, .int (nI ts), .int (nI pl), .int (nI W), .int (nI ll), .ref md, .ref ms, .int (nI rW), .ref mrd, .ref mrs, .ref mrp, .ref mp, .ref mb, .int (nI ((dropF As).length + 1)), .ref mk, .ref mi, .long sd, .ref m1, .ref m2, .ref m3, .ref ml, .ref mf, .ref mw, .ref mn])), (mp, .inl (cI, 52, .inl g)), (mb, .inl (cI, 624, .inl b9))]) rfl ?_
          exact ret b9 _ _ _ dX5_note_93 (by rw [eR]) (bkr_snoc hb9 hg h8 (fun j hj => hc j (by omega)))
        · skip
          refine x_aload_n ok 1 dX5_note_57 rfl rfl ?_
          refine gX5_31 ok dX5_note_58 0 rfl rfl ?_
          refine x_bipush ok (nI 52) dX5_note_61 (by decide) ?_
          refine x_aload_n ok 1 dX5_note_63 rfl rfl ?_
          refine gX5_113 ok dX5_note_64 0 rfl rfl ?_
          refine x_imul ok (nI (52 * ((dropF As).length))) dX5_note_67 (nN (pk_mul _ _) (by omega)) ?_
          refine x_iload_n ok 0 dX5_note_68 rfl rfl ?_
          refine x_iadd ok (nI (52 * ((dropF As).length) + k)) dX5_note_69 (nN (nI_add _ _) (by omega)) ?_
          refine x_aload_n ok 1 dX5_note_70 rfl rfl ?_
          refine gX5_28 ok dX5_note_71 0 rfl rfl ?_
          refine x_iload_n ok 0 dX5_note_74 rfl rfl ?_
          refine x_iald ok 1 0 k dX5_note_75 rfl rfl (rfl) (by omega) (by decide) ((g k)) (rfl) ?_
          refine x_iast ok 2 0 (52 * ((dropF As).length) + k) (ws' := [(y, .inr (5, [.int zt, .ref mt, .int (nI ts), .int (nI pl), .int (nI W), .int (nI ll), .ref md, .ref ms, .int (nI rW), .ref mrd, .ref mrs, .ref mrp, .ref mp, .ref mb, .int (nI ((dropF As).length)), .ref mk, .ref mi, .long sd, .ref m1, .ref m2, .ref m3, .ref ml, .ref mf, .ref mw, .ref mn])), (mp, .inl (cI, 52, .inl g)), (mb, .inl (cI, 624, .inl (upd b9 (52 * ((dropF As).length) + k) (g k))))]) dX5_note_76 rfl rfl (rfl) (by omega) (by decide) (rfl) rfl ?_
          refine x_iinc ok (v := nI (k + 1)) (lv' := [(1, .int (nI (k + 1))), (0, .ref y)]) dX5_note_77 0 rfl (nN (nI_inc _ 1) (by omega)) (by decide) rfl ?_
          refine x_goto ok 51 dX5_note_80 (by decide) ?_
          exact ih_51 (k + 1) (upd b9 (52 * ((dropF As).length) + k) (g k)) (by omega) (by first | assumption | omega) (bkr_out hb9 (by omega)) (fun j hj => by rcases Nat.lt_or_ge j k with q | q; (rw [upd_n (by omega)]; exact hc j q); (rw [show j = k by omega, upd_s]))
    exact L_51 _ 0 bf (Nat.lt_succ_self _) (by first | assumption | omega) (hbD) (fun j hj => absurd hj (Nat.not_lt_zero j))
  · skip
    refine x_iconst ok (nI 0) dX5_note_9 (by decide) ?_
    refine x_istore_n ok (lv' := [(1, .int (nI 0)), (0, .ref y)]) dX5_note_10 rfl (by decide) rfl ?_
    have L_11 : ∀ (n_11 : Nat) (i : Nat) (b8 : Nat → Int32), 572 - i < n_11 → (i ≤ 572) → (∀ j, j < i → b8 j = bf (j + 52)) → (∀ j, i ≤ j → b8 j = bf j) → XX K [(y, .inr (5, [.int zt, .ref mt, .int (nI ts), .int (nI pl), .int (nI W), .int (nI ll), .ref md, .ref ms, .int (nI rW), .ref mrd, .ref mrs, .ref mrp, .ref mp, .ref mb, .int (nI As.length), .ref mk, .ref mi, .long sd, .ref m1, .ref m2, .ref m3, .ref ml, .ref mf, .ref mw, .ref mn])), (mp, .inl (cI, 52, .inl g)), (mb, .inl (cI, 624, .inl b8))] [(1, .int (nI i)), (0, .ref y)] 11 [] := by
      intro n_11
      induction n_11 with
      | zero => intro i b8 hm; exact absurd hm (Nat.not_lt_zero _)
      | succ n_11 ih_11 =>
        intro i b8 hm_11 hi h81 h82
        refine x_iload_n ok 0 dX5_note_11 rfl rfl ?_
        refine x_sipush ok (nI 572) dX5_note_12 (by decide) ?_
        refine x_icmp_geN ok 39 dX5_note_15 (by decide) (by omega) (by omega) (fun c_15 => ?_) (fun c_15 => ?_)
        · skip
          have hbD : BKR b8 (dropF As) := bkr_drop hb (by omega) (fun j hj => h81 j (by omega))
          have eD : (dropF As).length = As.length - 1 := by rw [dropF, if_pos (by omega)]; simp
          have hd12 : (dropF As).length < 12 := by omega
          refine x_aload_n ok 1 dX5_note_39 rfl rfl ?_
          refine x_dup ok dX5_note_40 rfl ?_
          refine gX5_113 ok dX5_note_41 0 rfl rfl ?_
          refine x_iconst ok (nI 1) dX5_note_44 (by decide) ?_
          refine x_isub ok (nI (As.length - 1)) dX5_note_45 (pk_sub (by omega)) ?_
          rw [show As.length - 1 = (dropF As).length from by omega]
          refine pX5_113 ok dX5_note_46 0 rfl rfl rfl (Nat.le_of_ble_eq_true rfl) (ws' := [(y, .inr (5, [.int zt, .ref mt, .int (nI ts), .int (nI pl), .int (nI W), .int (nI ll), .ref md, .ref ms, .int (nI rW), .ref mrd, .ref mrs, .ref mrp, .ref mp, .ref mb, .int (nI ((dropF As).length)), .ref mk, .ref mi, .long sd, .ref m1, .ref m2, .ref m3, .ref ml, .ref mf, .ref mw, .ref mn])), (mp, .inl (cI, 52, .inl g)), (mb, .inl (cI, 624, .inl b8))]) rfl ?_
          refine x_iconst ok (nI 0) dX5_note_49 (by decide) ?_
          refine x_istore_n ok (lv' := [(1, .int (nI 0)), (0, .ref y)]) dX5_note_50 rfl (by decide) rfl ?_
          have L_51 : ∀ (n_51 : Nat) (k : Nat) (b9 : Nat → Int32), 52 - k < n_51 → (k ≤ 52) → (BKR b9 (dropF As)) → (∀ j, j < k → b9 (52 * (dropF As).length + j) = g j) → XX K [(y, .inr (5, [.int zt, .ref mt, .int (nI ts), .int (nI pl), .int (nI W), .int (nI ll), .ref md, .ref ms, .int (nI rW), .ref mrd, .ref mrs, .ref mrp, .ref mp, .ref mb, .int (nI ((dropF As).length)), .ref mk, .ref mi, .long sd, .ref m1, .ref m2, .ref m3, .ref ml, .ref mf, .ref mw, .ref mn])), (mp, .inl (cI, 52, .inl g)), (mb, .inl (cI, 624, .inl b9))] [(1, .int (nI k)), (0, .ref y)] 51 [] := by
            intro n_51
            induction n_51 with
            | zero => intro k b9 hm; exact absurd hm (Nat.not_lt_zero _)
            | succ n_51 ih_51 =>
              intro k b9 hm_51 hk hb9 hc
              refine x_iload_n ok 0 dX5_note_51 rfl rfl ?_
              refine x_bipush ok (nI 52) dX5_note_52 (by decide) ?_
              refine x_icmp_geN ok 83 dX5_note_54 (by decide) (by omega) (by omega) (fun c_54 => ?_) (fun c_54 => ?_)
              · skip
                have eR : (remL As (L, li, ye, br)).length = (dropF As).length + 1 := by rw [remL]; simp
                refine x_aload_n ok 1 dX5_note_83 rfl rfl ?_
                refine x_dup ok dX5_note_84 rfl ?_
                refine gX5_113 ok dX5_note_85 0 rfl rfl ?_
                refine x_iconst ok (nI 1) dX5_note_88 (by decide) ?_
                refine x_iadd ok (nI ((dropF As).length + 1)) dX5_note_89 (nN (nI_add _ _) (by omega)) ?_
                refine pX5_113 ok dX5_note_90 0 rfl rfl rfl (Nat.le_of_ble_eq_true rfl) (ws' := [(y, .inr (5, [.int zt, .ref mt, .int (nI ts), .int (nI pl), .int (nI W), .int (nI ll), .ref md, .ref ms, .int (nI rW), .ref mrd, .ref mrs, .ref mrp, .ref mp, .ref mb, .int (nI ((dropF As).length + 1)), .ref mk, .ref mi, .long sd, .ref m1, .ref m2, .ref m3, .ref ml, .ref mf, .ref mw, .ref mn])), (mp, .inl (cI, 52, .inl g)), (mb, .inl (cI, 624, .inl b9))]) rfl ?_
                exact ret b9 _ _ _ dX5_note_93 (by rw [eR]) (bkr_snoc hb9 hg h8 (fun j hj => hc j (by omega)))
              · skip
                refine x_aload_n ok 1 dX5_note_57 rfl rfl ?_
                refine gX5_31 ok dX5_note_58 0 rfl rfl ?_
                refine x_bipush ok (nI 52) dX5_note_61 (by decide) ?_
                refine x_aload_n ok 1 dX5_note_63 rfl rfl ?_
                refine gX5_113 ok dX5_note_64 0 rfl rfl ?_
                refine x_imul ok (nI (52 * ((dropF As).length))) dX5_note_67 (nN (pk_mul _ _) (by omega)) ?_
                refine x_iload_n ok 0 dX5_note_68 rfl rfl ?_
                refine x_iadd ok (nI (52 * ((dropF As).length) + k)) dX5_note_69 (nN (nI_add _ _) (by omega)) ?_
                refine x_aload_n ok 1 dX5_note_70 rfl rfl ?_
                refine gX5_28 ok dX5_note_71 0 rfl rfl ?_
                refine x_iload_n ok 0 dX5_note_74 rfl rfl ?_
                refine x_iald ok 1 0 k dX5_note_75 rfl rfl (rfl) (by omega) (by decide) ((g k)) (rfl) ?_
                refine x_iast ok 2 0 (52 * ((dropF As).length) + k) (ws' := [(y, .inr (5, [.int zt, .ref mt, .int (nI ts), .int (nI pl), .int (nI W), .int (nI ll), .ref md, .ref ms, .int (nI rW), .ref mrd, .ref mrs, .ref mrp, .ref mp, .ref mb, .int (nI ((dropF As).length)), .ref mk, .ref mi, .long sd, .ref m1, .ref m2, .ref m3, .ref ml, .ref mf, .ref mw, .ref mn])), (mp, .inl (cI, 52, .inl g)), (mb, .inl (cI, 624, .inl (upd b9 (52 * ((dropF As).length) + k) (g k))))]) dX5_note_76 rfl rfl (rfl) (by omega) (by decide) (rfl) rfl ?_
                refine x_iinc ok (v := nI (k + 1)) (lv' := [(1, .int (nI (k + 1))), (0, .ref y)]) dX5_note_77 0 rfl (nN (nI_inc _ 1) (by omega)) (by decide) rfl ?_
                refine x_goto ok 51 dX5_note_80 (by decide) ?_
                exact ih_51 (k + 1) (upd b9 (52 * ((dropF As).length) + k) (g k)) (by omega) (by first | assumption | omega) (bkr_out hb9 (by omega)) (fun j hj => by rcases Nat.lt_or_ge j k with q | q; (rw [upd_n (by omega)]; exact hc j q); (rw [show j = k by omega, upd_s]))
          exact L_51 _ 0 b8 (Nat.lt_succ_self _) (by first | assumption | omega) (hbD) (fun j hj => absurd hj (Nat.not_lt_zero j))
        · skip
          refine x_aload_n ok 1 dX5_note_18 rfl rfl ?_
          refine gX5_31 ok dX5_note_19 0 rfl rfl ?_
          refine x_iload_n ok 0 dX5_note_22 rfl rfl ?_
          refine x_aload_n ok 1 dX5_note_23 rfl rfl ?_
          refine gX5_31 ok dX5_note_24 0 rfl rfl ?_
          refine x_iload_n ok 0 dX5_note_27 rfl rfl ?_
          refine x_bipush ok (nI 52) dX5_note_28 (by decide) ?_
          refine x_iadd ok (nI (i + 52)) dX5_note_30 (nN (nI_add _ _) (by omega)) ?_
          refine x_iald ok 2 0 (i + 52) dX5_note_31 rfl rfl (rfl) (by omega) (by decide) ((b8 (i + 52))) (rfl) ?_
          refine x_iast ok 2 0 i (ws' := [(y, .inr (5, [.int zt, .ref mt, .int (nI ts), .int (nI pl), .int (nI W), .int (nI ll), .ref md, .ref ms, .int (nI rW), .ref mrd, .ref mrs, .ref mrp, .ref mp, .ref mb, .int (nI As.length), .ref mk, .ref mi, .long sd, .ref m1, .ref m2, .ref m3, .ref ml, .ref mf, .ref mw, .ref mn])), (mp, .inl (cI, 52, .inl g)), (mb, .inl (cI, 624, .inl (upd b8 i (b8 (i + 52)))))]) dX5_note_32 rfl rfl (rfl) (by omega) (by decide) (rfl) rfl ?_
          refine x_iinc ok (v := nI (i + 1)) (lv' := [(1, .int (nI (i + 1))), (0, .ref y)]) dX5_note_33 0 rfl (nN (nI_inc _ 1) (by omega)) (by decide) rfl ?_
          refine x_goto ok 11 dX5_note_36 (by decide) ?_
          exact ih_11 (i + 1) (upd b8 i (b8 (i + 52))) (by omega) (by first | assumption | omega) (fun j hj => by rcases Nat.lt_or_ge j i with q | q; (rw [upd_n (by omega)]; exact h81 j q); (rw [show j = i by omega, upd_s, h82 _ (by omega)])) (fun j hj => by rw [upd_n (by omega)]; exact h82 j (by omega))
    exact L_11 _ 0 bf (Nat.lt_succ_self _) (by first | assumption | omega) (fun j hj => absurd hj (Nat.not_lt_zero j)) (fun j hj => rfl)
