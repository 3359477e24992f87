set_option maxHeartbeats 4000000 in
set_option maxRecDepth 100000 in
theorem e_well (l : Launch) (D : va_G) (cI cZ cS : ClassId) (y : Nat) (zt : Int32) (mt : Nat) (ts : Nat) (pl : Nat) (W : Nat) (ll : Nat) (md : Nat) (ms : Nat) (rW : Nat) (mrd : Nat) (mrs : Nat) (mrp : Nat) (mp : Nat) (mb : Nat) (na : Nat) (mk : Nat) (mi : Nat) (sd : Int64) (m1 : Nat) (m2 : Nat) (m3 : Nat) (ml : Nat) (mf : Nat) (mw : Nat) (mn : Nat) (sf : Nat → Int32) (st : Nat → Nat) (g : Nat → Int32) (L : List Sg) (li : Nat) (ye : Int32) (br : Int32) (A : Nat) (df : Nat → Int32) (dp : Nat → Nat) (w : Int32) (z : Int32) (hst : ∀ w, w < W → sf w = nI (st w)) (hst2 : ∀ w, w < W → st w ≤ 2) (hg : PGR g L li ye br) (hv : okL W A L) (hdp : ∀ w, w < W → df w = nI (dp w)) (hdp2 : ∀ w, w < W → 1 ≤ dp w ∧ dp w ≤ 9) (hW4 : W ≤ 4) (hl : li < 256) : CO l D (TY cI cZ cS) yX5_well cX5_well 5 (some .int) 2 46 0 0 [.ref y, .int w, .int z] [(y, .inr (5, [.int zt, .ref mt, .int (nI ts), .int (nI pl), .int (nI W), .int (nI ll), .ref md, .ref ms, .int (nI rW), .ref mrd, .ref mrs, .ref mrp, .ref mp, .ref mb, .int (nI na), .ref mk, .ref mi, .long sd, .ref m1, .ref m2, .ref m3, .ref ml, .ref mf, .ref mw, .ref mn])), (md, .inl (cI, 4, .inl df)), (ms, .inl (cI, 4, .inl sf)), (mp, .inl (cI, 52, .inl g))] (σ := Unit) (fun u => some (.int (wellI W dp st li L w z))) (fun u => [(y, .inr (5, [.int (nI 0), .ref mt, .int (nI ts), .int (nI pl), .int (nI W), .int (nI ll), .ref md, .ref ms, .int (nI rW), .ref mrd, .ref mrs, .ref mrp, .ref mp, .ref mb, .int (nI na), .ref mk, .ref mi, .long sd, .ref m1, .ref m2, .ref m3, .ref ml, .ref mf, .ref mw, .ref mn])), (md, .inl (cI, 4, .inl df)), (ms, .inl (cI, 4, .inl sf)), (mp, .inl (cI, 52, .inl g))]) (fun u => True) := by
  refine CO_mki (by decide +kernel) (Nat.le_of_ble_eq_true rfl) (fun K ok ret => ?_)
  show XX K [(y, .inr (5, [.int zt, .ref mt, .int (nI ts), .int (nI pl), .int (nI W), .int (nI ll), .ref md, .ref ms, .int (nI rW), .ref mrd, .ref mrs, .ref mrp, .ref mp, .ref mb, .int (nI na), .ref mk, .ref mi, .long sd, .ref m1, .ref m2, .ref m3, .ref ml, .ref mf, .ref mw, .ref mn])), (md, .inl (cI, 4, .inl df)), (ms, .inl (cI, 4, .inl sf)), (mp, .inl (cI, 52, .inl g))] [(0, .ref y), (1, .int w), (2, .int z)] 0 []
  have h8 := hv.1
  refine x_aload_n ok 0 dX5_well_0 rfl rfl ?_
  refine x_iconst ok (nI 0) dX5_well_1 (by decide) ?_
  refine pX5_62 ok dX5_well_2 0 rfl rfl rfl (Nat.le_of_ble_eq_true rfl) (ws' := [(y, .inr (5, [.int (nI 0), .ref mt, .int (nI ts), .int (nI pl), .int (nI W), .int (nI ll), .ref md, .ref ms, .int (nI rW), .ref mrd, .ref mrs, .ref mrp, .ref mp, .ref mb, .int (nI na), .ref mk, .ref mi, .long sd, .ref m1, .ref m2, .ref m3, .ref ml, .ref mf, .ref mw, .ref mn])), (md, .inl (cI, 4, .inl df)), (ms, .inl (cI, 4, .inl sf)), (mp, .inl (cI, 52, .inl g))]) rfl ?_
  refine x_aload_n ok 0 dX5_well_5 rfl rfl ?_
  refine x_iload_n ok 1 dX5_well_6 rfl rfl ?_
  refine qX5_116 ok (As := [.int w]) (st := []) 0 rfl (d_noWell l D cI cZ cS y (nI 0) mt ts pl W ll md ms rW mrd mrs mrp mp mb na mk mi sd m1 m2 m3 ml mf mw mn w (by first | assumption | omega)) rfl (Nat.le_of_ble_eq_true rfl) (Nat.le_of_ble_eq_true rfl) (Nat.le_of_ble_eq_true rfl) dX5_well_7 [0] (by decide) rfl (ws' := fun u => [(y, .inr (5, [.int (nI 0), .ref mt, .int (nI ts), .int (nI pl), .int (nI W), .int (nI ll), .ref md, .ref ms, .int (nI rW), .ref mrd, .ref mrs, .ref mrp, .ref mp, .ref mb, .int (nI na), .ref mk, .ref mi, .long sd, .ref m1, .ref m2, .ref m3, .ref ml, .ref mf, .ref mw, .ref mn])), (md, .inl (cI, 4, .inl df)), (ms, .inl (cI, 4, .inl sf)), (mp, .inl (cI, 52, .inl g))]) (st' := fun u => [.int (bz (!hasB w W))]) (fun _ => rfl) (fun _ => rfl) (fun _ => rfl) (fun _ _ => ?_)
  refine x_if_eqB ok 15 dX5_well_10 (by decide) (fun c_10 => ?_) (fun c_10 => ?_)
  · skip
    have hh : hasB w W = true := by simpa using c_10
    obtain ⟨j, hj, e_w⟩ := hasB_t (by omega) hh
    subst e_w
    have ej := cl_n (show j < 2 ^ 31 by omega)
    refine x_iconst ok (nI 0) dX5_well_15 (by decide) ?_
    refine x_istore_n ok (lv' := [(3, .int (nI 0)), (0, .ref y), (1, .int (nI j)), (2, .int z)]) dX5_well_16 rfl (by decide) rfl ?_
    refine x_iconst ok (nI 0) dX5_well_17 (by decide) ?_
    refine x_istore ok (lv' := [(4, .int (nI 0)), (3, .int (nI 0)), (0, .ref y), (1, .int (nI j)), (2, .int z)]) dX5_well_18 (by decide) rfl ?_
    have L_20 : ∀ (n_20 : Nat) (i : Nat), L.length - i < n_20 → (i ≤ L.length) → XX K [(y, .inr (5, [.int (nI 0), .ref mt, .int (nI ts), .int (nI pl), .int (nI W), .int (nI ll), .ref md, .ref ms, .int (nI rW), .ref mrd, .ref mrs, .ref mrp, .ref mp, .ref mb, .int (nI na), .ref mk, .ref mi, .long sd, .ref m1, .ref m2, .ref m3, .ref ml, .ref mf, .ref mw, .ref mn])), (md, .inl (cI, 4, .inl df)), (ms, .inl (cI, 4, .inl sf)), (mp, .inl (cI, 52, .inl g))] [(4, .int (nI i)), (3, .int (nI (orN (sing1 L j) i))), (0, .ref y), (1, .int (nI j)), (2, .int z)] 20 [] := by
      intro n_20
      induction n_20 with
      | zero => intro i hm; exact absurd hm (Nat.not_lt_zero _)
      | succ n_20 ih_20 =>
        intro i hm_20 hi
        refine x_iload ok 0 dX5_well_20 rfl ?_
        refine x_aload_n ok 2 dX5_well_22 rfl rfl ?_
        refine gX5_28 ok dX5_well_23 0 rfl rfl ?_
        refine x_bipush ok (nI 48) dX5_well_26 (by decide) ?_
        refine x_iald ok 3 0 48 dX5_well_28 rfl rfl (rfl) (by omega) (by decide) (nI L.length) (hg.2.1) ?_
        refine x_icmp_geN ok 65 dX5_well_29 (by decide) (by omega) (by omega) (fun c_29 => ?_) (fun c_29 => ?_)
        · skip
          have ei : i = L.length := by omega
          refine x_iload_n ok 4 dX5_well_65 rfl rfl ?_
          refine x_if_ne ok 78 dX5_well_66 (by decide) (fun c_66 => ?_) (fun c_66 => ?_)
          · skip
            refine x_iload_n ok 4 dX5_well_78 rfl rfl ?_
            refine x_iconst ok (nI 1) dX5_well_79 (by decide) ?_
            refine x_icmp_ne ok 92 dX5_well_80 (by decide) (fun c_80 => ?_) (fun c_80 => ?_)
            · skip
              refine x_iload_n ok 4 dX5_well_92 rfl rfl ?_
              refine x_iconst ok (nI 2) dX5_well_93 (by decide) ?_
              refine x_icmp_ne ok 111 dX5_well_94 (by decide) (fun c_94 => ?_) (fun c_94 => ?_)
              · skip
                refine x_iload_n ok 4 dX5_well_111 rfl rfl ?_
                refine x_iconst ok (nI 3) dX5_well_112 (by decide) ?_
                refine x_icmp_ne ok 120 dX5_well_113 (by decide) (fun c_113 => ?_) (fun c_113 => ?_)
                · skip
                  refine x_bipush ok ((-2)) dX5_well_120 (by decide) ?_
                  exact ret () _ _ _ ((-2)) dX5_well_122 (rfl) (by rw [wellI, if_pos hh, if_neg (show ¬ z = nI 0 from c_66), if_neg c_80, if_neg c_94, if_neg c_113]) (trivial)
                · skip
                  refine x_iload_n ok 1 dX5_well_116 rfl rfl ?_
                  refine x_goto ok 122 dX5_well_117 (by decide) ?_
                  exact ret () _ _ _ (nI (orN (sing1 L j) i)) dX5_well_122 (rfl) (by rw [wellI, if_pos hh, if_neg (show ¬ z = nI 0 from c_66), if_neg c_80, if_neg c_94, if_pos c_113, ej, ei]) (trivial)
              · skip
                refine x_aload_n ok 2 dX5_well_97 rfl rfl ?_
                refine gX5_28 ok dX5_well_98 0 rfl rfl ?_
                refine x_bipush ok (nI 49) dX5_well_101 (by decide) ?_
                refine x_iald ok 3 0 49 dX5_well_103 rfl rfl (rfl) (by omega) (by decide) (nI li) (hg.2.2.1) ?_
                refine x_iload_n ok 3 dX5_well_104 rfl rfl ?_
                refine x_ishr ok (((nI li) >>> ((nI j) &&& 31))) dX5_well_105 (rfl) ?_
                refine x_iconst ok (nI 1) dX5_well_106 (by decide) ?_
                refine x_iand ok (nI ((li.testBit j).toNat)) dX5_well_107 (tb0 _ (by omega) j (by omega)) ?_
                refine x_goto ok 122 dX5_well_108 (by decide) ?_
                exact ret () _ _ _ (nI ((li.testBit j).toNat)) dX5_well_122 (rfl) (by rw [wellI, if_pos hh, if_neg (show ¬ z = nI 0 from c_66), if_neg c_80, if_pos c_94, ej]) (trivial)
            · skip
              refine x_aload_n ok 2 dX5_well_83 rfl rfl ?_
              refine gX5_16 ok dX5_well_84 0 rfl rfl ?_
              refine x_iload_n ok 3 dX5_well_87 rfl rfl ?_
              refine x_iald ok 2 0 j dX5_well_88 rfl rfl (rfl) (by omega) (by decide) (nI (st j)) (hst j hj) ?_
              refine x_goto ok 122 dX5_well_89 (by decide) ?_
              exact ret () _ _ _ (nI (st j)) dX5_well_122 (rfl) (by rw [wellI, if_pos hh, if_neg (show ¬ z = nI 0 from c_66), if_pos c_80, ej]) (trivial)
          · skip
            refine x_aload_n ok 2 dX5_well_69 rfl rfl ?_
            refine gX5_13 ok dX5_well_70 0 rfl rfl ?_
            refine x_iload_n ok 3 dX5_well_73 rfl rfl ?_
            refine x_iald ok 1 0 j dX5_well_74 rfl rfl (rfl) (by omega) (by decide) (nI (dp j)) (hdp j hj) ?_
            refine x_goto ok 122 dX5_well_75 (by decide) ?_
            exact ret () _ _ _ (nI (dp j)) dX5_well_122 (rfl) (by rw [wellI, if_pos hh, if_pos (show z = nI 0 from c_66), ej]) (trivial)
        · skip
          obtain ⟨v0, v1, v2, v2b, v3, v4, v5⟩ := hv.2 i (by omega)
          refine x_iload_n ok 1 dX5_well_32 rfl rfl ?_
          refine x_aload_n ok 2 dX5_well_33 rfl rfl ?_
          refine gX5_28 ok dX5_well_34 0 rfl rfl ?_
          refine x_bipush ok (nI 6) dX5_well_37 (by decide) ?_
          refine x_iload ok 0 dX5_well_39 rfl ?_
          refine x_imul ok (nI (i * 6)) dX5_well_41 (nN (pk_mul _ _) (by omega)) ?_
          refine x_iconst ok (nI 1) dX5_well_42 (by decide) ?_
          refine x_iadd ok (nI (i * 6 + 1)) dX5_well_43 (nN (nI_add _ _) (by omega)) ?_
          refine x_iald ok 3 0 (i * 6 + 1) dX5_well_44 rfl rfl (rfl) (by omega) (by decide) (nI (sg L i 1)) (hg.1 i 1 (by omega) (by omega)) ?_
          refine x_iload_n ok 3 dX5_well_45 rfl rfl ?_
          have J_57 : ∀ (v57_1 : Nat), v57_1 = (if (sg L i 1) = j then 2 ^ i else 0) → XX K [(y, .inr (5, [.int (nI 0), .ref mt, .int (nI ts), .int (nI pl), .int (nI W), .int (nI ll), .ref md, .ref ms, .int (nI rW), .ref mrd, .ref mrs, .ref mrp, .ref mp, .ref mb, .int (nI na), .ref mk, .ref mi, .long sd, .ref m1, .ref m2, .ref m3, .ref ml, .ref mf, .ref mw, .ref mn])), (md, .inl (cI, 4, .inl df)), (ms, .inl (cI, 4, .inl sf)), (mp, .inl (cI, 52, .inl g))] [(4, .int (nI i)), (3, .int (nI (orN (sing1 L j) i))), (0, .ref y), (1, .int (nI j)), (2, .int z)] 57 [.int (nI v57_1), .int (nI (orN (sing1 L j) i))] := by
            intro v57_1 e_v57_1
            refine x_ior ok (nI (orN (sing1 L j) (i + 1))) dX5_well_57 (by rw [e_v57_1]; exact fa_or _ _) ?_
            refine x_istore_n ok (lv' := [(3, .int (nI (orN (sing1 L j) (i + 1)))), (4, .int (nI i)), (0, .ref y), (1, .int (nI j)), (2, .int z)]) dX5_well_58 rfl (by decide) rfl ?_
            refine x_iinc ok (v := nI (i + 1)) (lv' := [(4, .int (nI (i + 1))), (3, .int (nI (orN (sing1 L j) (i + 1)))), (0, .ref y), (1, .int (nI j)), (2, .int z)]) dX5_well_59 1 rfl (nN (nI_inc _ 1) (by omega)) (by decide) rfl ?_
            refine x_goto ok 20 dX5_well_62 (by decide) ?_
            exact ih_20 (i + 1) (by omega) (by first | assumption | omega)
          refine x_icmp_neN ok 56 dX5_well_46 (by decide) (by omega) (by omega) (fun c_46 => ?_) (fun c_46 => ?_)
          · skip
            refine x_iconst ok (nI 0) dX5_well_56 (by decide) ?_
            exact J_57 0 (by first | rfl | (simp only [if_neg c_46]; done) | (simp [c_46]; done))
          · skip
            refine x_iconst ok (nI 1) dX5_well_49 (by decide) ?_
            refine x_iload ok 0 dX5_well_50 rfl ?_
            refine x_ishl ok (nI (2 ^ i)) dX5_well_52 (shl1 _ (by omega)) ?_
            refine x_goto ok 57 dX5_well_53 (by decide) ?_
            exact J_57 (2 ^ i) (by first | rfl | (simp only [if_pos c_46]; done) | (simp [c_46]; done))
    exact L_20 _ 0 (Nat.lt_succ_self _) (by first | assumption | omega)
  · skip
    have hh : ¬ hasB w W = true := by simpa using c_10
    refine x_iconst ok ((-1)) dX5_well_13 (by decide) ?_
    exact ret () _ _ _ ((-1)) dX5_well_14 (rfl) (by rw [wellI, if_neg hh]) (trivial)
