set_option maxHeartbeats 4000000 in
set_option maxRecDepth 100000 in
theorem d_aloneLoss (l : Launch) (D : va_G) (cI cZ cS : ClassId) (y : Nat) (zt : Int32) (mt : Nat) (ts : Nat) (pl : Nat) (W : Nat) (ll : Nat) (md : Nat) (ms : Nat) (rW : Nat) (mrd : Nat) (mrs : Nat) (mrp : Nat) (mp : Nat) (mb : Nat) (na : Nat) (mk : Nat) (mi : Nat) (sd : Int64) (m1 : Nat) (m2 : Nat) (m3 : Nat) (ml : Nat) (mf : Nat) (mw : Nat) (mn : Nat) (sf : Nat → Int32) (st : Nat → Nat) (w : Nat) (li : Nat) (hst : ∀ w, w < W → sf w = nI (st w)) (hst2 : ∀ w, w < W → st w ≤ 2) (hW4 : W ≤ 4) (hw : w < W) (hl : li < 256) : CO l D (TY cI cZ cS) yX5_aloneLoss cX5_aloneLoss 3 (some .int) 1 21 0 0 [.ref y, .int (nI w), .int (nI li)] [(y, .inr (5, [.int zt, .ref mt, .int (nI ts), .int (nI pl), .int (nI W), .int (nI ll), .ref md, .ref ms, .int (nI rW), .ref mrd, .ref mrs, .ref mrp, .ref mp, .ref mb, .int (nI na), .ref mk, .ref mi, .long sd, .ref m1, .ref m2, .ref m3, .ref ml, .ref mf, .ref mw, .ref mn])), (ms, .inl (cI, 4, .inl sf))] (σ := Unit) (fun u => some (.int (nI (st w + (if li.testBit w = true then 0 else 1))))) (fun u => [(y, .inr (5, [.int zt, .ref mt, .int (nI ts), .int (nI pl), .int (nI W), .int (nI ll), .ref md, .ref ms, .int (nI rW), .ref mrd, .ref mrs, .ref mrp, .ref mp, .ref mb, .int (nI na), .ref mk, .ref mi, .long sd, .ref m1, .ref m2, .ref m3, .ref ml, .ref mf, .ref mw, .ref mn])), (ms, .inl (cI, 4, .inl sf))]) (fun u => True) := by
  refine CO_mki (by decide +kernel) (Nat.le_of_ble_eq_true rfl) (fun K ok ret => ?_)
  show XX K [(y, .inr (5, [.int zt, .ref mt, .int (nI ts), .int (nI pl), .int (nI W), .int (nI ll), .ref md, .ref ms, .int (nI rW), .ref mrd, .ref mrs, .ref mrp, .ref mp, .ref mb, .int (nI na), .ref mk, .ref mi, .long sd, .ref m1, .ref m2, .ref m3, .ref ml, .ref mf, .ref mw, .ref mn])), (ms, .inl (cI, 4, .inl sf))] [(0, .ref y), (1, .int (nI w)), (2, .int (nI li))] 0 []
  have hw2 := hst2 w hw
  refine x_iconst ok (nI 1) dX5_aloneLoss_0 (by decide) ?_
  refine x_aload_n ok 0 dX5_aloneLoss_1 rfl rfl ?_
  refine gX5_16 ok dX5_aloneLoss_2 0 rfl rfl ?_
  refine x_iload_n ok 1 dX5_aloneLoss_5 rfl rfl ?_
  refine x_iald ok 1 0 w dX5_aloneLoss_6 rfl rfl (rfl) (by omega) (by decide) (nI (st w)) (hst w hw) ?_
  refine x_iadd ok (nI (1 + (st w))) dX5_aloneLoss_7 (nN (nI_add _ _) (by omega)) ?_
  refine x_iload_n ok 2 dX5_aloneLoss_8 rfl rfl ?_
  refine x_iload_n ok 1 dX5_aloneLoss_9 rfl rfl ?_
  refine qX5_125 ok (As := [.int (nI li), .int (nI w)]) (st := [.int (nI (1 + (st w)))]) (d_has l D cI cZ cS li w (by first | assumption | omega) (by first | assumption | omega)) rfl (Nat.le_of_ble_eq_true rfl) (Nat.le_of_ble_eq_true rfl) (Nat.le_of_ble_eq_true rfl) dX5_aloneLoss_10 [] (by decide) rfl (ws' := fun u => [(y, .inr (5, [.int zt, .ref mt, .int (nI ts), .int (nI pl), .int (nI W), .int (nI ll), .ref md, .ref ms, .int (nI rW), .ref mrd, .ref mrs, .ref mrp, .ref mp, .ref mb, .int (nI na), .ref mk, .ref mi, .long sd, .ref m1, .ref m2, .ref m3, .ref ml, .ref mf, .ref mw, .ref mn])), (ms, .inl (cI, 4, .inl sf))]) (st' := fun u => [.int (bz (li.testBit w)), .int (nI (1 + (st w)))]) (fun _ => rfl) (fun _ => rfl) (fun _ => rfl) (fun _ _ => ?_)
  refine x_if_eqB ok 20 dX5_aloneLoss_13 (by decide) (fun c_13 => ?_) (fun c_13 => ?_)
  · skip
    refine x_iconst ok (nI 0) dX5_aloneLoss_20 (by decide) ?_
    refine x_isub ok (nI (st w + (if li.testBit w = true then 0 else 1))) dX5_aloneLoss_21 ((pk_sub (by omega)).trans (congrArg nI (by rw [if_neg c_13]; omega))) ?_
    exact ret () _ _ _ (nI (st w + (if li.testBit w = true then 0 else 1))) dX5_aloneLoss_22 (rfl) (by first | rfl | (simp [c_13]; done)) (trivial)
  · skip
    refine x_iconst ok (nI 1) dX5_aloneLoss_16 (by decide) ?_
    refine x_goto ok 21 dX5_aloneLoss_17 (by decide) ?_
    refine x_isub ok (nI (st w + (if li.testBit w = true then 0 else 1))) dX5_aloneLoss_21 ((pk_sub (by omega)).trans (congrArg nI (by rw [if_pos c_13]; omega))) ?_
    exact ret () _ _ _ (nI (st w + (if li.testBit w = true then 0 else 1))) dX5_aloneLoss_22 (rfl) (by first | rfl | (simp [c_13]; done)) (trivial)

set_option maxHeartbeats 4000000 in
set_option maxRecDepth 100000 in
theorem d_wear (l : Launch) (D : va_G) (cI cZ cS : ClassId) (y : Nat) (zt : Int32) (mt : Nat) (ts : Nat) (pl : Nat) (W : Nat) (ll : Nat) (md : Nat) (ms : Nat) (rW : Nat) (mrd : Nat) (mrs : Nat) (mrp : Nat) (mp : Nat) (mb : Nat) (na : Nat) (mk : Nat) (mi : Nat) (sd : Int64) (m1 : Nat) (m2 : Nat) (m3 : Nat) (ml : Nat) (mf : Nat) (mw : Nat) (mn : Nat) (q : Nat) (g : Nat → Int32) (L : List Sg) (li : Nat) (ye : Int32) (br : Int32) (lf : Nat → Int32) (lo : Nat → Nat) (A : Nat) (lk : Int32) (bg : Bool) (ag : Nat) (hg : PGR g L li ye br) (hv : okL W A L) (hlf : ∀ i, i < L.length → lf i = nI (lo i)) (hlo : ∀ i, i < L.length → lo i < 100) (hag : ag = if bg = true then 1 else 0) (hA : A < 1000000) : CO l D (TY cI cZ cS) yX5_wear cX5_wear 9 (some .int) 0 0 0 0 [.ref y, .ref q, .int lk, .int (bz bg)] [(y, .inr (5, [.int zt, .ref mt, .int (nI ts), .int (nI pl), .int (nI W), .int (nI ll), .ref md, .ref ms, .int (nI rW), .ref mrd, .ref mrs, .ref mrp, .ref mp, .ref mb, .int (nI na), .ref mk, .ref mi, .long sd, .ref m1, .ref m2, .ref m3, .ref ml, .ref mf, .ref mw, .ref mn])), (q, .inl (cI, 52, .inl g)), (ml, .inl (cI, 8, .inl lf))] (σ := (Nat → Int32)) (fun u => some (.int (wrN lo L lk L.length))) (fun u => [(y, .inr (5, [.int zt, .ref mt, .int (nI ts), .int (nI pl), .int (nI W), .int (nI ll), .ref md, .ref ms, .int (nI rW), .ref mrd, .ref mrs, .ref mrp, .ref mp, .ref mb, .int (nI na), .ref mk, .ref mi, .long sd, .ref m1, .ref m2, .ref m3, .ref ml, .ref mf, .ref mw, .ref mn])), (q, .inl (cI, 52, .inl u)), (ml, .inl (cI, 8, .inl lf))]) (fun u => (PGR u (low lo ag L L.length) li ye br)) := by
  refine CO_mki (by decide +kernel) (Nat.le_of_ble_eq_true rfl) (fun K ok ret => ?_)
  show XX K [(y, .inr (5, [.int zt, .ref mt, .int (nI ts), .int (nI pl), .int (nI W), .int (nI ll), .ref md, .ref ms, .int (nI rW), .ref mrd, .ref mrs, .ref mrp, .ref mp, .ref mb, .int (nI na), .ref mk, .ref mi, .long sd, .ref m1, .ref m2, .ref m3, .ref ml, .ref mf, .ref mw, .ref mn])), (q, .inl (cI, 52, .inl g)), (ml, .inl (cI, 8, .inl lf))] [(0, .ref y), (1, .ref q), (2, .int lk), (3, .int (bz bg))] 0 []
  have h8 := hv.1
  obtain ⟨p1, p2, p3, p4, p5⟩ := hg
  refine x_aload_n ok 1 dX5_wear_0 rfl rfl ?_
  refine x_bipush ok (nI 48) dX5_wear_1 (by decide) ?_
  refine x_iald ok 1 0 48 dX5_wear_3 rfl rfl (rfl) (by omega) (by decide) (nI L.length) (p2) ?_
  refine x_istore ok (lv' := [(4, .int (nI L.length)), (0, .ref y), (1, .ref q), (2, .int lk), (3, .int (bz bg))]) dX5_wear_4 (by decide) rfl ?_
  refine x_bipush ok ((-9)) dX5_wear_6 (by decide) ?_
  refine x_istore ok (lv' := [(5, .int (-9)), (4, .int (nI L.length)), (0, .ref y), (1, .ref q), (2, .int lk), (3, .int (bz bg))]) dX5_wear_8 (by decide) rfl ?_
  refine x_aload_n ok 3 dX5_wear_10 rfl rfl ?_
  refine x_bipush ok (nI 48) dX5_wear_11 (by decide) ?_
  refine x_iconst ok (nI 0) dX5_wear_13 (by decide) ?_
  refine x_iast ok 1 0 48 (ws' := [(y, .inr (5, [.int zt, .ref mt, .int (nI ts), .int (nI pl), .int (nI W), .int (nI ll), .ref md, .ref ms, .int (nI rW), .ref mrd, .ref mrs, .ref mrp, .ref mp, .ref mb, .int (nI na), .ref mk, .ref mi, .long sd, .ref m1, .ref m2, .ref m3, .ref ml, .ref mf, .ref mw, .ref mn])), (q, .inl (cI, 52, .inl (upd g 48 (nI 0)))), (ml, .inl (cI, 8, .inl lf))]) dX5_wear_14 rfl rfl (rfl) (by omega) (by decide) (rfl) rfl ?_
  refine x_iconst ok (nI 0) dX5_wear_15 (by decide) ?_
  refine x_istore ok (lv' := [(6, .int (nI 0)), (5, .int (-9)), (4, .int (nI L.length)), (0, .ref y), (1, .ref q), (2, .int lk), (3, .int (bz bg))]) dX5_wear_16 (by decide) rfl ?_
  have L_18 : ∀ (n_18 : Nat) (i : Nat) (g9 : Nat → Int32), L.length - i < n_18 → (i ≤ L.length) → (PGR g9 (low lo ag L i) li ye br) → (∀ j, i * 6 ≤ j → j < 48 → g9 j = g j) → XX K [(y, .inr (5, [.int zt, .ref mt, .int (nI ts), .int (nI pl), .int (nI W), .int (nI ll), .ref md, .ref ms, .int (nI rW), .ref mrd, .ref mrs, .ref mrp, .ref mp, .ref mb, .int (nI na), .ref mk, .ref mi, .long sd, .ref m1, .ref m2, .ref m3, .ref ml, .ref mf, .ref mw, .ref mn])), (q, .inl (cI, 52, .inl g9)), (ml, .inl (cI, 8, .inl lf))] [(6, .int (nI i)), (5, .int (wrN lo L lk i)), (4, .int (nI L.length)), (0, .ref y), (1, .ref q), (2, .int lk), (3, .int (bz bg))] 18 [] := by
    intro n_18
    induction n_18 with
    | zero => intro i g9 hm; exact absurd hm (Nat.not_lt_zero _)
    | succ n_18 ih_18 =>
      intro i g9 hm_18 hi hp9 hr
      have ln := low_len (lo := lo) (ag := ag) (L := L) i
      have lg := low_leng (lo := lo) (ag := ag) (L := L) i
      refine x_iload ok 0 dX5_wear_18 rfl ?_
      refine x_iload ok 2 dX5_wear_20 rfl ?_
      refine x_icmp_geN ok 151 dX5_wear_22 (by decide) (by omega) (by omega) (fun c_22 => ?_) (fun c_22 => ?_)
      · skip
        have e_i : L.length = i := by omega
        subst e_i
        refine x_iload ok 1 dX5_wear_151 rfl ?_
        exact ret g9 _ _ _ ((wrN lo L lk L.length)) dX5_wear_153 (rfl) (by first | rfl | (simp [c_22]; done)) (hp9)
      · skip
        obtain ⟨v0, v1, v2, v2b, v3, v4, v5⟩ := hv.2 i (by omega)
        have hloi := hlo i (by omega)
        refine x_aload_n ok 4 dX5_wear_25 rfl rfl ?_
        refine x_bipush ok (nI 6) dX5_wear_26 (by decide) ?_
        refine x_iload ok 0 dX5_wear_28 rfl ?_
        refine x_imul ok (nI (i * 6)) dX5_wear_30 (nN (pk_mul _ _) (by omega)) ?_
        refine x_iconst ok (nI 2) dX5_wear_31 (by decide) ?_
        refine x_iadd ok (nI (i * 6 + 2)) dX5_wear_32 (nN (nI_add _ _) (by omega)) ?_
        refine x_iald ok 1 0 (i * 6 + 2) dX5_wear_33 rfl rfl (rfl) (by omega) (by decide) (nI (sg L i 2)) (by rw [hr _ (by omega) (by omega)]; exact p1 i 2 (by omega) (by omega)) ?_
        refine x_aload_n ok 3 dX5_wear_34 rfl rfl ?_
        refine gX5_50 ok dX5_wear_35 0 rfl rfl ?_
        refine x_iload ok 0 dX5_wear_38 rfl ?_
        refine x_iald ok 2 0 i dX5_wear_40 rfl rfl (rfl) (by omega) (by decide) (nI (lo i)) (hlf i (by omega)) ?_
        refine x_icmp_leN ok 145 dX5_wear_41 (by decide) (by omega) (by omega) (fun c_41 => ?_) (fun c_41 => ?_)
        · skip
          have nl : ¬ lo i < sg L i 2 := by omega
          refine x_iinc ok (v := nI (i + 1)) (lv' := [(6, .int (nI (i + 1))), (5, .int (wrN lo L lk i)), (4, .int (nI L.length)), (0, .ref y), (1, .ref q), (2, .int lk), (3, .int (bz bg))]) dX5_wear_145 0 rfl (nN (nI_inc _ 1) (by omega)) (by decide) rfl ?_
          refine x_goto ok 18 dX5_wear_148 (by decide) ?_
          have em : wrN lo L lk i = wrN lo L lk (i + 1) := by rw [wrN, if_neg (fun z => nl z.1)]
          rw [em]
          exact ih_18 (i + 1) g9 (by omega) (by first | assumption | omega) (by rw [low_n nl]; exact hp9) (fun j h1 h2 => hr j (by omega) h2)
        · skip
          have yl : lo i < sg L i 2 := by omega
          refine x_bipush ok (nI 6) dX5_wear_44 (by decide) ?_
          refine x_aload_n ok 4 dX5_wear_46 rfl rfl ?_
          refine x_bipush ok (nI 48) dX5_wear_47 (by decide) ?_
          refine x_iald ok 1 0 48 dX5_wear_49 rfl rfl (rfl) (by omega) (by decide) (nI ((low lo ag L i).length)) (hp9.2.1) ?_
          refine x_imul ok (nI (6 * ((low lo ag L i).length))) dX5_wear_50 (nN (pk_mul _ _) (by omega)) ?_
          obtain ⟨at0, e_at0⟩ : ∃ y : Nat, y = 6 * ((low lo ag L i).length) := ⟨_, rfl⟩
          rw [← e_at0]
          refine x_istore ok (lv' := [(7, .int (nI at0)), (6, .int (nI i)), (5, .int (wrN lo L lk i)), (4, .int (nI L.length)), (0, .ref y), (1, .ref q), (2, .int lk), (3, .int (bz bg))]) dX5_wear_51 (by decide) rfl ?_
          refine x_iconst ok (nI 0) dX5_wear_53 (by decide) ?_
          refine x_istore ok (lv' := [(8, .int (nI 0)), (7, .int (nI at0)), (6, .int (nI i)), (5, .int (wrN lo L lk i)), (4, .int (nI L.length)), (0, .ref y), (1, .ref q), (2, .int lk), (3, .int (bz bg))]) dX5_wear_54 (by decide) rfl ?_
          have L_56 : ∀ (n_56 : Nat) (k : Nat) (g8 : Nat → Int32), 6 - k < n_56 → (k ≤ 6) → (hs g8 (low lo ag L i)) → (g8 48 = nI (low lo ag L i).length) → (g8 49 = nI li) → (g8 50 = ye) → (g8 51 = br) → (∀ j, i * 6 ≤ j → j < 48 → g8 j = g j) → (∀ t, t < k → g8 ((low lo ag L i).length * 6 + t) = g (i * 6 + t)) → XX K [(y, .inr (5, [.int zt, .ref mt, .int (nI ts), .int (nI pl), .int (nI W), .int (nI ll), .ref md, .ref ms, .int (nI rW), .ref mrd, .ref mrs, .ref mrp, .ref mp, .ref mb, .int (nI na), .ref mk, .ref mi, .long sd, .ref m1, .ref m2, .ref m3, .ref ml, .ref mf, .ref mw, .ref mn])), (q, .inl (cI, 52, .inl g8)), (ml, .inl (cI, 8, .inl lf))] [(8, .int (nI k)), (7, .int (nI at0)), (6, .int (nI i)), (5, .int (wrN lo L lk i)), (4, .int (nI L.length)), (0, .ref y), (1, .ref q), (2, .int lk), (3, .int (bz bg))] 56 [] := by
            intro n_56
            induction n_56 with
            | zero => intro k g8 hm; exact absurd hm (Nat.not_lt_zero _)
            | succ n_56 ih_56 =>
              intro k g8 hm_56 hk hs8 h48 h49 h50 h51 hr8 hc8
              refine x_iload ok 0 dX5_wear_56 rfl ?_
              refine x_bipush ok (nI 6) dX5_wear_58 (by decide) ?_
              refine x_icmp_geN ok 86 dX5_wear_60 (by decide) (by omega) (by omega) (fun c_60 => ?_) (fun c_60 => ?_)
              · skip
                have hat : ∀ t, at0 + t = (low lo ag L i).length * 6 + t := fun t => by omega
                refine x_aload_n ok 6 dX5_wear_86 rfl rfl ?_
                refine x_iload ok 1 dX5_wear_87 rfl ?_
                refine x_iconst ok (nI 2) dX5_wear_89 (by decide) ?_
                refine x_iadd ok (nI (at0 + 2)) dX5_wear_90 (nN (nI_add _ _) (by omega)) ?_
                refine x_dup2 ok dX5_wear_91 rfl rfl ?_
                refine x_iald ok 1 0 (at0 + 2) dX5_wear_92 rfl rfl (rfl) (by omega) (by decide) (nI (sg L i 2)) (by rw [hat, hc8 2 (by omega)]; exact p1 i 2 (by omega) (by omega)) ?_
                refine x_aload_n ok 5 dX5_wear_93 rfl rfl ?_
                refine gX5_50 ok dX5_wear_94 0 rfl rfl ?_
                refine x_iload ok 2 dX5_wear_97 rfl ?_
                refine x_iald ok 2 0 i dX5_wear_99 rfl rfl (rfl) (by omega) (by decide) (nI (lo i)) (hlf i (by omega)) ?_
                refine x_isub ok (nI ((sg L i 2) - (lo i))) dX5_wear_100 (pk_sub (by omega)) ?_
                refine x_iast ok 1 0 (at0 + 2) (ws' := [(y, .inr (5, [.int zt, .ref mt, .int (nI ts), .int (nI pl), .int (nI W), .int (nI ll), .ref md, .ref ms, .int (nI rW), .ref mrd, .ref mrs, .ref mrp, .ref mp, .ref mb, .int (nI na), .ref mk, .ref mi, .long sd, .ref m1, .ref m2, .ref m3, .ref ml, .ref mf, .ref mw, .ref mn])), (q, .inl (cI, 52, .inl (upd g8 (at0 + 2) (nI ((sg L i 2) - (lo i)))))), (ml, .inl (cI, 8, .inl lf))]) dX5_wear_101 rfl rfl (rfl) (by omega) (by decide) (rfl) rfl ?_
                refine x_aload_n ok 6 dX5_wear_102 rfl rfl ?_
                refine x_iload ok 1 dX5_wear_103 rfl ?_
                refine x_iconst ok (nI 4) dX5_wear_105 (by decide) ?_
                refine x_iadd ok (nI (at0 + 4)) dX5_wear_106 (nN (nI_add _ _) (by omega)) ?_
                refine x_dup2 ok dX5_wear_107 rfl rfl ?_
                refine x_iald ok 1 0 (at0 + 4) dX5_wear_108 rfl rfl (rfl) (by omega) (by decide) (nI (sg L i 4)) (by rw [upd_n (by omega), hat, hc8 4 (by omega)]; exact p1 i 4 (by omega) (by omega)) ?_
                refine x_iload_n ok 8 dX5_wear_109 rfl rfl ?_
                have J_118 : ∀ (v118_1 : Nat), v118_1 = (if bg = true then 1 else 0) → XX K [(y, .inr (5, [.int zt, .ref mt, .int (nI ts), .int (nI pl), .int (nI W), .int (nI ll), .ref md, .ref ms, .int (nI rW), .ref mrd, .ref mrs, .ref mrp, .ref mp, .ref mb, .int (nI na), .ref mk, .ref mi, .long sd, .ref m1, .ref m2, .ref m3, .ref ml, .ref mf, .ref mw, .ref mn])), (q, .inl (cI, 52, .inl (upd g8 (at0 + 2) (nI ((sg L i 2) - (lo i)))))), (ml, .inl (cI, 8, .inl lf))] [(8, .int (nI k)), (7, .int (nI at0)), (6, .int (nI i)), (5, .int (wrN lo L lk i)), (4, .int (nI L.length)), (0, .ref y), (1, .ref q), (2, .int lk), (3, .int (bz bg))] 118 [.int (nI v118_1), .int (nI (sg L i 4)), .int (nI (at0 + 4)), .ref q] := by
                  intro v118_1 e_v118_1
                  refine x_iadd ok (nI (sg L i 4 + v118_1)) dX5_wear_118 (nN (nI_add _ _) (by omega)) ?_
                  refine x_iast ok 1 0 (at0 + 4) (ws' := [(y, .inr (5, [.int zt, .ref mt, .int (nI ts), .int (nI pl), .int (nI W), .int (nI ll), .ref md, .ref ms, .int (nI rW), .ref mrd, .ref mrs, .ref mrp, .ref mp, .ref mb, .int (nI na), .ref mk, .ref mi, .long sd, .ref m1, .ref m2, .ref m3, .ref ml, .ref mf, .ref mw, .ref mn])), (q, .inl (cI, 52, .inl (upd (upd g8 (at0 + 2) (nI ((sg L i 2) - (lo i)))) (at0 + 4) (nI (sg L i 4 + v118_1))))), (ml, .inl (cI, 8, .inl lf))]) dX5_wear_119 rfl rfl (rfl) (by omega) (by decide) (rfl) rfl ?_
                  refine x_iload ok 2 dX5_wear_120 rfl ?_
                  refine x_iload_n ok 7 dX5_wear_122 rfl rfl ?_
                  have J_135 : ∀ (v135_1 : Int32), v135_1 = (if (nI i) = lk then nI ((low lo ag L i).length) else (wrN lo L lk i)) → XX K [(y, .inr (5, [.int zt, .ref mt, .int (nI ts), .int (nI pl), .int (nI W), .int (nI ll), .ref md, .ref ms, .int (nI rW), .ref mrd, .ref mrs, .ref mrp, .ref mp, .ref mb, .int (nI na), .ref mk, .ref mi, .long sd, .ref m1, .ref m2, .ref m3, .ref ml, .ref mf, .ref mw, .ref mn])), (q, .inl (cI, 52, .inl (upd (upd g8 (at0 + 2) (nI ((sg L i 2) - (lo i)))) (at0 + 4) (nI (sg L i 4 + v118_1))))), (ml, .inl (cI, 8, .inl lf))] [(8, .int (nI k)), (7, .int (nI at0)), (6, .int (nI i)), (5, .int (wrN lo L lk i)), (4, .int (nI L.length)), (0, .ref y), (1, .ref q), (2, .int lk), (3, .int (bz bg))] 135 [.int v135_1] := by
                    intro v135_1 e_v135_1
                    refine x_istore ok (lv' := [(5, .int v135_1), (8, .int (nI k)), (7, .int (nI at0)), (6, .int (nI i)), (4, .int (nI L.length)), (0, .ref y), (1, .ref q), (2, .int lk), (3, .int (bz bg))]) dX5_wear_135 (by decide) rfl ?_
                    refine x_aload_n ok 6 dX5_wear_137 rfl rfl ?_
                    refine x_bipush ok (nI 48) dX5_wear_138 (by decide) ?_
                    refine x_dup2 ok dX5_wear_140 rfl rfl ?_
                    refine x_iald ok 1 0 48 dX5_wear_141 rfl rfl (rfl) (by omega) (by decide) (nI ((low lo ag L i).length)) (by rw [upd_n (by omega), upd_n (by omega)]; exact h48) ?_
                    refine x_iconst ok (nI 1) dX5_wear_142 (by decide) ?_
                    refine x_iadd ok (nI ((low lo ag L i).length + 1)) dX5_wear_143 (nN (nI_add _ _) (by omega)) ?_
                    refine x_iast ok 1 0 48 (ws' := [(y, .inr (5, [.int zt, .ref mt, .int (nI ts), .int (nI pl), .int (nI W), .int (nI ll), .ref md, .ref ms, .int (nI rW), .ref mrd, .ref mrs, .ref mrp, .ref mp, .ref mb, .int (nI na), .ref mk, .ref mi, .long sd, .ref m1, .ref m2, .ref m3, .ref ml, .ref mf, .ref mw, .ref mn])), (q, .inl (cI, 52, .inl (upd (upd (upd g8 (at0 + 2) (nI ((sg L i 2) - (lo i)))) (at0 + 4) (nI (sg L i 4 + v118_1))) 48 (nI ((low lo ag L i).length + 1))))), (ml, .inl (cI, 8, .inl lf))]) dX5_wear_144 rfl rfl (rfl) (by omega) (by decide) (rfl) rfl ?_
                    refine x_iinc ok (v := nI (i + 1)) (lv' := [(6, .int (nI (i + 1))), (5, .int v135_1), (8, .int (nI k)), (7, .int (nI at0)), (4, .int (nI L.length)), (0, .ref y), (1, .ref q), (2, .int lk), (3, .int (bz bg))]) dX5_wear_145 3 rfl (nN (nI_inc _ 1) (by omega)) (by decide) rfl ?_
                    refine x_goto ok 18 dX5_wear_148 (by decide) ?_
                    refine x_loc ok [0, 1, 4, 5, 6, 7, 8] (lv' := [(6, .int (nI (i + 1))), (5, .int v135_1), (4, .int (nI L.length)), (0, .ref y), (1, .ref q), (2, .int lk), (3, .int (bz bg))]) rfl ?_
                    have em : v135_1 = wrN lo L lk (i + 1) := by rw [e_v135_1, wrN, lg]; by_cases c : nI i = lk <;> simp [c, yl]
                    have hfin : ∀ t, t < 6 → upd (upd g8 (at0 + 2) (nI (sg L i 2 - lo i))) (at0 + 4) (nI (sg L i 4 + v118_1)) ((low lo ag L i).length * 6 + t) = nI (lowS lo ag L i t) := fun t ht => by
                      rw [← hat t]
                      have hx := hc8 t (by omega)
                      rw [← hat t, p1 i t (by omega) ht] at hx
                      have : t = 0 ∨ t = 1 ∨ t = 2 ∨ t = 3 ∨ t = 4 ∨ t = 5 := by omega
                      rcases this with rfl | rfl | rfl | rfl | rfl | rfl <;> simp [upd, lowS, hx, e_v118_1, hag] <;> simpa using hx
                    rw [em]
                    exact ih_18 (i + 1) (upd (upd (upd g8 (at0 + 2) (nI ((sg L i 2) - (lo i)))) (at0 + 4) (nI (sg L i 4 + v118_1))) 48 (nI ((low lo ag L i).length + 1))) (by omega) (by first | assumption | omega) (by rw [low_y yl]; exact pgr_snoc (by exact hs_upd (hs_upd hs8 (by omega)) (by omega)) (by rw [upd_n (by omega), upd_n (by omega)]; exact h49) (by rw [upd_n (by omega), upd_n (by omega)]; exact h50) (by rw [upd_n (by omega), upd_n (by omega)]; exact h51) (by omega) hfin rfl) (fun j h1 h2 => by rw [upd_n (by omega), upd_n (by omega), upd_n (by omega)]; exact hr8 j (by omega) h2)
                  refine x_icmp_ne ok 133 dX5_wear_123 (by decide) (fun c_123 => ?_) (fun c_123 => ?_)
                  · skip
                    refine x_iload ok 3 dX5_wear_133 rfl ?_
                    exact J_135 (wrN lo L lk i) (by first | rfl | (simp only [if_neg c_123]; done) | (simp [c_123]; done))
                  · skip
                    refine x_aload_n ok 6 dX5_wear_126 rfl rfl ?_
                    refine x_bipush ok (nI 48) dX5_wear_127 (by decide) ?_
                    refine x_iald ok 1 0 48 dX5_wear_129 rfl rfl (rfl) (by omega) (by decide) (nI ((low lo ag L i).length)) (by rw [upd_n (by omega), upd_n (by omega)]; exact h48) ?_
                    refine x_goto ok 135 dX5_wear_130 (by decide) ?_
                    exact J_135 (nI ((low lo ag L i).length)) (by first | rfl | (simp only [if_pos c_123]; done) | (simp [c_123]; done))
                refine x_if_eqB ok 117 dX5_wear_110 (by decide) (fun c_110 => ?_) (fun c_110 => ?_)
                · skip
                  refine x_iconst ok (nI 0) dX5_wear_117 (by decide) ?_
                  exact J_118 0 (by first | rfl | (simp only [if_neg c_110]; done) | (simp [c_110]; done))
                · skip
                  refine x_iconst ok (nI 1) dX5_wear_113 (by decide) ?_
                  refine x_goto ok 118 dX5_wear_114 (by decide) ?_
                  exact J_118 1 (by first | rfl | (simp only [if_pos c_110]; done) | (simp [c_110]; done))
              · skip
                refine x_aload_n ok 6 dX5_wear_63 rfl rfl ?_
                refine x_iload ok 1 dX5_wear_64 rfl ?_
                refine x_iload ok 0 dX5_wear_66 rfl ?_
                refine x_iadd ok (nI (at0 + k)) dX5_wear_68 (nN (nI_add _ _) (by omega)) ?_
                refine x_aload_n ok 6 dX5_wear_69 rfl rfl ?_
                refine x_bipush ok (nI 6) dX5_wear_70 (by decide) ?_
                refine x_iload ok 2 dX5_wear_72 rfl ?_
                refine x_imul ok (nI (i * 6)) dX5_wear_74 (nN (pk_mul _ _) (by omega)) ?_
                refine x_iload ok 0 dX5_wear_75 rfl ?_
                refine x_iadd ok (nI (i * 6 + k)) dX5_wear_77 (nN (nI_add _ _) (by omega)) ?_
                refine x_iald ok 1 0 (i * 6 + k) dX5_wear_78 rfl rfl (rfl) (by omega) (by decide) ((g (i * 6 + k))) (hr8 _ (by omega) (by omega)) ?_
                refine x_iast ok 1 0 (at0 + k) (ws' := [(y, .inr (5, [.int zt, .ref mt, .int (nI ts), .int (nI pl), .int (nI W), .int (nI ll), .ref md, .ref ms, .int (nI rW), .ref mrd, .ref mrs, .ref mrp, .ref mp, .ref mb, .int (nI na), .ref mk, .ref mi, .long sd, .ref m1, .ref m2, .ref m3, .ref ml, .ref mf, .ref mw, .ref mn])), (q, .inl (cI, 52, .inl (upd g8 (at0 + k) (g (i * 6 + k))))), (ml, .inl (cI, 8, .inl lf))]) dX5_wear_79 rfl rfl (rfl) (by omega) (by decide) (rfl) rfl ?_
                refine x_iinc ok (v := nI (k + 1)) (lv' := [(8, .int (nI (k + 1))), (7, .int (nI at0)), (6, .int (nI i)), (5, .int (wrN lo L lk i)), (4, .int (nI L.length)), (0, .ref y), (1, .ref q), (2, .int lk), (3, .int (bz bg))]) dX5_wear_80 0 rfl (nN (nI_inc _ 1) (by omega)) (by decide) rfl ?_
                refine x_goto ok 56 dX5_wear_83 (by decide) ?_
                exact ih_56 (k + 1) (upd g8 (at0 + k) (g (i * 6 + k))) (by omega) (by first | assumption | omega) (hs_upd hs8 (by omega)) (by rw [upd_n (by omega)]; exact h48) (by rw [upd_n (by omega)]; exact h49) (by rw [upd_n (by omega)]; exact h50) (by rw [upd_n (by omega)]; exact h51) (fun j h1 h2 => by by_cases e : j = at0 + k; (subst e; rw [upd_s]; congr 1; omega); (rw [upd_n e]; exact hr8 j h1 h2)) (fun t ht => by by_cases e : t = k; (subst e; rw [show (low lo ag L i).length * 6 + t = at0 + t by omega, upd_s]); (rw [upd_n (by omega)]; exact hc8 t (by omega)))
          exact L_56 _ 0 g9 (Nat.lt_succ_self _) (by first | assumption | omega) (hp9.1) (hp9.2.1) (hp9.2.2.1) (hp9.2.2.2.1) (hp9.2.2.2.2) (hr) (fun t ht => absurd ht (Nat.not_lt_zero t))
  exact L_18 _ 0 (upd g 48 (nI 0)) (Nat.lt_succ_self _) (by first | assumption | omega) (⟨fun a b c => absurd c (Nat.not_lt_zero a), by rw [upd_s]; rfl, by rw [upd_n (by omega)]; exact p3, by rw [upd_n (by omega)]; exact p4, by rw [upd_n (by omega)]; exact p5⟩) (fun j h1 h2 => by rw [upd_n (by omega)])

set_option maxHeartbeats 4000000 in
set_option maxRecDepth 100000 in
theorem d_goYear (l : Launch) (D : va_G) (cI cZ cS : ClassId) (y : Nat) (zt : Int32) (mt : Nat) (ts : Nat) (pl : Nat) (W : Nat) (ll : Nat) (md : Nat) (ms : Nat) (rW : Nat) (mrd : Nat) (mrs : Nat) (mrp : Nat) (mp : Nat) (mb : Nat) (na : Nat) (mk : Nat) (mi : Nat) (sd : Int64) (m1 : Nat) (m2 : Nat) (m3 : Nat) (ml : Nat) (mf : Nat) (mw : Nat) (mn : Nat) (sf : Nat → Int32) (st : Nat → Nat) (q : Nat) (g : Nat → Int32) (L : List Sg) (li : Nat) (ye : Int32) (br : Int32) (lf : Nat → Int32) (A : Nat) (lk : Int32) (hst : ∀ w, w < W → sf w = nI (st w)) (hst2 : ∀ w, w < W → st w ≤ 2) (hg : PGR g L li ye br) (hv : okL W A L) (hW4 : W ≤ 4) (hl : li < 256) (hA : A < 1000000) : CO l D (TY cI cZ cS) yX5_goYear cX5_goYear 5 (some .int) 2 43 0 0 [.ref y, .ref q, .int lk] [(y, .inr (5, [.int zt, .ref mt, .int (nI ts), .int (nI pl), .int (nI W), .int (nI ll), .ref md, .ref ms, .int (nI rW), .ref mrd, .ref mrs, .ref mrp, .ref mp, .ref mb, .int (nI na), .ref mk, .ref mi, .long sd, .ref m1, .ref m2, .ref m3, .ref ml, .ref mf, .ref mw, .ref mn])), (ms, .inl (cI, 4, .inl sf)), (q, .inl (cI, 52, .inl g)), (ml, .inl (cI, 8, .inl lf))] (σ := (Nat → Int32) × (Nat → Int32)) (fun u => some (.int (wrN (lossN st li L) L lk L.length))) (fun u => [(y, .inr (5, [.int zt, .ref mt, .int (nI ts), .int (nI pl), .int (nI W), .int (nI ll), .ref md, .ref ms, .int (nI rW), .ref mrd, .ref mrs, .ref mrp, .ref mp, .ref mb, .int (nI na), .ref mk, .ref mi, .long sd, .ref m1, .ref m2, .ref m3, .ref ml, .ref mf, .ref mw, .ref mn])), (ms, .inl (cI, 4, .inl sf)), (q, .inl (cI, 52, .inl u.1)), (ml, .inl (cI, 8, .inl u.2))]) (fun u => (PGR u.1 (yearL st li L) li (ye + nI 1) br)) := by
  refine CO_mki (by decide +kernel) (Nat.le_of_ble_eq_true rfl) (fun K ok ret => ?_)
  show XX K [(y, .inr (5, [.int zt, .ref mt, .int (nI ts), .int (nI pl), .int (nI W), .int (nI ll), .ref md, .ref ms, .int (nI rW), .ref mrd, .ref mrs, .ref mrp, .ref mp, .ref mb, .int (nI na), .ref mk, .ref mi, .long sd, .ref m1, .ref m2, .ref m3, .ref ml, .ref mf, .ref mw, .ref mn])), (ms, .inl (cI, 4, .inl sf)), (q, .inl (cI, 52, .inl g)), (ml, .inl (cI, 8, .inl lf))] [(0, .ref y), (1, .ref q), (2, .int lk)] 0 []
  have h8 := hv.1
  refine x_iconst ok (nI 0) dX5_goYear_0 (by decide) ?_
  refine x_istore_n ok (lv' := [(3, .int (nI 0)), (0, .ref y), (1, .ref q), (2, .int lk)]) dX5_goYear_1 rfl (by decide) rfl ?_
  have L_2 : ∀ (n_2 : Nat) (i : Nat) (lf9 : Nat → Int32), L.length - i < n_2 → (i ≤ L.length) → (∀ j, j < i → lf9 j = nI (lossN st li L j)) → XX K [(y, .inr (5, [.int zt, .ref mt, .int (nI ts), .int (nI pl), .int (nI W), .int (nI ll), .ref md, .ref ms, .int (nI rW), .ref mrd, .ref mrs, .ref mrp, .ref mp, .ref mb, .int (nI na), .ref mk, .ref mi, .long sd, .ref m1, .ref m2, .ref m3, .ref ml, .ref mf, .ref mw, .ref mn])), (ms, .inl (cI, 4, .inl sf)), (q, .inl (cI, 52, .inl g)), (ml, .inl (cI, 8, .inl lf9))] [(3, .int (nI i)), (0, .ref y), (1, .ref q), (2, .int lk)] 2 [] := by
    intro n_2
    induction n_2 with
    | zero => intro i lf9 hm; exact absurd hm (Nat.not_lt_zero _)
    | succ n_2 ih_2 =>
      intro i lf9 hm_2 hi hlf9
      refine x_iload_n ok 0 dX5_goYear_2 rfl rfl ?_
      refine x_aload_n ok 2 dX5_goYear_3 rfl rfl ?_
      refine x_bipush ok (nI 48) dX5_goYear_4 (by decide) ?_
      refine x_iald ok 2 0 48 dX5_goYear_6 rfl rfl (rfl) (by omega) (by decide) (nI L.length) (hg.2.1) ?_
      refine x_icmp_geN ok 116 dX5_goYear_7 (by decide) (by omega) (by omega) (fun c_7 => ?_) (fun c_7 => ?_)
      · skip
        have e_i : L.length = i := by omega
        subst e_i
        refine x_aload_n ok 2 dX5_goYear_116 rfl rfl ?_
        refine x_bipush ok (nI 50) dX5_goYear_117 (by decide) ?_
        refine x_dup2 ok dX5_goYear_119 rfl rfl ?_
        refine x_iald ok 2 0 50 dX5_goYear_120 rfl rfl (rfl) (by omega) (by decide) (ye) (hg.2.2.2.1) ?_
        refine x_iconst ok (nI 1) dX5_goYear_121 (by decide) ?_
        refine x_iadd ok ((ye + (nI 1))) dX5_goYear_122 (rfl) ?_
        refine x_iast ok 2 0 50 (ws' := [(y, .inr (5, [.int zt, .ref mt, .int (nI ts), .int (nI pl), .int (nI W), .int (nI ll), .ref md, .ref ms, .int (nI rW), .ref mrd, .ref mrs, .ref mrp, .ref mp, .ref mb, .int (nI na), .ref mk, .ref mi, .long sd, .ref m1, .ref m2, .ref m3, .ref ml, .ref mf, .ref mw, .ref mn])), (ms, .inl (cI, 4, .inl sf)), (q, .inl (cI, 52, .inl (upd g 50 (ye + (nI 1))))), (ml, .inl (cI, 8, .inl lf9))]) dX5_goYear_123 rfl rfl (rfl) (by omega) (by decide) (rfl) rfl ?_
        have hgy := pgr_year (x := ye + nI 1) hg h8
        refine x_aload_n ok 1 dX5_goYear_124 rfl rfl ?_
        refine x_aload_n ok 2 dX5_goYear_125 rfl rfl ?_
        refine x_iload_n ok 3 dX5_goYear_126 rfl rfl ?_
        refine x_iconst ok (nI 1) dX5_goYear_127 (by decide) ?_
        refine x_eq (st' := [.int (bz true), .int lk, .ref q, .ref y]) rfl rfl (rfl) ?_
        refine qX5_132 ok (As := [.ref q, .int lk, .int (bz true)]) (st := []) 0 rfl (d_wear l D cI cZ cS y zt mt ts pl W ll md ms rW mrd mrs mrp mp mb na mk mi sd m1 m2 m3 ml mf mw mn q (upd g 50 (ye + (nI 1))) L li (ye + nI 1) br lf9 (lossN st li L) A lk true 1 (hgy) (by first | assumption | omega) (hlf9) (fun j hj => by have := loss_le (li := li) hv hst2 hj; omega) (rfl) (by first | assumption | omega)) rfl (Nat.le_of_ble_eq_true rfl) (Nat.le_of_ble_eq_true rfl) (Nat.le_of_ble_eq_true rfl) dX5_goYear_128 [0, 2, 3] (by decide) rfl (ws' := fun u => [(y, .inr (5, [.int zt, .ref mt, .int (nI ts), .int (nI pl), .int (nI W), .int (nI ll), .ref md, .ref ms, .int (nI rW), .ref mrd, .ref mrs, .ref mrp, .ref mp, .ref mb, .int (nI na), .ref mk, .ref mi, .long sd, .ref m1, .ref m2, .ref m3, .ref ml, .ref mf, .ref mw, .ref mn])), (ms, .inl (cI, 4, .inl sf)), (q, .inl (cI, 52, .inl u)), (ml, .inl (cI, 8, .inl lf9))]) (st' := fun u => [.int (wrN (lossN st li L) L lk L.length)]) (fun _ => rfl) (fun _ => rfl) (fun _ => rfl) (fun u128 hu128 => ?_)
        obtain ⟨g2128, rfl⟩ : ∃ z, z = u128 := ⟨_, rfl⟩
        have hg2128 := hu128
        have hg2128 : PGR g2128 (low (lossN st li L) 1 L L.length) li (ye + nI 1) br := hg2128
        show XX K [(y, .inr (5, [.int zt, .ref mt, .int (nI ts), .int (nI pl), .int (nI W), .int (nI ll), .ref md, .ref ms, .int (nI rW), .ref mrd, .ref mrs, .ref mrp, .ref mp, .ref mb, .int (nI na), .ref mk, .ref mi, .long sd, .ref m1, .ref m2, .ref m3, .ref ml, .ref mf, .ref mw, .ref mn])), (ms, .inl (cI, 4, .inl sf)), (q, .inl (cI, 52, .inl g2128)), (ml, .inl (cI, 8, .inl lf9))] [(3, .int (nI L.length)), (0, .ref y), (1, .ref q), (2, .int lk)] 131 [.int (wrN (lossN st li L) L lk L.length)]
        exact ret (g2128, lf9) _ _ _ (wrN (lossN st li L) L lk L.length) dX5_goYear_131 (rfl) (by first | rfl | (simp [c_7]; done)) (by first | assumption | omega)
      · skip
        obtain ⟨v0, v1, v2, v2b, v3, v4, v5⟩ := hv.2 i (by omega)
        refine x_aload_n ok 1 dX5_goYear_10 rfl rfl ?_
        refine gX5_50 ok dX5_goYear_11 0 rfl rfl ?_
        refine x_iload_n ok 0 dX5_goYear_14 rfl rfl ?_
        refine x_aload_n ok 1 dX5_goYear_15 rfl rfl ?_
        refine x_aload_n ok 2 dX5_goYear_16 rfl rfl ?_
        refine x_bipush ok (nI 6) dX5_goYear_17 (by decide) ?_
        refine x_iload_n ok 0 dX5_goYear_19 rfl rfl ?_
        refine x_imul ok (nI (i * 6)) dX5_goYear_20 (nN (pk_mul _ _) (by omega)) ?_
        refine x_iconst ok (nI 1) dX5_goYear_21 (by decide) ?_
        refine x_iadd ok (nI (i * 6 + 1)) dX5_goYear_22 (nN (nI_add _ _) (by omega)) ?_
        refine x_iald ok 2 0 (i * 6 + 1) dX5_goYear_23 rfl rfl (rfl) (by omega) (by decide) (nI (sg L i 1)) (hg.1 i 1 (by omega) (by omega)) ?_
        refine x_aload_n ok 2 dX5_goYear_24 rfl rfl ?_
        refine x_bipush ok (nI 49) dX5_goYear_25 (by decide) ?_
        refine x_iald ok 2 0 49 dX5_goYear_27 rfl rfl (rfl) (by omega) (by decide) (nI li) (hg.2.2.1) ?_
        refine qX5_129 ok (As := [.int (nI (sg L i 1)), .int (nI li)]) (st := [.int (nI i), .ref ml]) 0 rfl (d_aloneLoss l D cI cZ cS y zt mt ts pl W ll md ms rW mrd mrs mrp mp mb na mk mi sd m1 m2 m3 ml mf mw mn sf st (sg L i 1) li (by first | assumption | omega) (by first | assumption | omega) (by first | assumption | omega) (by first | assumption | omega) (by first | assumption | omega)) rfl (Nat.le_of_ble_eq_true rfl) (Nat.le_of_ble_eq_true rfl) (Nat.le_of_ble_eq_true rfl) dX5_goYear_28 [0, 1] (by decide) rfl (ws' := fun u => [(y, .inr (5, [.int zt, .ref mt, .int (nI ts), .int (nI pl), .int (nI W), .int (nI ll), .ref md, .ref ms, .int (nI rW), .ref mrd, .ref mrs, .ref mrp, .ref mp, .ref mb, .int (nI na), .ref mk, .ref mi, .long sd, .ref m1, .ref m2, .ref m3, .ref ml, .ref mf, .ref mw, .ref mn])), (ms, .inl (cI, 4, .inl sf)), (q, .inl (cI, 52, .inl g)), (ml, .inl (cI, 8, .inl lf9))]) (st' := fun u => [.int (nI (st (sg L i 1) + (if li.testBit (sg L i 1) = true then 0 else 1))), .int (nI i), .ref ml]) (fun _ => rfl) (fun _ => rfl) (fun _ => rfl) (fun _ _ => ?_)
        refine x_iast ok 3 0 i (ws' := [(y, .inr (5, [.int zt, .ref mt, .int (nI ts), .int (nI pl), .int (nI W), .int (nI ll), .ref md, .ref ms, .int (nI rW), .ref mrd, .ref mrs, .ref mrp, .ref mp, .ref mb, .int (nI na), .ref mk, .ref mi, .long sd, .ref m1, .ref m2, .ref m3, .ref ml, .ref mf, .ref mw, .ref mn])), (ms, .inl (cI, 4, .inl sf)), (q, .inl (cI, 52, .inl g)), (ml, .inl (cI, 8, .inl (upd lf9 i (nI (st (sg L i 1) + (if li.testBit (sg L i 1) = true then 0 else 1))))))]) dX5_goYear_31 rfl rfl (rfl) (by omega) (by decide) (rfl) rfl ?_
        refine x_iconst ok (nI 0) dX5_goYear_32 (by decide) ?_
        refine x_istore ok (lv' := [(4, .int (nI 0)), (3, .int (nI i)), (0, .ref y), (1, .ref q), (2, .int lk)]) dX5_goYear_33 (by decide) rfl ?_
        have L_35 : ∀ (n_35 : Nat) (o : Nat) (lf8 : Nat → Int32), L.length - o < n_35 → (o ≤ L.length) → (∀ j, j < i → lf8 j = nI (lossN st li L j)) → (lf8 i = nI (st (sg L i 1) + (if li.testBit (sg L i 1) = true then 0 else 1) + suN (oth L i) o)) → XX K [(y, .inr (5, [.int zt, .ref mt, .int (nI ts), .int (nI pl), .int (nI W), .int (nI ll), .ref md, .ref ms, .int (nI rW), .ref mrd, .ref mrs, .ref mrp, .ref mp, .ref mb, .int (nI na), .ref mk, .ref mi, .long sd, .ref m1, .ref m2, .ref m3, .ref ml, .ref mf, .ref mw, .ref mn])), (ms, .inl (cI, 4, .inl sf)), (q, .inl (cI, 52, .inl g)), (ml, .inl (cI, 8, .inl lf8))] [(4, .int (nI o)), (3, .int (nI i)), (0, .ref y), (1, .ref q), (2, .int lk)] 35 [] := by
          intro n_35
          induction n_35 with
          | zero => intro o lf8 hm; exact absurd hm (Nat.not_lt_zero _)
          | succ n_35 ih_35 =>
            intro o lf8 hm_35 ho hlf8 hi8
            refine x_iload ok 0 dX5_goYear_35 rfl ?_
            refine x_aload_n ok 3 dX5_goYear_37 rfl rfl ?_
            refine x_bipush ok (nI 48) dX5_goYear_38 (by decide) ?_
            refine x_iald ok 2 0 48 dX5_goYear_40 rfl rfl (rfl) (by omega) (by decide) (nI L.length) (hg.2.1) ?_
            refine x_icmp_geN ok 110 dX5_goYear_41 (by decide) (by omega) (by omega) (fun c_41 => ?_) (fun c_41 => ?_)
            · skip
              have e_o : L.length = o := by omega
              subst e_o
              refine x_iinc ok (v := nI (i + 1)) (lv' := [(3, .int (nI (i + 1))), (4, .int (nI L.length)), (0, .ref y), (1, .ref q), (2, .int lk)]) dX5_goYear_110 1 rfl (nN (nI_inc _ 1) (by omega)) (by decide) rfl ?_
              refine x_goto ok 2 dX5_goYear_113 (by decide) ?_
              refine x_loc ok [0, 2, 3, 4] (lv' := [(3, .int (nI (i + 1))), (0, .ref y), (1, .ref q), (2, .int lk)]) rfl ?_
              exact ih_2 (i + 1) lf8 (by omega) (by first | assumption | omega) (fun j hj => by rcases Nat.lt_or_ge j i with q | q; (exact hlf8 j q); (rw [show j = i by omega, hi8, loss_oth (by omega)]))
            · skip
              obtain ⟨w0, w1, w2, w2b, w3, w4, w5⟩ := hv.2 o (by omega)
              have hol := oth_le (L := L) (i := i) (n := o)
              refine x_aload_n ok 2 dX5_goYear_44 rfl rfl ?_
              refine gX5_50 ok dX5_goYear_45 0 rfl rfl ?_
              refine x_iload_n ok 1 dX5_goYear_48 rfl rfl ?_
              refine x_dup2 ok dX5_goYear_49 rfl rfl ?_
              refine x_iald ok 3 0 i dX5_goYear_50 rfl rfl (rfl) (by omega) (by decide) (nI (st (sg L i 1) + (if li.testBit (sg L i 1) = true then 0 else 1) + suN (oth L i) o)) (hi8) ?_
              refine x_iload ok 0 dX5_goYear_51 rfl ?_
              refine x_iload_n ok 1 dX5_goYear_53 rfl rfl ?_
              have J_102 : ∀ (v102_1 : Nat), v102_1 = (if o = i then 0 else (if (sg L o 1) = (sg L i 1) then (if (sg L o 3) = (sg L i 3) then 1 else 0) else 0)) → XX K [(y, .inr (5, [.int zt, .ref mt, .int (nI ts), .int (nI pl), .int (nI W), .int (nI ll), .ref md, .ref ms, .int (nI rW), .ref mrd, .ref mrs, .ref mrp, .ref mp, .ref mb, .int (nI na), .ref mk, .ref mi, .long sd, .ref m1, .ref m2, .ref m3, .ref ml, .ref mf, .ref mw, .ref mn])), (ms, .inl (cI, 4, .inl sf)), (q, .inl (cI, 52, .inl g)), (ml, .inl (cI, 8, .inl lf8))] [(4, .int (nI o)), (3, .int (nI i)), (0, .ref y), (1, .ref q), (2, .int lk)] 102 [.int (nI v102_1), .int (nI (st (sg L i 1) + (if li.testBit (sg L i 1) = true then 0 else 1) + suN (oth L i) o)), .int (nI i), .ref ml] := by
                intro v102_1 e_v102_1
                refine x_iadd ok (nI (st (sg L i 1) + (if li.testBit (sg L i 1) = true then 0 else 1) + suN (oth L i) (o + 1))) dX5_goYear_102 ((nI_add _ _).trans (congrArg nI (by rw [e_v102_1, suN, oth]; omega))) ?_
                refine x_iast ok 3 0 i (ws' := [(y, .inr (5, [.int zt, .ref mt, .int (nI ts), .int (nI pl), .int (nI W), .int (nI ll), .ref md, .ref ms, .int (nI rW), .ref mrd, .ref mrs, .ref mrp, .ref mp, .ref mb, .int (nI na), .ref mk, .ref mi, .long sd, .ref m1, .ref m2, .ref m3, .ref ml, .ref mf, .ref mw, .ref mn])), (ms, .inl (cI, 4, .inl sf)), (q, .inl (cI, 52, .inl g)), (ml, .inl (cI, 8, .inl (upd lf8 i (nI (st (sg L i 1) + (if li.testBit (sg L i 1) = true then 0 else 1) + suN (oth L i) (o + 1))))))]) dX5_goYear_103 rfl rfl (rfl) (by omega) (by decide) (rfl) rfl ?_
                refine x_iinc ok (v := nI (o + 1)) (lv' := [(4, .int (nI (o + 1))), (3, .int (nI i)), (0, .ref y), (1, .ref q), (2, .int lk)]) dX5_goYear_104 0 rfl (nN (nI_inc _ 1) (by omega)) (by decide) rfl ?_
                refine x_goto ok 35 dX5_goYear_107 (by decide) ?_
                exact ih_35 (o + 1) (upd lf8 i (nI (st (sg L i 1) + (if li.testBit (sg L i 1) = true then 0 else 1) + suN (oth L i) (o + 1)))) (by omega) (by first | assumption | omega) (fun j hj => by rw [upd_n (by omega)]; exact hlf8 j hj) (by rw [upd_s])
              refine x_icmp_eqN ok 101 dX5_goYear_54 (by decide) (by omega) (by omega) (fun c_54 => ?_) (fun c_54 => ?_)
              · skip
                refine x_iconst ok (nI 0) dX5_goYear_101 (by decide) ?_
                exact J_102 0 (by first | rfl | (simp only [if_pos c_54]; done) | (simp [c_54]; done))
              · skip
                refine x_aload_n ok 3 dX5_goYear_57 rfl rfl ?_
                refine x_bipush ok (nI 6) dX5_goYear_58 (by decide) ?_
                refine x_iload ok 0 dX5_goYear_60 rfl ?_
                refine x_imul ok (nI (o * 6)) dX5_goYear_62 (nN (pk_mul _ _) (by omega)) ?_
                refine x_iconst ok (nI 1) dX5_goYear_63 (by decide) ?_
                refine x_iadd ok (nI (o * 6 + 1)) dX5_goYear_64 (nN (nI_add _ _) (by omega)) ?_
                refine x_iald ok 2 0 (o * 6 + 1) dX5_goYear_65 rfl rfl (rfl) (by omega) (by decide) (nI (sg L o 1)) (hg.1 o 1 (by omega) (by omega)) ?_
                refine x_aload_n ok 3 dX5_goYear_66 rfl rfl ?_
                refine x_bipush ok (nI 6) dX5_goYear_67 (by decide) ?_
                refine x_iload_n ok 1 dX5_goYear_69 rfl rfl ?_
                refine x_imul ok (nI (i * 6)) dX5_goYear_70 (nN (pk_mul _ _) (by omega)) ?_
                refine x_iconst ok (nI 1) dX5_goYear_71 (by decide) ?_
                refine x_iadd ok (nI (i * 6 + 1)) dX5_goYear_72 (nN (nI_add _ _) (by omega)) ?_
                refine x_iald ok 2 0 (i * 6 + 1) dX5_goYear_73 rfl rfl (rfl) (by omega) (by decide) (nI (sg L i 1)) (hg.1 i 1 (by omega) (by omega)) ?_
                refine x_icmp_neN ok 101 dX5_goYear_74 (by decide) (by omega) (by omega) (fun c_74 => ?_) (fun c_74 => ?_)
                · skip
                  refine x_iconst ok (nI 0) dX5_goYear_101 (by decide) ?_
                  exact J_102 0 (by first | rfl | (simp only [if_neg c_54, if_neg c_74]; done) | (simp [c_54, c_74]; done))
                · skip
                  refine x_aload_n ok 3 dX5_goYear_77 rfl rfl ?_
                  refine x_bipush ok (nI 6) dX5_goYear_78 (by decide) ?_
                  refine x_iload ok 0 dX5_goYear_80 rfl ?_
                  refine x_imul ok (nI (o * 6)) dX5_goYear_82 (nN (pk_mul _ _) (by omega)) ?_
                  refine x_iconst ok (nI 3) dX5_goYear_83 (by decide) ?_
                  refine x_iadd ok (nI (o * 6 + 3)) dX5_goYear_84 (nN (nI_add _ _) (by omega)) ?_
                  refine x_iald ok 2 0 (o * 6 + 3) dX5_goYear_85 rfl rfl (rfl) (by omega) (by decide) (nI (sg L o 3)) (hg.1 o 3 (by omega) (by omega)) ?_
                  refine x_aload_n ok 3 dX5_goYear_86 rfl rfl ?_
                  refine x_bipush ok (nI 6) dX5_goYear_87 (by decide) ?_
                  refine x_iload_n ok 1 dX5_goYear_89 rfl rfl ?_
                  refine x_imul ok (nI (i * 6)) dX5_goYear_90 (nN (pk_mul _ _) (by omega)) ?_
                  refine x_iconst ok (nI 3) dX5_goYear_91 (by decide) ?_
                  refine x_iadd ok (nI (i * 6 + 3)) dX5_goYear_92 (nN (nI_add _ _) (by omega)) ?_
                  refine x_iald ok 2 0 (i * 6 + 3) dX5_goYear_93 rfl rfl (rfl) (by omega) (by decide) (nI (sg L i 3)) (hg.1 i 3 (by omega) (by omega)) ?_
                  refine x_icmp_neN ok 101 dX5_goYear_94 (by decide) (by omega) (by omega) (fun c_94 => ?_) (fun c_94 => ?_)
                  · skip
                    refine x_iconst ok (nI 0) dX5_goYear_101 (by decide) ?_
                    exact J_102 0 (by first | rfl | (simp only [if_neg c_54, if_pos c_74, if_neg c_94]; done) | (simp [c_54, c_74, c_94]; done))
                  · skip
                    refine x_iconst ok (nI 1) dX5_goYear_97 (by decide) ?_
                    refine x_goto ok 102 dX5_goYear_98 (by decide) ?_
                    exact J_102 1 (by first | rfl | (simp only [if_neg c_54, if_pos c_74, if_pos c_94]; done) | (simp [c_54, c_74, c_94]; done))
        exact L_35 _ 0 (upd lf9 i (nI (st (sg L i 1) + (if li.testBit (sg L i 1) = true then 0 else 1)))) (Nat.lt_succ_self _) (by first | assumption | omega) (fun j hj => by rw [upd_n (by omega)]; exact hlf9 j hj) (by rw [upd_s]; rfl)
  exact L_2 _ 0 lf (Nat.lt_succ_self _) (by first | assumption | omega) (fun j hj => absurd hj (Nat.not_lt_zero j))

set_option maxHeartbeats 4000000 in
set_option maxRecDepth 100000 in
theorem d_goYears (l : Launch) (D : va_G) (cI cZ cS : ClassId) (y : Nat) (zt : Int32) (mt : Nat) (ts : Nat) (pl : Nat) (W : Nat) (ll : Nat) (md : Nat) (ms : Nat) (rW : Nat) (mrd : Nat) (mrs : Nat) (mrp : Nat) (mp : Nat) (mb : Nat) (na : Nat) (mk : Nat) (mi : Nat) (sd : Int64) (m1 : Nat) (m2 : Nat) (m3 : Nat) (ml : Nat) (mf : Nat) (mw : Nat) (mn : Nat) (sf : Nat → Int32) (st : Nat → Nat) (q : Nat) (g : Nat → Int32) (L : List Sg) (li : Nat) (ye : Int32) (br : Int32) (lf : Nat → Int32) (A : Nat) (n : Nat) (hst : ∀ w, w < W → sf w = nI (st w)) (hst2 : ∀ w, w < W → st w ≤ 2) (hg : PGR g L li ye br) (hv : okL W A L) (hW4 : W ≤ 4) (hl : li < 256) (hA : A + n < 1000000) : CO l D (TY cI cZ cS) yX5_goYears cX5_goYears 4 none 3 67 0 0 [.ref y, .ref q, .int (nI n)] [(y, .inr (5, [.int zt, .ref mt, .int (nI ts), .int (nI pl), .int (nI W), .int (nI ll), .ref md, .ref ms, .int (nI rW), .ref mrd, .ref mrs, .ref mrp, .ref mp, .ref mb, .int (nI na), .ref mk, .ref mi, .long sd, .ref m1, .ref m2, .ref m3, .ref ml, .ref mf, .ref mw, .ref mn])), (ms, .inl (cI, 4, .inl sf)), (q, .inl (cI, 52, .inl g)), (ml, .inl (cI, 8, .inl lf))] (σ := (Nat → Int32) × (Nat → Int32) × (Int32)) (fun u => none) (fun u => [(y, .inr (5, [.int zt, .ref mt, .int (nI ts), .int (nI pl), .int (nI W), .int (nI ll), .ref md, .ref ms, .int (nI rW), .ref mrd, .ref mrs, .ref mrp, .ref mp, .ref mb, .int (nI na), .ref mk, .ref mi, .long sd, .ref m1, .ref m2, .ref m3, .ref ml, .ref mf, .ref mw, .ref mn])), (ms, .inl (cI, 4, .inl sf)), (q, .inl (cI, 52, .inl u.1)), (ml, .inl (cI, 8, .inl u.2.1))]) (fun u => (PGR u.1 (yearsL st li n L) li u.2.2 br)) := by
  refine CO_mkv (by decide +kernel) (Nat.le_of_ble_eq_true rfl) (fun K ok ret => ?_)
  show XX K [(y, .inr (5, [.int zt, .ref mt, .int (nI ts), .int (nI pl), .int (nI W), .int (nI ll), .ref md, .ref ms, .int (nI rW), .ref mrd, .ref mrs, .ref mrp, .ref mp, .ref mb, .int (nI na), .ref mk, .ref mi, .long sd, .ref m1, .ref m2, .ref m3, .ref ml, .ref mf, .ref mw, .ref mn])), (ms, .inl (cI, 4, .inl sf)), (q, .inl (cI, 52, .inl g)), (ml, .inl (cI, 8, .inl lf))] [(0, .ref y), (1, .ref q), (2, .int (nI n))] 0 []
  refine x_iconst ok (nI 0) dX5_goYears_0 (by decide) ?_
  refine x_istore_n ok (lv' := [(3, .int (nI 0)), (0, .ref y), (1, .ref q), (2, .int (nI n))]) dX5_goYears_1 rfl (by decide) rfl ?_
  have L_2 : ∀ (n_2 : Nat) (i : Nat) (g9 : Nat → Int32) (lf9 : Nat → Int32) (y9 : Int32), n - i < n_2 → (i ≤ n) → (PGR g9 (yearsL st li i L) li y9 br) → XX K [(y, .inr (5, [.int zt, .ref mt, .int (nI ts), .int (nI pl), .int (nI W), .int (nI ll), .ref md, .ref ms, .int (nI rW), .ref mrd, .ref mrs, .ref mrp, .ref mp, .ref mb, .int (nI na), .ref mk, .ref mi, .long sd, .ref m1, .ref m2, .ref m3, .ref ml, .ref mf, .ref mw, .ref mn])), (ms, .inl (cI, 4, .inl sf)), (q, .inl (cI, 52, .inl g9)), (ml, .inl (cI, 8, .inl lf9))] [(3, .int (nI i)), (0, .ref y), (1, .ref q), (2, .int (nI n))] 2 [] := by
    intro n_2
    induction n_2 with
    | zero => intro i g9 lf9 y9 hm; exact absurd hm (Nat.not_lt_zero _)
    | succ n_2 ih_2 =>
      intro i g9 lf9 y9 hm_2 hi hp9
      refine x_iload_n ok 0 dX5_goYears_2 rfl rfl ?_
      refine x_iload_n ok 3 dX5_goYears_3 rfl rfl ?_
      refine x_icmp_geN ok 21 dX5_goYears_4 (by decide) (by omega) (by omega) (fun c_4 => ?_) (fun c_4 => ?_)
      · skip
        have e_i : n = i := by omega
        subst e_i
        exact ret (g9, lf9, y9) _ _ _ dX5_goYears_21 (rfl) (hp9)
      · skip
        refine x_aload_n ok 1 dX5_goYears_7 rfl rfl ?_
        refine x_aload_n ok 2 dX5_goYears_8 rfl rfl ?_
        refine x_bipush ok ((-9)) dX5_goYears_9 (by decide) ?_
        refine qX5_136 ok (As := [.ref q, .int (-9)]) (st := []) 0 rfl (d_goYear l D cI cZ cS y zt mt ts pl W ll md ms rW mrd mrs mrp mp mb na mk mi sd m1 m2 m3 ml mf mw mn sf st q g9 (yearsL st li i L) li y9 br lf9 (A + i) (-9) (by first | assumption | omega) (by first | assumption | omega) (hp9) (years_ok hv i) (by first | assumption | omega) (by first | assumption | omega) (by first | assumption | omega)) rfl (Nat.le_of_ble_eq_true rfl) (Nat.le_of_ble_eq_true rfl) (Nat.le_of_ble_eq_true rfl) dX5_goYears_11 [0, 1, 2, 3] (by decide) rfl (ws' := fun u => [(y, .inr (5, [.int zt, .ref mt, .int (nI ts), .int (nI pl), .int (nI W), .int (nI ll), .ref md, .ref ms, .int (nI rW), .ref mrd, .ref mrs, .ref mrp, .ref mp, .ref mb, .int (nI na), .ref mk, .ref mi, .long sd, .ref m1, .ref m2, .ref m3, .ref ml, .ref mf, .ref mw, .ref mn])), (ms, .inl (cI, 4, .inl sf)), (q, .inl (cI, 52, .inl u.1)), (ml, .inl (cI, 8, .inl u.2))]) (st' := fun u => [.int (wrN (lossN st li (yearsL st li i L)) (yearsL st li i L) (-9) (yearsL st li i L).length)]) (fun _ => rfl) (fun _ => rfl) (fun _ => rfl) (fun u11 hu11 => ?_)
        obtain ⟨g211, lf211⟩ := u11
        have hg211 := hu11
        have hg211 : PGR g211 (yearL st li (yearsL st li i L)) li (y9 + nI 1) br := hg211
        show XX K [(y, .inr (5, [.int zt, .ref mt, .int (nI ts), .int (nI pl), .int (nI W), .int (nI ll), .ref md, .ref ms, .int (nI rW), .ref mrd, .ref mrs, .ref mrp, .ref mp, .ref mb, .int (nI na), .ref mk, .ref mi, .long sd, .ref m1, .ref m2, .ref m3, .ref ml, .ref mf, .ref mw, .ref mn])), (ms, .inl (cI, 4, .inl sf)), (q, .inl (cI, 52, .inl g211)), (ml, .inl (cI, 8, .inl lf211))] [(3, .int (nI i)), (0, .ref y), (1, .ref q), (2, .int (nI n))] 14 [.int (wrN (lossN st li (yearsL st li i L)) (yearsL st li i L) (-9) (yearsL st li i L).length)]
        refine x_pop ok dX5_goYears_14 rfl ?_
        refine x_iinc ok (v := nI (i + 1)) (lv' := [(3, .int (nI (i + 1))), (0, .ref y), (1, .ref q), (2, .int (nI n))]) dX5_goYears_15 0 rfl (nN (nI_inc _ 1) (by omega)) (by decide) rfl ?_
        refine x_goto ok 2 dX5_goYears_18 (by decide) ?_
        exact ih_2 (i + 1) g211 lf211 (y9 + nI 1) (by omega) (by first | assumption | omega) (hg211)
  exact L_2 _ 0 g lf ye (Nat.lt_succ_self _) (by first | assumption | omega) (hg)
