set_option maxHeartbeats 4000000 in
set_option maxRecDepth 100000 in
theorem e_mostPitch (l : Launch) (D : va_G) (cI cZ cS : ClassId) (y : Nat) (zt : Int32) (mt : Nat) (ts : Nat) (pl : Nat) (W : Nat) (ll : Nat) (md : Nat) (ms : Nat) (rW : Nat) (mrd : Nat) (mrs : Nat) (mrp : Nat) (mp : Nat) (mb : Nat) (na : Nat) (mk : Nat) (mi : Nat) (sd : Int64) (m1 : Nat) (m2 : Nat) (m3 : Nat) (ml : Nat) (mf : Nat) (mw : Nat) (mn : Nat) (g : Nat → Int32) (L : List Sg) (li : Nat) (ye : Int32) (br : Int32) (A : Nat) (z : Int32) (hg : PGR g L li ye br) (hv : okL W A L) : CO l D (TY cI cZ cS) yX5_mostPitch cX5_mostPitch 7 (some .int) 2 45 0 0 [.ref y, .int z] [(y, .inr (5, [.int zt, .ref mt, .int (nI ts), .int (nI pl), .int (nI W), .int (nI ll), .ref md, .ref ms, .int (nI rW), .ref mrd, .ref mrs, .ref mrp, .ref mp, .ref mb, .int (nI na), .ref mk, .ref mi, .long sd, .ref m1, .ref m2, .ref m3, .ref ml, .ref mf, .ref mw, .ref mn])), (mp, .inl (cI, 52, .inl g))] (σ := Unit) (fun u => some (.int (mostPitchI L z))) (fun u => [(y, .inr (5, [.int (nI 0), .ref mt, .int (nI ts), .int (nI pl), .int (nI W), .int (nI ll), .ref md, .ref ms, .int (nI rW), .ref mrd, .ref mrs, .ref mrp, .ref mp, .ref mb, .int (nI na), .ref mk, .ref mi, .long sd, .ref m1, .ref m2, .ref m3, .ref ml, .ref mf, .ref mw, .ref mn])), (mp, .inl (cI, 52, .inl g))]) (fun u => True) := by
  refine CO_mki (by decide +kernel) (Nat.le_of_ble_eq_true rfl) (fun K ok ret => ?_)
  show XX K [(y, .inr (5, [.int zt, .ref mt, .int (nI ts), .int (nI pl), .int (nI W), .int (nI ll), .ref md, .ref ms, .int (nI rW), .ref mrd, .ref mrs, .ref mrp, .ref mp, .ref mb, .int (nI na), .ref mk, .ref mi, .long sd, .ref m1, .ref m2, .ref m3, .ref ml, .ref mf, .ref mw, .ref mn])), (mp, .inl (cI, 52, .inl g))] [(0, .ref y), (1, .int z)] 0 []
  have h8 := hv.1
  refine x_aload_n ok 0 dX5_mostPitch_0 rfl rfl ?_
  refine x_iconst ok (nI 0) dX5_mostPitch_1 (by decide) ?_
  refine pX5_62 ok dX5_mostPitch_2 0 rfl rfl rfl (Nat.le_of_ble_eq_true rfl) (ws' := [(y, .inr (5, [.int (nI 0), .ref mt, .int (nI ts), .int (nI pl), .int (nI W), .int (nI ll), .ref md, .ref ms, .int (nI rW), .ref mrd, .ref mrs, .ref mrp, .ref mp, .ref mb, .int (nI na), .ref mk, .ref mi, .long sd, .ref m1, .ref m2, .ref m3, .ref ml, .ref mf, .ref mw, .ref mn])), (mp, .inl (cI, 52, .inl g))]) rfl ?_
  refine x_iload_n ok 1 dX5_mostPitch_5 rfl rfl ?_
  refine qX5_163 ok (As := [.int z]) (st := []) (d_noLaw l D cI cZ cS z ) rfl (Nat.le_of_ble_eq_true rfl) (Nat.le_of_ble_eq_true rfl) (Nat.le_of_ble_eq_true rfl) dX5_mostPitch_6 [] (by decide) rfl (ws' := fun u => [(y, .inr (5, [.int (nI 0), .ref mt, .int (nI ts), .int (nI pl), .int (nI W), .int (nI ll), .ref md, .ref ms, .int (nI rW), .ref mrd, .ref mrs, .ref mrp, .ref mp, .ref mb, .int (nI na), .ref mk, .ref mi, .long sd, .ref m1, .ref m2, .ref m3, .ref ml, .ref mf, .ref mw, .ref mn])), (mp, .inl (cI, 52, .inl g))]) (st' := fun u => [.int (bz (!inB z (nI 0) (nI 5)))]) (fun _ => rfl) (fun _ => rfl) (fun _ => rfl) (fun _ _ => ?_)
  refine x_if_eqB ok 15 dX5_mostPitch_9 (by decide) (fun c_9 => ?_) (fun c_9 => ?_)
  · skip
    have hh : inB z (nI 0) (nI 5) = true := by simpa using c_9
    obtain ⟨j, hj0, hj, e_z⟩ := inB_t (by omega) (by omega) hh
    subst e_z
    have ej := cl_n (show j < 2 ^ 31 by omega)
    refine x_bipush ok ((-9)) dX5_mostPitch_15 (by decide) ?_
    refine x_eq (st' := [.int ((mpF L j 0).1)]) rfl rfl (rfl) ?_
    refine x_istore_n ok (lv' := [(2, .int ((mpF L j 0).1)), (0, .ref y), (1, .int (nI j))]) dX5_mostPitch_17 rfl (by decide) rfl ?_
    refine x_iconst ok (nI 0) dX5_mostPitch_18 (by decide) ?_
    refine x_eq (st' := [.int (nI ((mpF L j 0).2))]) rfl rfl (rfl) ?_
    refine x_istore_n ok (lv' := [(3, .int (nI ((mpF L j 0).2))), (2, .int ((mpF L j 0).1)), (0, .ref y), (1, .int (nI j))]) dX5_mostPitch_19 rfl (by decide) rfl ?_
    refine x_iconst ok (nI 0) dX5_mostPitch_20 (by decide) ?_
    refine x_istore ok (lv' := [(4, .int (nI 0)), (3, .int (nI ((mpF L j 0).2))), (2, .int ((mpF L j 0).1)), (0, .ref y), (1, .int (nI j))]) dX5_mostPitch_21 (by decide) rfl ?_
    have L_23 : ∀ (n_23 : Nat) (i : Nat), 4 - i < n_23 → (i ≤ 4) → XX K [(y, .inr (5, [.int (nI 0), .ref mt, .int (nI ts), .int (nI pl), .int (nI W), .int (nI ll), .ref md, .ref ms, .int (nI rW), .ref mrd, .ref mrs, .ref mrp, .ref mp, .ref mb, .int (nI na), .ref mk, .ref mi, .long sd, .ref m1, .ref m2, .ref m3, .ref ml, .ref mf, .ref mw, .ref mn])), (mp, .inl (cI, 52, .inl g))] [(4, .int (nI i)), (3, .int (nI ((mpF L j i).2))), (2, .int ((mpF L j i).1)), (0, .ref y), (1, .int (nI j))] 23 [] := by
      intro n_23
      induction n_23 with
      | zero => intro i hm; exact absurd hm (Nat.not_lt_zero _)
      | succ n_23 ih_23 =>
        intro i hm_23 hi
        refine x_iload ok 0 dX5_mostPitch_23 rfl ?_
        refine x_iconst ok (nI 4) dX5_mostPitch_25 (by decide) ?_
        refine x_icmp_geN ok 137 dX5_mostPitch_26 (by decide) (by omega) (by omega) (fun c_26 => ?_) (fun c_26 => ?_)
        · skip
          have e_i : 4 = i := by omega
          subst e_i
          have hm8 := mpF_le (a := j) h8 4
          refine x_iload_n ok 1 dX5_mostPitch_137 rfl rfl ?_
          refine x_if_neN ok 146 dX5_mostPitch_138 (by decide) (by omega) (fun c_138 => ?_) (fun c_138 => ?_)
          · skip
            refine x_iload_n ok 2 dX5_mostPitch_146 rfl rfl ?_
            exact ret () _ _ _ (((mpF L j 4).1)) dX5_mostPitch_147 (rfl) (by rw [mostPitchI, if_pos hh, ej]) (trivial)
          · skip
            refine x_bipush ok ((-9)) dX5_mostPitch_141 (by decide) ?_
            refine x_goto ok 147 dX5_mostPitch_143 (by decide) ?_
            exact ret () _ _ _ ((-9)) dX5_mostPitch_147 (rfl) (by rw [mostPitchI, if_pos hh, ej, mpF_0 4 c_138]) (trivial)
        · skip
          have hm8 := mpF_le (a := j) h8 i
          refine x_iconst ok (nI 0) dX5_mostPitch_29 (by decide) ?_
          refine x_istore ok (lv' := [(5, .int (nI 0)), (4, .int (nI i)), (3, .int (nI ((mpF L j i).2))), (2, .int ((mpF L j i).1)), (0, .ref y), (1, .int (nI j))]) dX5_mostPitch_30 (by decide) rfl ?_
          refine x_iconst ok (nI 0) dX5_mostPitch_32 (by decide) ?_
          refine x_istore ok (lv' := [(6, .int (nI 0)), (5, .int (nI 0)), (4, .int (nI i)), (3, .int (nI ((mpF L j i).2))), (2, .int ((mpF L j i).1)), (0, .ref y), (1, .int (nI j))]) dX5_mostPitch_33 (by decide) rfl ?_
          have L_35 : ∀ (n_35 : Nat) (t : Nat), L.length - t < n_35 → (t ≤ L.length) → XX K [(y, .inr (5, [.int (nI 0), .ref mt, .int (nI ts), .int (nI pl), .int (nI W), .int (nI ll), .ref md, .ref ms, .int (nI rW), .ref mrd, .ref mrs, .ref mrp, .ref mp, .ref mb, .int (nI na), .ref mk, .ref mi, .long sd, .ref m1, .ref m2, .ref m3, .ref ml, .ref mf, .ref mw, .ref mn])), (mp, .inl (cI, 52, .inl g))] [(6, .int (nI t)), (5, .int (nI (suN (copy1 L j i) t))), (4, .int (nI i)), (3, .int (nI ((mpF L j i).2))), (2, .int ((mpF L j i).1)), (0, .ref y), (1, .int (nI j))] 35 [] := by
            intro n_35
            induction n_35 with
            | zero => intro t hm; exact absurd hm (Nat.not_lt_zero _)
            | succ n_35 ih_35 =>
              intro t hm_35 ht
              refine x_iload ok 0 dX5_mostPitch_35 rfl ?_
              refine x_aload_n ok 5 dX5_mostPitch_37 rfl rfl ?_
              refine gX5_28 ok dX5_mostPitch_38 0 rfl rfl ?_
              refine x_bipush ok (nI 48) dX5_mostPitch_41 (by decide) ?_
              refine x_iald ok 1 0 48 dX5_mostPitch_43 rfl rfl (rfl) (by omega) (by decide) (nI L.length) (hg.2.1) ?_
              refine x_icmp_geN ok 94 dX5_mostPitch_44 (by decide) (by omega) (by omega) (fun c_44 => ?_) (fun c_44 => ?_)
              · skip
                have e_t : L.length = t := by omega
                subst e_t
                have hs8 := suN_le (g := copy1 L j i) (c := 1) (n := L.length) (fun q _ => by rw [copy1]; split <;> (try split) <;> omega)
                refine x_iload ok 1 dX5_mostPitch_94 rfl ?_
                refine x_iload_n ok 3 dX5_mostPitch_96 rfl rfl ?_
                have J_117 : ∀ (v117_1 : Int32), v117_1 = (if (suN (copy1 L j i) L.length) ≤ ((mpF L j i).2) then (if (suN (copy1 L j i) L.length) = ((mpF L j i).2) then (-9) else ((mpF L j i).1)) else nI i) → XX K [(y, .inr (5, [.int (nI 0), .ref mt, .int (nI ts), .int (nI pl), .int (nI W), .int (nI ll), .ref md, .ref ms, .int (nI rW), .ref mrd, .ref mrs, .ref mrp, .ref mp, .ref mb, .int (nI na), .ref mk, .ref mi, .long sd, .ref m1, .ref m2, .ref m3, .ref ml, .ref mf, .ref mw, .ref mn])), (mp, .inl (cI, 52, .inl g))] [(6, .int (nI L.length)), (5, .int (nI (suN (copy1 L j i) L.length))), (4, .int (nI i)), (3, .int (nI ((mpF L j i).2))), (2, .int ((mpF L j i).1)), (0, .ref y), (1, .int (nI j))] 117 [.int v117_1] := by
                  intro v117_1 e_v117_1
                  refine x_istore_n ok (lv' := [(2, .int v117_1), (6, .int (nI L.length)), (5, .int (nI (suN (copy1 L j i) L.length))), (4, .int (nI i)), (3, .int (nI ((mpF L j i).2))), (0, .ref y), (1, .int (nI j))]) dX5_mostPitch_117 rfl (by decide) rfl ?_
                  refine x_iload ok 2 dX5_mostPitch_118 rfl ?_
                  refine x_iload_n ok 4 dX5_mostPitch_120 rfl rfl ?_
                  have J_130 : ∀ (v130_1 : Nat), v130_1 = (if (suN (copy1 L j i) L.length) ≤ ((mpF L j i).2) then ((mpF L j i).2) else suN (copy1 L j i) L.length) → XX K [(y, .inr (5, [.int (nI 0), .ref mt, .int (nI ts), .int (nI pl), .int (nI W), .int (nI ll), .ref md, .ref ms, .int (nI rW), .ref mrd, .ref mrs, .ref mrp, .ref mp, .ref mb, .int (nI na), .ref mk, .ref mi, .long sd, .ref m1, .ref m2, .ref m3, .ref ml, .ref mf, .ref mw, .ref mn])), (mp, .inl (cI, 52, .inl g))] [(2, .int v117_1), (6, .int (nI L.length)), (5, .int (nI (suN (copy1 L j i) L.length))), (4, .int (nI i)), (3, .int (nI ((mpF L j i).2))), (0, .ref y), (1, .int (nI j))] 130 [.int (nI v130_1)] := by
                    intro v130_1 e_v130_1
                    refine x_istore_n ok (lv' := [(3, .int (nI v130_1)), (2, .int v117_1), (6, .int (nI L.length)), (5, .int (nI (suN (copy1 L j i) L.length))), (4, .int (nI i)), (0, .ref y), (1, .int (nI j))]) dX5_mostPitch_130 rfl (by decide) rfl ?_
                    refine x_iinc ok (v := nI (i + 1)) (lv' := [(4, .int (nI (i + 1))), (3, .int (nI v130_1)), (2, .int v117_1), (6, .int (nI L.length)), (5, .int (nI (suN (copy1 L j i) L.length))), (0, .ref y), (1, .int (nI j))]) dX5_mostPitch_131 4 rfl (nN (nI_inc _ 1) (by omega)) (by decide) rfl ?_
                    refine x_goto ok 23 dX5_mostPitch_134 (by decide) ?_
                    refine x_loc ok [0, 1, 2, 5, 6] (lv' := [(4, .int (nI (i + 1))), (3, .int (nI v130_1)), (2, .int v117_1), (0, .ref y), (1, .int (nI j))]) rfl ?_
                    have em : mpF L j (i + 1) = (v117_1, v130_1) := by
                      simp only [mpF]
                      rw [e_v117_1, e_v130_1]
                      rcases Nat.lt_or_ge (mpF L j i).2 (suN (copy1 L j i) L.length) with c | c
                      · rw [if_pos c, if_neg (Nat.not_le.mpr c), if_neg (Nat.not_le.mpr c)]
                      · rw [if_neg (Nat.not_lt.mpr c), if_pos c, if_pos c]
                        by_cases d : suN (copy1 L j i) L.length = (mpF L j i).2
                        · rw [if_pos d, if_pos d]
                        · rw [if_neg d, if_neg d]
                    refine x_eq (lv' := [(4, .int (nI (i + 1))), (3, .int (nI ((mpF L j (i + 1)).2))), (2, .int ((mpF L j (i + 1)).1)), (0, .ref y), (1, .int (nI j))]) rfl (by rw [em]) rfl ?_
                    exact ih_23 (i + 1) (by omega) (by first | assumption | omega)
                  refine x_icmp_leN ok 129 dX5_mostPitch_121 (by decide) (by omega) (by omega) (fun c_121 => ?_) (fun c_121 => ?_)
                  · skip
                    refine x_iload_n ok 4 dX5_mostPitch_129 rfl rfl ?_
                    exact J_130 ((mpF L j i).2) (by first | rfl | (simp only [if_pos c_121]; done) | (simp [c_121]; done))
                  · skip
                    refine x_iload ok 2 dX5_mostPitch_124 rfl ?_
                    refine x_goto ok 130 dX5_mostPitch_126 (by decide) ?_
                    exact J_130 (suN (copy1 L j i) L.length) (by first | rfl | (simp only [if_neg c_121]; done) | (simp [c_121]; done))
                refine x_icmp_leN ok 105 dX5_mostPitch_97 (by decide) (by omega) (by omega) (fun c_97 => ?_) (fun c_97 => ?_)
                · skip
                  refine x_iload ok 1 dX5_mostPitch_105 rfl ?_
                  refine x_iload_n ok 3 dX5_mostPitch_107 rfl rfl ?_
                  refine x_icmp_neN ok 116 dX5_mostPitch_108 (by decide) (by omega) (by omega) (fun c_108 => ?_) (fun c_108 => ?_)
                  · skip
                    refine x_iload_n ok 4 dX5_mostPitch_116 rfl rfl ?_
                    exact J_117 ((mpF L j i).1) (by first | rfl | (simp only [if_pos c_97, if_neg c_108]; done) | (simp [c_97, c_108]; done))
                  · skip
                    refine x_bipush ok ((-9)) dX5_mostPitch_111 (by decide) ?_
                    refine x_goto ok 117 dX5_mostPitch_113 (by decide) ?_
                    exact J_117 (-9) (by first | rfl | (simp only [if_pos c_97, if_pos c_108]; done) | (simp [c_97, c_108]; done))
                · skip
                  refine x_iload ok 2 dX5_mostPitch_100 rfl ?_
                  refine x_goto ok 117 dX5_mostPitch_102 (by decide) ?_
                  exact J_117 (nI i) (by first | rfl | (simp only [if_neg c_97]; done) | (simp [c_97]; done))
              · skip
                obtain ⟨v0, v1, v2, v2b, v3, v4, v5⟩ := hv.2 t (by omega)
                have hs8 := suN_le (g := copy1 L j i) (c := 1) (n := t) (fun q _ => by rw [copy1]; split <;> (try split) <;> omega)
                refine x_iload ok 1 dX5_mostPitch_47 rfl ?_
                refine x_aload_n ok 5 dX5_mostPitch_49 rfl rfl ?_
                refine gX5_28 ok dX5_mostPitch_50 0 rfl rfl ?_
                refine x_bipush ok (nI 6) dX5_mostPitch_53 (by decide) ?_
                refine x_iload ok 0 dX5_mostPitch_55 rfl ?_
                refine x_imul ok (nI (t * 6)) dX5_mostPitch_57 (nN (pk_mul _ _) (by omega)) ?_
                refine x_iald ok 1 0 (t * 6) dX5_mostPitch_58 rfl rfl (rfl) (by omega) (by decide) (nI (sg L t 0)) (hg.1 t 0 (by omega) (by omega)) ?_
                refine x_iload_n ok 6 dX5_mostPitch_59 rfl rfl ?_
                have J_85 : ∀ (v85_1 : Nat), v85_1 = (if (sg L t 0) = j then (if (sg L t 3) = i then 1 else 0) else 0) → XX K [(y, .inr (5, [.int (nI 0), .ref mt, .int (nI ts), .int (nI pl), .int (nI W), .int (nI ll), .ref md, .ref ms, .int (nI rW), .ref mrd, .ref mrs, .ref mrp, .ref mp, .ref mb, .int (nI na), .ref mk, .ref mi, .long sd, .ref m1, .ref m2, .ref m3, .ref ml, .ref mf, .ref mw, .ref mn])), (mp, .inl (cI, 52, .inl g))] [(6, .int (nI t)), (5, .int (nI (suN (copy1 L j i) t))), (4, .int (nI i)), (3, .int (nI ((mpF L j i).2))), (2, .int ((mpF L j i).1)), (0, .ref y), (1, .int (nI j))] 85 [.int (nI v85_1), .int (nI (suN (copy1 L j i) t))] := by
                  intro v85_1 e_v85_1
                  refine x_iadd ok (nI (suN (copy1 L j i) (t + 1))) dX5_mostPitch_85 ((nI_add _ _).trans (congrArg nI (by rw [e_v85_1, suN, copy1]))) ?_
                  refine x_istore ok (lv' := [(5, .int (nI (suN (copy1 L j i) (t + 1)))), (6, .int (nI t)), (4, .int (nI i)), (3, .int (nI ((mpF L j i).2))), (2, .int ((mpF L j i).1)), (0, .ref y), (1, .int (nI j))]) dX5_mostPitch_86 (by decide) rfl ?_
                  refine x_iinc ok (v := nI (t + 1)) (lv' := [(6, .int (nI (t + 1))), (5, .int (nI (suN (copy1 L j i) (t + 1)))), (4, .int (nI i)), (3, .int (nI ((mpF L j i).2))), (2, .int ((mpF L j i).1)), (0, .ref y), (1, .int (nI j))]) dX5_mostPitch_88 1 rfl (nN (nI_inc _ 1) (by omega)) (by decide) rfl ?_
                  refine x_goto ok 35 dX5_mostPitch_91 (by decide) ?_
                  exact ih_35 (t + 1) (by omega) (by first | assumption | omega)
                refine x_icmp_neN ok 84 dX5_mostPitch_60 (by decide) (by omega) (by omega) (fun c_60 => ?_) (fun c_60 => ?_)
                · skip
                  refine x_iconst ok (nI 0) dX5_mostPitch_84 (by decide) ?_
                  exact J_85 0 (by first | rfl | (simp only [if_neg c_60]; done) | (simp [c_60]; done))
                · skip
                  refine x_aload_n ok 5 dX5_mostPitch_63 rfl rfl ?_
                  refine gX5_28 ok dX5_mostPitch_64 0 rfl rfl ?_
                  refine x_bipush ok (nI 6) dX5_mostPitch_67 (by decide) ?_
                  refine x_iload ok 0 dX5_mostPitch_69 rfl ?_
                  refine x_imul ok (nI (t * 6)) dX5_mostPitch_71 (nN (pk_mul _ _) (by omega)) ?_
                  refine x_iconst ok (nI 3) dX5_mostPitch_72 (by decide) ?_
                  refine x_iadd ok (nI (t * 6 + 3)) dX5_mostPitch_73 (nN (nI_add _ _) (by omega)) ?_
                  refine x_iald ok 1 0 (t * 6 + 3) dX5_mostPitch_74 rfl rfl (rfl) (by omega) (by decide) (nI (sg L t 3)) (hg.1 t 3 (by omega) (by omega)) ?_
                  refine x_iload ok 2 dX5_mostPitch_75 rfl ?_
                  refine x_icmp_neN ok 84 dX5_mostPitch_77 (by decide) (by omega) (by omega) (fun c_77 => ?_) (fun c_77 => ?_)
                  · skip
                    refine x_iconst ok (nI 0) dX5_mostPitch_84 (by decide) ?_
                    exact J_85 0 (by first | rfl | (simp only [if_pos c_60, if_neg c_77]; done) | (simp [c_60, c_77]; done))
                  · skip
                    refine x_iconst ok (nI 1) dX5_mostPitch_80 (by decide) ?_
                    refine x_goto ok 85 dX5_mostPitch_81 (by decide) ?_
                    exact J_85 1 (by first | rfl | (simp only [if_pos c_60, if_pos c_77]; done) | (simp [c_60, c_77]; done))
          exact L_35 _ 0 (Nat.lt_succ_self _) (by first | assumption | omega)
    exact L_23 _ 0 (Nat.lt_succ_self _) (by first | assumption | omega)
  · skip
    have hh : ¬ inB z (nI 0) (nI 5) = true := by simpa using c_9
    refine x_bipush ok ((-2)) dX5_mostPitch_12 (by decide) ?_
    exact ret () _ _ _ ((-2)) dX5_mostPitch_14 (rfl) (by rw [mostPitchI, if_neg hh]) (trivial)

set_option maxHeartbeats 4000000 in
set_option maxRecDepth 100000 in
theorem e_truest (l : Launch) (D : va_G) (cI cZ cS : ClassId) (y : Nat) (zt : Int32) (mt : Nat) (ts : Nat) (pl : Nat) (W : Nat) (ll : Nat) (md : Nat) (ms : Nat) (rW : Nat) (mrd : Nat) (mrs : Nat) (mrp : Nat) (mp : Nat) (mb : Nat) (na : Nat) (mk : Nat) (mi : Nat) (sd : Int64) (m1 : Nat) (m2 : Nat) (m3 : Nat) (ml : Nat) (mf : Nat) (mw : Nat) (mn : Nat) (g : Nat → Int32) (L : List Sg) (li : Nat) (ye : Int32) (br : Int32) (A : Nat) (z : Int32) (hg : PGR g L li ye br) (hv : okL W A L) : CO l D (TY cI cZ cS) yX5_truest cX5_truest 4 (some .int) 2 45 0 0 [.ref y, .int z] [(y, .inr (5, [.int zt, .ref mt, .int (nI ts), .int (nI pl), .int (nI W), .int (nI ll), .ref md, .ref ms, .int (nI rW), .ref mrd, .ref mrs, .ref mrp, .ref mp, .ref mb, .int (nI na), .ref mk, .ref mi, .long sd, .ref m1, .ref m2, .ref m3, .ref ml, .ref mf, .ref mw, .ref mn])), (mp, .inl (cI, 52, .inl g))] (σ := Unit) (fun u => some (.int (truestI L z))) (fun u => [(y, .inr (5, [.int (nI 0), .ref mt, .int (nI ts), .int (nI pl), .int (nI W), .int (nI ll), .ref md, .ref ms, .int (nI rW), .ref mrd, .ref mrs, .ref mrp, .ref mp, .ref mb, .int (nI na), .ref mk, .ref mi, .long sd, .ref m1, .ref m2, .ref m3, .ref ml, .ref mf, .ref mw, .ref mn])), (mp, .inl (cI, 52, .inl g))]) (fun u => True) := by
  refine CO_mki (by decide +kernel) (Nat.le_of_ble_eq_true rfl) (fun K ok ret => ?_)
  show XX K [(y, .inr (5, [.int zt, .ref mt, .int (nI ts), .int (nI pl), .int (nI W), .int (nI ll), .ref md, .ref ms, .int (nI rW), .ref mrd, .ref mrs, .ref mrp, .ref mp, .ref mb, .int (nI na), .ref mk, .ref mi, .long sd, .ref m1, .ref m2, .ref m3, .ref ml, .ref mf, .ref mw, .ref mn])), (mp, .inl (cI, 52, .inl g))] [(0, .ref y), (1, .int z)] 0 []
  have h8 := hv.1
  refine x_aload_n ok 0 dX5_truest_0 rfl rfl ?_
  refine x_iconst ok (nI 0) dX5_truest_1 (by decide) ?_
  refine pX5_62 ok dX5_truest_2 0 rfl rfl rfl (Nat.le_of_ble_eq_true rfl) (ws' := [(y, .inr (5, [.int (nI 0), .ref mt, .int (nI ts), .int (nI pl), .int (nI W), .int (nI ll), .ref md, .ref ms, .int (nI rW), .ref mrd, .ref mrs, .ref mrp, .ref mp, .ref mb, .int (nI na), .ref mk, .ref mi, .long sd, .ref m1, .ref m2, .ref m3, .ref ml, .ref mf, .ref mw, .ref mn])), (mp, .inl (cI, 52, .inl g))]) rfl ?_
  refine x_iload_n ok 1 dX5_truest_5 rfl rfl ?_
  refine qX5_163 ok (As := [.int z]) (st := []) (d_noLaw l D cI cZ cS z ) rfl (Nat.le_of_ble_eq_true rfl) (Nat.le_of_ble_eq_true rfl) (Nat.le_of_ble_eq_true rfl) dX5_truest_6 [] (by decide) rfl (ws' := fun u => [(y, .inr (5, [.int (nI 0), .ref mt, .int (nI ts), .int (nI pl), .int (nI W), .int (nI ll), .ref md, .ref ms, .int (nI rW), .ref mrd, .ref mrs, .ref mrp, .ref mp, .ref mb, .int (nI na), .ref mk, .ref mi, .long sd, .ref m1, .ref m2, .ref m3, .ref ml, .ref mf, .ref mw, .ref mn])), (mp, .inl (cI, 52, .inl g))]) (st' := fun u => [.int (bz (!inB z (nI 0) (nI 5)))]) (fun _ => rfl) (fun _ => rfl) (fun _ => rfl) (fun _ _ => ?_)
  refine x_if_eqB ok 15 dX5_truest_9 (by decide) (fun c_9 => ?_) (fun c_9 => ?_)
  · skip
    have hh : inB z (nI 0) (nI 5) = true := by simpa using c_9
    obtain ⟨j, hj0, hj, e_z⟩ := inB_t (by omega) (by omega) hh
    subst e_z
    have ej := cl_n (show j < 2 ^ 31 by omega)
    refine x_bipush ok ((-9)) dX5_truest_15 (by decide) ?_
    refine x_eq (st' := [.int (n9 (trF L j 0))]) rfl rfl (rfl) ?_
    refine x_istore_n ok (lv' := [(2, .int (n9 (trF L j 0))), (0, .ref y), (1, .int (nI j))]) dX5_truest_17 rfl (by decide) rfl ?_
    refine x_iconst ok (nI 0) dX5_truest_18 (by decide) ?_
    refine x_istore_n ok (lv' := [(3, .int (nI 0)), (2, .int (n9 (trF L j 0))), (0, .ref y), (1, .int (nI j))]) dX5_truest_19 rfl (by decide) rfl ?_
    have L_20 : ∀ (n_20 : Nat) (i : Nat), L.length - i < n_20 → (i ≤ L.length) → XX K [(y, .inr (5, [.int (nI 0), .ref mt, .int (nI ts), .int (nI pl), .int (nI W), .int (nI ll), .ref md, .ref ms, .int (nI rW), .ref mrd, .ref mrs, .ref mrp, .ref mp, .ref mb, .int (nI na), .ref mk, .ref mi, .long sd, .ref m1, .ref m2, .ref m3, .ref ml, .ref mf, .ref mw, .ref mn])), (mp, .inl (cI, 52, .inl g))] [(3, .int (nI i)), (2, .int (n9 (trF L j i))), (0, .ref y), (1, .int (nI j))] 20 [] := by
      intro n_20
      induction n_20 with
      | zero => intro i hm; exact absurd hm (Nat.not_lt_zero _)
      | succ n_20 ih_20 =>
        intro i hm_20 hi
        refine x_iload_n ok 0 dX5_truest_20 rfl rfl ?_
        refine x_aload_n ok 2 dX5_truest_21 rfl rfl ?_
        refine gX5_28 ok dX5_truest_22 0 rfl rfl ?_
        refine x_bipush ok (nI 48) dX5_truest_25 (by decide) ?_
        refine x_iald ok 1 0 48 dX5_truest_27 rfl rfl (rfl) (by omega) (by decide) (nI L.length) (hg.2.1) ?_
        refine x_icmp_geN ok 87 dX5_truest_28 (by decide) (by omega) (by omega) (fun c_28 => ?_) (fun c_28 => ?_)
        · skip
          have e_i : L.length = i := by omega
          subst e_i
          refine x_iload_n ok 1 dX5_truest_87 rfl rfl ?_
          exact ret () _ _ _ ((n9 (trF L j L.length))) dX5_truest_88 (rfl) (by rw [truestI, if_pos hh, ej]) (trivial)
        · skip
          obtain ⟨v0, v1, v2, v2b, v3, v4, v5⟩ := hv.2 i (by omega)
          have htr := trF_le (L := L) (a := j) i
          refine x_aload_n ok 2 dX5_truest_31 rfl rfl ?_
          refine gX5_28 ok dX5_truest_32 0 rfl rfl ?_
          refine x_bipush ok (nI 6) dX5_truest_35 (by decide) ?_
          refine x_iload_n ok 0 dX5_truest_37 rfl rfl ?_
          refine x_imul ok (nI (i * 6)) dX5_truest_38 (nN (pk_mul _ _) (by omega)) ?_
          refine x_iald ok 1 0 (i * 6) dX5_truest_39 rfl rfl (rfl) (by omega) (by decide) (nI (sg L i 0)) (hg.1 i 0 (by omega) (by omega)) ?_
          refine x_iload_n ok 3 dX5_truest_40 rfl rfl ?_
          refine x_icmp_neN ok 79 dX5_truest_41 (by decide) (by omega) (by omega) (fun c_41 => ?_) (fun c_41 => ?_)
          · skip
            refine x_iload_n ok 1 dX5_truest_79 rfl rfl ?_
            refine x_istore_n ok (lv' := [(2, .int (n9 (trF L j i))), (3, .int (nI i)), (0, .ref y), (1, .int (nI j))]) dX5_truest_80 rfl (by decide) rfl ?_
            refine x_iinc ok (v := nI (i + 1)) (lv' := [(3, .int (nI (i + 1))), (2, .int (n9 (trF L j i))), (0, .ref y), (1, .int (nI j))]) dX5_truest_81 1 rfl (nN (nI_inc _ 1) (by omega)) (by decide) rfl ?_
            refine x_goto ok 20 dX5_truest_84 (by decide) ?_
            have em : trF L j (i + 1) = trF L j i := by simp only [trF]; rw [if_neg (fun z => c_41 z.1)]
            refine x_eq (lv' := [(3, .int (nI (i + 1))), (2, .int (n9 (trF L j (i + 1)))), (0, .ref y), (1, .int (nI j))]) rfl (by rw [em]) rfl ?_
            exact ih_20 (i + 1) (by omega) (by first | assumption | omega)
          · skip
            refine x_iload_n ok 1 dX5_truest_44 rfl rfl ?_
            refine x_bipush ok ((-9)) dX5_truest_45 (by decide) ?_
            refine x_icmp_eq ok 75 dX5_truest_47 (by decide) (fun c_47 => ?_) (fun c_47 => ?_)
            · skip
              have hr0 : trF L j i = 0 := (n9_i _ (by omega)).mp c_47
              refine x_iload_n ok 0 dX5_truest_75 rfl rfl ?_
              refine x_goto ok 80 dX5_truest_76 (by decide) ?_
              refine x_istore_n ok (lv' := [(2, .int (nI i)), (3, .int (nI i)), (0, .ref y), (1, .int (nI j))]) dX5_truest_80 rfl (by decide) rfl ?_
              refine x_iinc ok (v := nI (i + 1)) (lv' := [(3, .int (nI (i + 1))), (2, .int (nI i)), (0, .ref y), (1, .int (nI j))]) dX5_truest_81 1 rfl (nN (nI_inc _ 1) (by omega)) (by decide) rfl ?_
              refine x_goto ok 20 dX5_truest_84 (by decide) ?_
              have em : trF L j (i + 1) = i + 1 := by simp only [trF]; rw [if_pos ⟨c_41, Or.inl hr0⟩]
              refine x_eq (lv' := [(3, .int (nI (i + 1))), (2, .int (n9 (trF L j (i + 1)))), (0, .ref y), (1, .int (nI j))]) rfl (by rw [em, n9_p (by omega), Nat.add_sub_cancel]) rfl ?_
              exact ih_20 (i + 1) (by omega) (by first | assumption | omega)
            · skip
              have hr0 : trF L j i ≠ 0 := fun z => c_47 ((n9_i _ (by omega)).mpr z)
              rw [n9_p hr0]
              obtain ⟨u0, u1, u2, u2b, u3, u4, u5⟩ := hv.2 (trF L j i - 1) (by omega)
              refine x_aload_n ok 2 dX5_truest_50 rfl rfl ?_
              refine gX5_28 ok dX5_truest_51 0 rfl rfl ?_
              refine x_bipush ok (nI 6) dX5_truest_54 (by decide) ?_
              refine x_iload_n ok 0 dX5_truest_56 rfl rfl ?_
              refine x_imul ok (nI (i * 6)) dX5_truest_57 (nN (pk_mul _ _) (by omega)) ?_
              refine x_iconst ok (nI 5) dX5_truest_58 (by decide) ?_
              refine x_iadd ok (nI (i * 6 + 5)) dX5_truest_59 (nN (nI_add _ _) (by omega)) ?_
              refine x_iald ok 1 0 (i * 6 + 5) dX5_truest_60 rfl rfl (rfl) (by omega) (by decide) (nI (sg L i 5)) (hg.1 i 5 (by omega) (by omega)) ?_
              refine x_aload_n ok 2 dX5_truest_61 rfl rfl ?_
              refine gX5_28 ok dX5_truest_62 0 rfl rfl ?_
              refine x_bipush ok (nI 6) dX5_truest_65 (by decide) ?_
              refine x_iload_n ok 1 dX5_truest_67 rfl rfl ?_
              refine x_imul ok (nI (6 * (trF L j i - 1))) dX5_truest_68 (nN (pk_mul _ _) (by omega)) ?_
              refine x_iconst ok (nI 5) dX5_truest_69 (by decide) ?_
              refine x_iadd ok (nI (6 * (trF L j i - 1) + 5)) dX5_truest_70 (nN (nI_add _ _) (by omega)) ?_
              refine x_iald ok 1 0 (6 * (trF L j i - 1) + 5) dX5_truest_71 rfl rfl (rfl) (by omega) (by decide) (nI (sg L (trF L j i - 1) 5)) (by rw [show 6 * (trF L j i - 1) + 5 = (trF L j i - 1) * 6 + 5 by omega]; exact hg.1 _ 5 (by omega) (by omega)) ?_
              refine x_icmp_geN ok 79 dX5_truest_72 (by decide) (by omega) (by omega) (fun c_72 => ?_) (fun c_72 => ?_)
              · skip
                refine x_iload_n ok 1 dX5_truest_79 rfl rfl ?_
                refine x_istore_n ok (lv' := [(2, .int (nI (trF L j i - 1))), (3, .int (nI i)), (0, .ref y), (1, .int (nI j))]) dX5_truest_80 rfl (by decide) rfl ?_
                refine x_iinc ok (v := nI (i + 1)) (lv' := [(3, .int (nI (i + 1))), (2, .int (nI (trF L j i - 1))), (0, .ref y), (1, .int (nI j))]) dX5_truest_81 1 rfl (nN (nI_inc _ 1) (by omega)) (by decide) rfl ?_
                refine x_goto ok 20 dX5_truest_84 (by decide) ?_
                have em : trF L j (i + 1) = trF L j i := by simp only [trF]; rw [if_neg (fun z => by rcases z.2 with q | q <;> omega)]
                refine x_eq (lv' := [(3, .int (nI (i + 1))), (2, .int (n9 (trF L j (i + 1)))), (0, .ref y), (1, .int (nI j))]) rfl (by rw [em, n9_p hr0]) rfl ?_
                exact ih_20 (i + 1) (by omega) (by first | assumption | omega)
              · skip
                refine x_iload_n ok 0 dX5_truest_75 rfl rfl ?_
                refine x_goto ok 80 dX5_truest_76 (by decide) ?_
                refine x_istore_n ok (lv' := [(2, .int (nI i)), (3, .int (nI i)), (0, .ref y), (1, .int (nI j))]) dX5_truest_80 rfl (by decide) rfl ?_
                refine x_iinc ok (v := nI (i + 1)) (lv' := [(3, .int (nI (i + 1))), (2, .int (nI i)), (0, .ref y), (1, .int (nI j))]) dX5_truest_81 1 rfl (nN (nI_inc _ 1) (by omega)) (by decide) rfl ?_
                refine x_goto ok 20 dX5_truest_84 (by decide) ?_
                have em : trF L j (i + 1) = i + 1 := by simp only [trF]; rw [if_pos ⟨c_41, Or.inr (by omega)⟩]
                refine x_eq (lv' := [(3, .int (nI (i + 1))), (2, .int (n9 (trF L j (i + 1)))), (0, .ref y), (1, .int (nI j))]) rfl (by rw [em, n9_p (by omega), Nat.add_sub_cancel]) rfl ?_
                exact ih_20 (i + 1) (by omega) (by first | assumption | omega)
    exact L_20 _ 0 (Nat.lt_succ_self _) (by first | assumption | omega)
  · skip
    have hh : ¬ inB z (nI 0) (nI 5) = true := by simpa using c_9
    refine x_bipush ok ((-2)) dX5_truest_12 (by decide) ?_
    exact ret () _ _ _ ((-2)) dX5_truest_14 (rfl) (by rw [truestI, if_neg hh]) (trivial)

set_option maxHeartbeats 4000000 in
set_option maxRecDepth 100000 in
theorem e_back (l : Launch) (D : va_G) (cI cZ cS : ClassId) (y : Nat) (zt : Int32) (mt : Nat) (ts : Nat) (pl : Nat) (W : Nat) (ll : Nat) (md : Nat) (ms : Nat) (rW : Nat) (mrd : Nat) (mrs : Nat) (mrp : Nat) (mp : Nat) (mb : Nat) (na : Nat) (mk : Nat) (mi : Nat) (sd : Int64) (m1 : Nat) (m2 : Nat) (m3 : Nat) (ml : Nat) (mf : Nat) (mw : Nat) (mn : Nat) (sf : Nat → Int32) (st : Nat → Nat) (g : Nat → Int32) (L : List Sg) (li : Nat) (ye : Int32) (br : Int32) (w : Int32) (v : Int32) (n : Int32) (hst : ∀ w, w < W → sf w = nI (st w)) (hst2 : ∀ w, w < W → st w ≤ 2) (hg : PGR g L li ye br) (h8 : L.length ≤ 8) (hW4 : W ≤ 4) (hl : li < 256) : CO l D (TY cI cZ cS) yX5_back cX5_back 4 (some .int) 2 46 0 0 [.ref y, .int w, .int v, .int n] [(y, .inr (5, [.int zt, .ref mt, .int (nI ts), .int (nI pl), .int (nI W), .int (nI ll), .ref md, .ref ms, .int (nI rW), .ref mrd, .ref mrs, .ref mrp, .ref mp, .ref mb, .int (nI na), .ref mk, .ref mi, .long sd, .ref m1, .ref m2, .ref m3, .ref ml, .ref mf, .ref mw, .ref mn])), (ms, .inl (cI, 4, .inl sf)), (mp, .inl (cI, 52, .inl g))] (σ := Unit) (fun u => some (.int (backI W st li w v n))) (fun u => [(y, .inr (5, [.int (nI 0), .ref mt, .int (nI ts), .int (nI pl), .int (nI W), .int (nI ll), .ref md, .ref ms, .int (nI rW), .ref mrd, .ref mrs, .ref mrp, .ref mp, .ref mb, .int (nI na), .ref mk, .ref mi, .long sd, .ref m1, .ref m2, .ref m3, .ref ml, .ref mf, .ref mw, .ref mn])), (ms, .inl (cI, 4, .inl sf)), (mp, .inl (cI, 52, .inl g))]) (fun u => True) := by
  refine CO_mki (by decide +kernel) (Nat.le_of_ble_eq_true rfl) (fun K ok ret => ?_)
  show XX K [(y, .inr (5, [.int zt, .ref mt, .int (nI ts), .int (nI pl), .int (nI W), .int (nI ll), .ref md, .ref ms, .int (nI rW), .ref mrd, .ref mrs, .ref mrp, .ref mp, .ref mb, .int (nI na), .ref mk, .ref mi, .long sd, .ref m1, .ref m2, .ref m3, .ref ml, .ref mf, .ref mw, .ref mn])), (ms, .inl (cI, 4, .inl sf)), (mp, .inl (cI, 52, .inl g))] [(0, .ref y), (1, .int w), (2, .int v), (3, .int n)] 0 []
  refine x_aload_n ok 0 dX5_back_0 rfl rfl ?_
  refine x_iconst ok (nI 0) dX5_back_1 (by decide) ?_
  refine pX5_62 ok dX5_back_2 0 rfl rfl rfl (Nat.le_of_ble_eq_true rfl) (ws' := [(y, .inr (5, [.int (nI 0), .ref mt, .int (nI ts), .int (nI pl), .int (nI W), .int (nI ll), .ref md, .ref ms, .int (nI rW), .ref mrd, .ref mrs, .ref mrp, .ref mp, .ref mb, .int (nI na), .ref mk, .ref mi, .long sd, .ref m1, .ref m2, .ref m3, .ref ml, .ref mf, .ref mw, .ref mn])), (ms, .inl (cI, 4, .inl sf)), (mp, .inl (cI, 52, .inl g))]) rfl ?_
  refine x_aload_n ok 0 dX5_back_5 rfl rfl ?_
  refine x_iload_n ok 1 dX5_back_6 rfl rfl ?_
  refine qX5_116 ok (As := [.int w]) (st := []) 0 rfl (d_noWell l D cI cZ cS y (nI 0) mt ts pl W ll md ms rW mrd mrs mrp mp mb na mk mi sd m1 m2 m3 ml mf mw mn w (by first | assumption | omega)) rfl (Nat.le_of_ble_eq_true rfl) (Nat.le_of_ble_eq_true rfl) (Nat.le_of_ble_eq_true rfl) dX5_back_7 [0] (by decide) rfl (ws' := fun u => [(y, .inr (5, [.int (nI 0), .ref mt, .int (nI ts), .int (nI pl), .int (nI W), .int (nI ll), .ref md, .ref ms, .int (nI rW), .ref mrd, .ref mrs, .ref mrp, .ref mp, .ref mb, .int (nI na), .ref mk, .ref mi, .long sd, .ref m1, .ref m2, .ref m3, .ref ml, .ref mf, .ref mw, .ref mn])), (ms, .inl (cI, 4, .inl sf)), (mp, .inl (cI, 52, .inl g))]) (st' := fun u => [.int (bz (!hasB w W))]) (fun _ => rfl) (fun _ => rfl) (fun _ => rfl) (fun _ _ => ?_)
  refine x_if_eqB ok 15 dX5_back_10 (by decide) (fun c_10 => ?_) (fun c_10 => ?_)
  · skip
    have hh : hasB w W = true := by simpa using c_10
    obtain ⟨j, hj, e_w⟩ := hasB_t (by omega) hh
    subst e_w
    have ej := cl_n (show j < 2 ^ 31 by omega)
    refine x_iload_n ok 2 dX5_back_15 rfl rfl ?_
    refine x_i2l ok ((v).toInt64) dX5_back_16 rfl ?_
    refine x_lconst ok ((nI 1).toInt64) dX5_back_17 (by decide) ?_
    refine x_ldc2v ok KX5_143 (v' := (nI 9).toInt64) (by decide) dX5_back_18 ?_
    refine qX5_69 ok (As := [.long ((v).toInt64), .long ((nI 1).toInt64), .long ((nI 9).toInt64)]) (st := []) (d_in l D cI cZ cS v (nI 1) (nI 9) ) rfl (Nat.le_of_ble_eq_true rfl) (Nat.le_of_ble_eq_true rfl) (Nat.le_of_ble_eq_true rfl) dX5_back_21 [] (by decide) rfl (ws' := fun u => [(y, .inr (5, [.int (nI 0), .ref mt, .int (nI ts), .int (nI pl), .int (nI W), .int (nI ll), .ref md, .ref ms, .int (nI rW), .ref mrd, .ref mrs, .ref mrp, .ref mp, .ref mb, .int (nI na), .ref mk, .ref mi, .long sd, .ref m1, .ref m2, .ref m3, .ref ml, .ref mf, .ref mw, .ref mn])), (ms, .inl (cI, 4, .inl sf)), (mp, .inl (cI, 52, .inl g))]) (st' := fun u => [.int (bz (inB v (nI 1) (nI 9)))]) (fun _ => rfl) (fun _ => rfl) (fun _ => rfl) (fun _ _ => ?_)
    refine x_if_eqB ok 58 dX5_back_24 (by decide) (fun c_24 => ?_) (fun c_24 => ?_)
    · skip
      refine x_bipush ok ((-2)) dX5_back_58 (by decide) ?_
      exact ret () _ _ _ ((-2)) dX5_back_60 (rfl) (by rw [backI, if_pos hh, if_neg (fun z => c_24 z.1)]) (trivial)
    · skip
      have hin := c_24
      obtain ⟨k, hk0, hk, e_v⟩ := inB_t (by omega) (by omega) c_24
      subst e_v
      have ek := cl_n (show k < 2 ^ 31 by omega)
      refine x_iload_n ok 3 dX5_back_27 rfl rfl ?_
      refine x_i2l ok ((n).toInt64) dX5_back_28 rfl ?_
      refine x_lconst ok ((nI 0).toInt64) dX5_back_29 (by decide) ?_
      refine x_ldc2v ok KX5_143 (v' := (nI 9).toInt64) (by decide) dX5_back_30 ?_
      refine qX5_69 ok (As := [.long ((n).toInt64), .long ((nI 0).toInt64), .long ((nI 9).toInt64)]) (st := []) (d_in l D cI cZ cS n (nI 0) (nI 9) ) rfl (Nat.le_of_ble_eq_true rfl) (Nat.le_of_ble_eq_true rfl) (Nat.le_of_ble_eq_true rfl) dX5_back_33 [] (by decide) rfl (ws' := fun u => [(y, .inr (5, [.int (nI 0), .ref mt, .int (nI ts), .int (nI pl), .int (nI W), .int (nI ll), .ref md, .ref ms, .int (nI rW), .ref mrd, .ref mrs, .ref mrp, .ref mp, .ref mb, .int (nI na), .ref mk, .ref mi, .long sd, .ref m1, .ref m2, .ref m3, .ref ml, .ref mf, .ref mw, .ref mn])), (ms, .inl (cI, 4, .inl sf)), (mp, .inl (cI, 52, .inl g))]) (st' := fun u => [.int (bz (inB n (nI 0) (nI 9)))]) (fun _ => rfl) (fun _ => rfl) (fun _ => rfl) (fun _ _ => ?_)
      refine x_if_eqB ok 58 dX5_back_36 (by decide) (fun c_36 => ?_) (fun c_36 => ?_)
      · skip
        refine x_bipush ok ((-2)) dX5_back_58 (by decide) ?_
        exact ret () _ _ _ ((-2)) dX5_back_60 (rfl) (by rw [backI, if_pos hh, if_neg (fun z => c_36 z.2)]) (trivial)
      · skip
        have hin2 := c_36
        obtain ⟨q, hq0, hq, e_n⟩ := inB_t (by omega) (by omega) c_36
        subst e_n
        have eq := cl_n (show q < 2 ^ 31 by omega)
        refine x_iload_n ok 2 dX5_back_39 rfl rfl ?_
        refine x_iload_n ok 3 dX5_back_40 rfl rfl ?_
        refine x_aload_n ok 0 dX5_back_41 rfl rfl ?_
        refine x_iload_n ok 1 dX5_back_42 rfl rfl ?_
        refine x_aload_n ok 0 dX5_back_43 rfl rfl ?_
        refine gX5_28 ok dX5_back_44 0 rfl rfl ?_
        refine x_bipush ok (nI 49) dX5_back_47 (by decide) ?_
        refine x_iald ok 2 0 49 dX5_back_49 rfl rfl (rfl) (by omega) (by decide) (nI li) (hg.2.2.1) ?_
        refine qX5_129 ok (As := [.int (nI j), .int (nI li)]) (st := [.int (nI q), .int (nI k)]) 0 rfl (d_aloneLoss l D cI cZ cS y (nI 0) mt ts pl W ll md ms rW mrd mrs mrp mp mb na mk mi sd m1 m2 m3 ml mf mw mn sf st j li (by first | assumption | omega) (by first | assumption | omega) (by first | assumption | omega) (by first | assumption | omega) (by first | assumption | omega)) rfl (Nat.le_of_ble_eq_true rfl) (Nat.le_of_ble_eq_true rfl) (Nat.le_of_ble_eq_true rfl) dX5_back_50 [0, 1] (by decide) rfl (ws' := fun u => [(y, .inr (5, [.int (nI 0), .ref mt, .int (nI ts), .int (nI pl), .int (nI W), .int (nI ll), .ref md, .ref ms, .int (nI rW), .ref mrd, .ref mrs, .ref mrp, .ref mp, .ref mb, .int (nI na), .ref mk, .ref mi, .long sd, .ref m1, .ref m2, .ref m3, .ref ml, .ref mf, .ref mw, .ref mn])), (ms, .inl (cI, 4, .inl sf)), (mp, .inl (cI, 52, .inl g))]) (st' := fun u => [.int (nI (st j + (if li.testBit j = true then 0 else 1))), .int (nI q), .int (nI k)]) (fun _ => rfl) (fun _ => rfl) (fun _ => rfl) (fun _ _ => ?_)
        refine x_imul ok (nI (q * (st j + if li.testBit j = true then 0 else 1))) dX5_back_53 (pk_mul _ _) ?_
        refine x_iadd ok (nI (k + q * (st j + if li.testBit j = true then 0 else 1))) dX5_back_54 (nI_add _ _) ?_
        refine x_goto ok 60 dX5_back_55 (by decide) ?_
        exact ret () _ _ _ (nI (k + q * (st j + if li.testBit j = true then 0 else 1))) dX5_back_60 (rfl) (by rw [backI, if_pos hh, if_pos ⟨hin, hin2⟩, ej, ek, eq]) (trivial)
  · skip
    have hh : ¬ hasB w W = true := by simpa using c_10
    refine x_iconst ok ((-1)) dX5_back_13 (by decide) ?_
    exact ret () _ _ _ ((-1)) dX5_back_14 (rfl) (by rw [backI, if_neg hh]) (trivial)

set_option maxHeartbeats 4000000 in
set_option maxRecDepth 100000 in
theorem e_seed (l : Launch) (D : va_G) (cI cZ cS : ClassId) (y : Nat) (zt : Int32) (mt : Nat) (ts : Nat) (pl : Nat) (W : Nat) (ll : Nat) (md : Nat) (ms : Nat) (rW : Nat) (mrd : Nat) (mrs : Nat) (mrp : Nat) (mp : Nat) (mb : Nat) (na : Nat) (mk : Nat) (mi : Nat) (sd : Int64) (m1 : Nat) (m2 : Nat) (m3 : Nat) (ml : Nat) (mf : Nat) (mw : Nat) (mn : Nat) (v : Int64)  : CO l D (TY cI cZ cS) yX5_seed cX5_seed 5 (some .long) 0 0 0 0 [.ref y, .long v] [(y, .inr (5, [.int zt, .ref mt, .int (nI ts), .int (nI pl), .int (nI W), .int (nI ll), .ref md, .ref ms, .int (nI rW), .ref mrd, .ref mrs, .ref mrp, .ref mp, .ref mb, .int (nI na), .ref mk, .ref mi, .long sd, .ref m1, .ref m2, .ref m3, .ref ml, .ref mf, .ref mw, .ref mn]))] (σ := Unit) (fun u => some (.long (sd))) (fun u => [(y, .inr (5, [.int (nI 0), .ref mt, .int (nI ts), .int (nI pl), .int (nI W), .int (nI ll), .ref md, .ref ms, .int (nI rW), .ref mrd, .ref mrs, .ref mrp, .ref mp, .ref mb, .int (nI na), .ref mk, .ref mi, .long v, .ref m1, .ref m2, .ref m3, .ref ml, .ref mf, .ref mw, .ref mn]))]) (fun u => True) := by
  refine CO_mkl (by decide +kernel) (Nat.le_of_ble_eq_true rfl) (fun K ok ret => ?_)
  show XX K [(y, .inr (5, [.int zt, .ref mt, .int (nI ts), .int (nI pl), .int (nI W), .int (nI ll), .ref md, .ref ms, .int (nI rW), .ref mrd, .ref mrs, .ref mrp, .ref mp, .ref mb, .int (nI na), .ref mk, .ref mi, .long sd, .ref m1, .ref m2, .ref m3, .ref ml, .ref mf, .ref mw, .ref mn]))] [(0, .ref y), (1, .long v)] 0 []
  refine x_aload_n ok 0 dX5_seed_0 rfl rfl ?_
  refine x_iconst ok (nI 0) dX5_seed_1 (by decide) ?_
  refine pX5_62 ok dX5_seed_2 0 rfl rfl rfl (Nat.le_of_ble_eq_true rfl) (ws' := [(y, .inr (5, [.int (nI 0), .ref mt, .int (nI ts), .int (nI pl), .int (nI W), .int (nI ll), .ref md, .ref ms, .int (nI rW), .ref mrd, .ref mrs, .ref mrp, .ref mp, .ref mb, .int (nI na), .ref mk, .ref mi, .long sd, .ref m1, .ref m2, .ref m3, .ref ml, .ref mf, .ref mw, .ref mn]))]) rfl ?_
  refine x_aload_n ok 0 dX5_seed_5 rfl rfl ?_
  refine gX5_193 ok dX5_seed_6 0 rfl rfl ?_
  refine x_lstore_n ok (lv' := [(3, .long sd), (0, .ref y), (1, .long v)]) dX5_seed_9 rfl (by decide) rfl ?_
  refine x_aload_n ok 1 dX5_seed_10 rfl rfl ?_
  refine x_lload_n ok 2 dX5_seed_11 rfl rfl ?_
  refine pX5_193 ok dX5_seed_12 0 rfl rfl rfl (Nat.le_of_ble_eq_true rfl) (ws' := [(y, .inr (5, [.int (nI 0), .ref mt, .int (nI ts), .int (nI pl), .int (nI W), .int (nI ll), .ref md, .ref ms, .int (nI rW), .ref mrd, .ref mrs, .ref mrp, .ref mp, .ref mb, .int (nI na), .ref mk, .ref mi, .long v, .ref m1, .ref m2, .ref m3, .ref ml, .ref mf, .ref mw, .ref mn]))]) rfl ?_
  refine x_lload_n ok 0 dX5_seed_15 rfl rfl ?_
  exact ret () _ _ _ (sd) dX5_seed_16 (rfl) (rfl) (trivial)

set_option maxHeartbeats 4000000 in
set_option maxRecDepth 100000 in
theorem e_keep0 (l : Launch) (D : va_G) (cI cZ cS : ClassId) (y : Nat) (zt : Int32) (mt : Nat) (ts : Nat) (pl : Nat) (W : Nat) (ll : Nat) (md : Nat) (ms : Nat) (rW : Nat) (mrd : Nat) (mrs : Nat) (mrp : Nat) (mp : Nat) (mb : Nat) (na : Nat) (mk : Nat) (mi : Nat) (sd : Int64) (m1 : Nat) (m2 : Nat) (m3 : Nat) (ml : Nat) (mf : Nat) (mw : Nat) (mn : Nat) (z : Int32) (hz : ¬ inB z (nI 0) (nI 1) = true) : CO l D (TY cI cZ cS) yX5_keep cX5_keep 3 (some .int) 1 25 0 0 [.ref y, .int z] [(y, .inr (5, [.int zt, .ref mt, .int (nI ts), .int (nI pl), .int (nI W), .int (nI ll), .ref md, .ref ms, .int (nI rW), .ref mrd, .ref mrs, .ref mrp, .ref mp, .ref mb, .int (nI na), .ref mk, .ref mi, .long sd, .ref m1, .ref m2, .ref m3, .ref ml, .ref mf, .ref mw, .ref mn]))] (σ := Unit) (fun u => some (.int ((-1)))) (fun u => [(y, .inr (5, [.int (nI 0), .ref mt, .int (nI ts), .int (nI pl), .int (nI W), .int (nI ll), .ref md, .ref ms, .int (nI rW), .ref mrd, .ref mrs, .ref mrp, .ref mp, .ref mb, .int (nI na), .ref mk, .ref mi, .long sd, .ref m1, .ref m2, .ref m3, .ref ml, .ref mf, .ref mw, .ref mn]))]) (fun u => True) := by
  refine CO_mki (by decide +kernel) (Nat.le_of_ble_eq_true rfl) (fun K ok ret => ?_)
  show XX K [(y, .inr (5, [.int zt, .ref mt, .int (nI ts), .int (nI pl), .int (nI W), .int (nI ll), .ref md, .ref ms, .int (nI rW), .ref mrd, .ref mrs, .ref mrp, .ref mp, .ref mb, .int (nI na), .ref mk, .ref mi, .long sd, .ref m1, .ref m2, .ref m3, .ref ml, .ref mf, .ref mw, .ref mn]))] [(0, .ref y), (1, .int z)] 0 []
  refine x_aload_n ok 0 dX5_keep_0 rfl rfl ?_
  refine x_iconst ok (nI 0) dX5_keep_1 (by decide) ?_
  refine pX5_62 ok dX5_keep_2 0 rfl rfl rfl (Nat.le_of_ble_eq_true rfl) (ws' := [(y, .inr (5, [.int (nI 0), .ref mt, .int (nI ts), .int (nI pl), .int (nI W), .int (nI ll), .ref md, .ref ms, .int (nI rW), .ref mrd, .ref mrs, .ref mrp, .ref mp, .ref mb, .int (nI na), .ref mk, .ref mi, .long sd, .ref m1, .ref m2, .ref m3, .ref ml, .ref mf, .ref mw, .ref mn]))]) rfl ?_
  refine x_iload_n ok 1 dX5_keep_5 rfl rfl ?_
  refine x_i2l ok ((z).toInt64) dX5_keep_6 rfl ?_
  refine x_lconst ok ((nI 0).toInt64) dX5_keep_7 (by decide) ?_
  refine x_lconst ok ((nI 1).toInt64) dX5_keep_8 (by decide) ?_
  refine qX5_69 ok (As := [.long ((z).toInt64), .long ((nI 0).toInt64), .long ((nI 1).toInt64)]) (st := []) (d_in l D cI cZ cS z (nI 0) (nI 1) ) rfl (Nat.le_of_ble_eq_true rfl) (Nat.le_of_ble_eq_true rfl) (Nat.le_of_ble_eq_true rfl) dX5_keep_9 [] (by decide) rfl (ws' := fun u => [(y, .inr (5, [.int (nI 0), .ref mt, .int (nI ts), .int (nI pl), .int (nI W), .int (nI ll), .ref md, .ref ms, .int (nI rW), .ref mrd, .ref mrs, .ref mrp, .ref mp, .ref mb, .int (nI na), .ref mk, .ref mi, .long sd, .ref m1, .ref m2, .ref m3, .ref ml, .ref mf, .ref mw, .ref mn]))]) (st' := fun u => [.int (bz (inB z (nI 0) (nI 1)))]) (fun _ => rfl) (fun _ => rfl) (fun _ => rfl) (fun _ _ => ?_)
  refine x_if_neB ok 17 dX5_keep_12 (by decide) (fun c_12 => absurd c_12 (hz)) (fun c_12 => ?_)
  refine x_iconst ok ((-1)) dX5_keep_15 (by decide) ?_
  exact ret () _ _ _ ((-1)) dX5_keep_16 (rfl) (rfl) (trivial)

set_option maxHeartbeats 4000000 in
set_option maxRecDepth 100000 in
theorem e_keep (l : Launch) (D : va_G) (cI cZ cS : ClassId) (y : Nat) (zt : Int32) (mt : Nat) (ts : Nat) (pl : Nat) (W : Nat) (ll : Nat) (md : Nat) (ms : Nat) (rW : Nat) (mrd : Nat) (mrs : Nat) (mrp : Nat) (mp : Nat) (mb : Nat) (na : Nat) (mk : Nat) (mi : Nat) (sd : Int64) (m1 : Nat) (m2 : Nat) (m3 : Nat) (ml : Nat) (mf : Nat) (mw : Nat) (mn : Nat) (g : Nat → Int32) (L : List Sg) (li : Nat) (ye : Int32) (br : Int32) (kg : Nat → Int32) (kf : Nat → Int32) (k : Nat) (hg : PGR g L li ye br) (h8 : L.length ≤ 8) (hk : k ≤ 1) : CO l D (TY cI cZ cS) yX5_keep cX5_keep 3 (some .int) 1 25 0 0 [.ref y, .int (nI k)] [(y, .inr (5, [.int zt, .ref mt, .int (nI ts), .int (nI pl), .int (nI W), .int (nI ll), .ref md, .ref ms, .int (nI rW), .ref mrd, .ref mrs, .ref mrp, .ref mp, .ref mb, .int (nI na), .ref mk, .ref mi, .long sd, .ref m1, .ref m2, .ref m3, .ref ml, .ref mf, .ref mw, .ref mn])), (mp, .inl (cI, 52, .inl g)), (mk, .inl (cI, 104, .inl kg)), (mi, .inl (cZ, 2, .inl kf))] (σ := (Nat → Int32)) (fun u => some (.int (nI L.length))) (fun u => [(y, .inr (5, [.int (nI 0), .ref mt, .int (nI ts), .int (nI pl), .int (nI W), .int (nI ll), .ref md, .ref ms, .int (nI rW), .ref mrd, .ref mrs, .ref mrp, .ref mp, .ref mb, .int (nI na), .ref mk, .ref mi, .long sd, .ref m1, .ref m2, .ref m3, .ref ml, .ref mf, .ref mw, .ref mn])), (mp, .inl (cI, 52, .inl g)), (mk, .inl (cI, 104, .inl u)), (mi, .inl (cZ, 2, .inl (upd kf k (nI 1))))]) (fun u => (PGR (fun t => u (52 * k + t)) L li ye br) ∧ (∀ t, t < 52 → u (52 * (1 - k) + t) = kg (52 * (1 - k) + t))) := by
  refine CO_mki (by decide +kernel) (Nat.le_of_ble_eq_true rfl) (fun K ok ret => ?_)
  show XX K [(y, .inr (5, [.int zt, .ref mt, .int (nI ts), .int (nI pl), .int (nI W), .int (nI ll), .ref md, .ref ms, .int (nI rW), .ref mrd, .ref mrs, .ref mrp, .ref mp, .ref mb, .int (nI na), .ref mk, .ref mi, .long sd, .ref m1, .ref m2, .ref m3, .ref ml, .ref mf, .ref mw, .ref mn])), (mp, .inl (cI, 52, .inl g)), (mk, .inl (cI, 104, .inl kg)), (mi, .inl (cZ, 2, .inl kf))] [(0, .ref y), (1, .int (nI k))] 0 []
  have hin := inB_n (j := k) (a := 0) (b := 1) (by omega) (Nat.zero_le k) hk
  refine x_aload_n ok 0 dX5_keep_0 rfl rfl ?_
  refine x_iconst ok (nI 0) dX5_keep_1 (by decide) ?_
  refine pX5_62 ok dX5_keep_2 0 rfl rfl rfl (Nat.le_of_ble_eq_true rfl) (ws' := [(y, .inr (5, [.int (nI 0), .ref mt, .int (nI ts), .int (nI pl), .int (nI W), .int (nI ll), .ref md, .ref ms, .int (nI rW), .ref mrd, .ref mrs, .ref mrp, .ref mp, .ref mb, .int (nI na), .ref mk, .ref mi, .long sd, .ref m1, .ref m2, .ref m3, .ref ml, .ref mf, .ref mw, .ref mn])), (mp, .inl (cI, 52, .inl g)), (mk, .inl (cI, 104, .inl kg)), (mi, .inl (cZ, 2, .inl kf))]) rfl ?_
  refine x_iload_n ok 1 dX5_keep_5 rfl rfl ?_
  refine x_i2l ok ((nI k).toInt64) dX5_keep_6 rfl ?_
  refine x_lconst ok ((nI 0).toInt64) dX5_keep_7 (by decide) ?_
  refine x_lconst ok ((nI 1).toInt64) dX5_keep_8 (by decide) ?_
  refine qX5_69 ok (As := [.long ((nI k).toInt64), .long ((nI 0).toInt64), .long ((nI 1).toInt64)]) (st := []) (d_in l D cI cZ cS (nI k) (nI 0) (nI 1) ) rfl (Nat.le_of_ble_eq_true rfl) (Nat.le_of_ble_eq_true rfl) (Nat.le_of_ble_eq_true rfl) dX5_keep_9 [] (by decide) rfl (ws' := fun u => [(y, .inr (5, [.int (nI 0), .ref mt, .int (nI ts), .int (nI pl), .int (nI W), .int (nI ll), .ref md, .ref ms, .int (nI rW), .ref mrd, .ref mrs, .ref mrp, .ref mp, .ref mb, .int (nI na), .ref mk, .ref mi, .long sd, .ref m1, .ref m2, .ref m3, .ref ml, .ref mf, .ref mw, .ref mn])), (mp, .inl (cI, 52, .inl g)), (mk, .inl (cI, 104, .inl kg)), (mi, .inl (cZ, 2, .inl kf))]) (st' := fun u => [.int (bz (inB (nI k) (nI 0) (nI 1)))]) (fun _ => rfl) (fun _ => rfl) (fun _ => rfl) (fun _ _ => ?_)
  refine x_if_neB ok 17 dX5_keep_12 (by decide) (fun c_12 => ?_) (fun c_12 => absurd c_12 (fun z => z hin))
  refine x_aload_n ok 0 dX5_keep_17 rfl rfl ?_
  refine gX5_37 ok dX5_keep_18 0 rfl rfl ?_
  refine x_iload_n ok 1 dX5_keep_21 rfl rfl ?_
  refine x_iconst ok (nI 1) dX5_keep_22 (by decide) ?_
  refine x_zast ok 3 1 k (ws' := [(y, .inr (5, [.int (nI 0), .ref mt, .int (nI ts), .int (nI pl), .int (nI W), .int (nI ll), .ref md, .ref ms, .int (nI rW), .ref mrd, .ref mrs, .ref mrp, .ref mp, .ref mb, .int (nI na), .ref mk, .ref mi, .long sd, .ref m1, .ref m2, .ref m3, .ref ml, .ref mf, .ref mw, .ref mn])), (mp, .inl (cI, 52, .inl g)), (mk, .inl (cI, 104, .inl kg)), (mi, .inl (cZ, 2, .inl (upd kf k (nI 1))))]) dX5_keep_23 rfl rfl (rfl) (by omega) (by decide) (by decide) (rfl) rfl ?_
  refine x_iconst ok (nI 0) dX5_keep_24 (by decide) ?_
  refine x_istore_n ok (lv' := [(2, .int (nI 0)), (0, .ref y), (1, .int (nI k))]) dX5_keep_25 rfl (by decide) rfl ?_
  have L_26 : ∀ (n_26 : Nat) (i : Nat) (k9 : Nat → Int32), 52 - i < n_26 → (i ≤ 52) → (∀ t, t < i → k9 (52 * k + t) = g t) → (∀ t, t < 52 → k9 (52 * (1 - k) + t) = kg (52 * (1 - k) + t)) → XX K [(y, .inr (5, [.int (nI 0), .ref mt, .int (nI ts), .int (nI pl), .int (nI W), .int (nI ll), .ref md, .ref ms, .int (nI rW), .ref mrd, .ref mrs, .ref mrp, .ref mp, .ref mb, .int (nI na), .ref mk, .ref mi, .long sd, .ref m1, .ref m2, .ref m3, .ref ml, .ref mf, .ref mw, .ref mn])), (mp, .inl (cI, 52, .inl g)), (mk, .inl (cI, 104, .inl k9)), (mi, .inl (cZ, 2, .inl (upd kf k (nI 1))))] [(2, .int (nI i)), (0, .ref y), (1, .int (nI k))] 26 [] := by
    intro n_26
    induction n_26 with
    | zero => intro i k9 hm; exact absurd hm (Nat.not_lt_zero _)
    | succ n_26 ih_26 =>
      intro i k9 hm_26 hi h1 h2
      refine x_iload_n ok 0 dX5_keep_26 rfl rfl ?_
      refine x_bipush ok (nI 52) dX5_keep_27 (by decide) ?_
      refine x_icmp_geN ok 55 dX5_keep_29 (by decide) (by omega) (by omega) (fun c_29 => ?_) (fun c_29 => ?_)
      · skip
        refine x_aload_n ok 1 dX5_keep_55 rfl rfl ?_
        refine gX5_28 ok dX5_keep_56 0 rfl rfl ?_
        refine x_bipush ok (nI 48) dX5_keep_59 (by decide) ?_
        refine x_iald ok 1 0 48 dX5_keep_61 rfl rfl (rfl) (by omega) (by decide) (nI L.length) (hg.2.1) ?_
        exact ret k9 _ _ _ (nI L.length) dX5_keep_62 (rfl) (by first | rfl | (simp [c_29]; done)) (⟨pgr_same hg h8 (fun j hj => h1 j (by omega)), h2⟩)
      · skip
        refine x_aload_n ok 1 dX5_keep_32 rfl rfl ?_
        refine gX5_34 ok dX5_keep_33 0 rfl rfl ?_
        refine x_bipush ok (nI 52) dX5_keep_36 (by decide) ?_
        refine x_iload_n ok 2 dX5_keep_38 rfl rfl ?_
        refine x_imul ok (nI (k * 52)) dX5_keep_39 (nN (pk_mul _ _) (by omega)) ?_
        refine x_iload_n ok 0 dX5_keep_40 rfl rfl ?_
        refine x_iadd ok (nI (i + k * 52)) dX5_keep_41 (nN (nI_add _ _) (by omega)) ?_
        refine x_aload_n ok 1 dX5_keep_42 rfl rfl ?_
        refine gX5_28 ok dX5_keep_43 0 rfl rfl ?_
        refine x_iload_n ok 0 dX5_keep_46 rfl rfl ?_
        refine x_iald ok 1 0 i dX5_keep_47 rfl rfl (rfl) (by omega) (by decide) ((g i)) (rfl) ?_
        refine x_iast ok 2 0 (i + k * 52) (ws' := [(y, .inr (5, [.int (nI 0), .ref mt, .int (nI ts), .int (nI pl), .int (nI W), .int (nI ll), .ref md, .ref ms, .int (nI rW), .ref mrd, .ref mrs, .ref mrp, .ref mp, .ref mb, .int (nI na), .ref mk, .ref mi, .long sd, .ref m1, .ref m2, .ref m3, .ref ml, .ref mf, .ref mw, .ref mn])), (mp, .inl (cI, 52, .inl g)), (mk, .inl (cI, 104, .inl (upd k9 (i + k * 52) (g i)))), (mi, .inl (cZ, 2, .inl (upd kf k (nI 1))))]) dX5_keep_48 rfl rfl (rfl) (by omega) (by decide) (rfl) rfl ?_
        refine x_iinc ok (v := nI (i + 1)) (lv' := [(2, .int (nI (i + 1))), (0, .ref y), (1, .int (nI k))]) dX5_keep_49 0 rfl (nN (nI_inc _ 1) (by omega)) (by decide) rfl ?_
        refine x_goto ok 26 dX5_keep_52 (by decide) ?_
        exact ih_26 (i + 1) (upd k9 (i + k * 52) (g i)) (by omega) (by first | assumption | omega) (fun t ht => by rcases Nat.lt_or_ge t i with q | q; (rw [upd_n (by omega)]; exact h1 t q); (rw [show 52 * k + t = i + k * 52 by omega, upd_s, show t = i by omega])) (fun t ht => by rw [upd_n (by omega)]; exact h2 t ht)
  exact L_26 _ 0 kg (Nat.lt_succ_self _) (by first | assumption | omega) (fun t ht => absurd ht (Nat.not_lt_zero t)) (fun t ht => rfl)

set_option maxHeartbeats 4000000 in
set_option maxRecDepth 100000 in
theorem e_again0 (l : Launch) (D : va_G) (cI cZ cS : ClassId) (y : Nat) (zt : Int32) (mt : Nat) (ts : Nat) (pl : Nat) (W : Nat) (ll : Nat) (md : Nat) (ms : Nat) (rW : Nat) (mrd : Nat) (mrs : Nat) (mrp : Nat) (mp : Nat) (mb : Nat) (na : Nat) (mk : Nat) (mi : Nat) (sd : Int64) (m1 : Nat) (m2 : Nat) (m3 : Nat) (ml : Nat) (mf : Nat) (mw : Nat) (mn : Nat) (z : Int32) (hz : ¬ inB z (nI 0) (nI 1) = true) : CO l D (TY cI cZ cS) yX5_again cX5_again 3 (some .int) 1 25 0 0 [.ref y, .int z] [(y, .inr (5, [.int zt, .ref mt, .int (nI ts), .int (nI pl), .int (nI W), .int (nI ll), .ref md, .ref ms, .int (nI rW), .ref mrd, .ref mrs, .ref mrp, .ref mp, .ref mb, .int (nI na), .ref mk, .ref mi, .long sd, .ref m1, .ref m2, .ref m3, .ref ml, .ref mf, .ref mw, .ref mn]))] (σ := Unit) (fun u => some (.int ((-1)))) (fun u => [(y, .inr (5, [.int (nI 0), .ref mt, .int (nI ts), .int (nI pl), .int (nI W), .int (nI ll), .ref md, .ref ms, .int (nI rW), .ref mrd, .ref mrs, .ref mrp, .ref mp, .ref mb, .int (nI na), .ref mk, .ref mi, .long sd, .ref m1, .ref m2, .ref m3, .ref ml, .ref mf, .ref mw, .ref mn]))]) (fun u => True) := by
  refine CO_mki (by decide +kernel) (Nat.le_of_ble_eq_true rfl) (fun K ok ret => ?_)
  show XX K [(y, .inr (5, [.int zt, .ref mt, .int (nI ts), .int (nI pl), .int (nI W), .int (nI ll), .ref md, .ref ms, .int (nI rW), .ref mrd, .ref mrs, .ref mrp, .ref mp, .ref mb, .int (nI na), .ref mk, .ref mi, .long sd, .ref m1, .ref m2, .ref m3, .ref ml, .ref mf, .ref mw, .ref mn]))] [(0, .ref y), (1, .int z)] 0 []
  refine x_aload_n ok 0 dX5_again_0 rfl rfl ?_
  refine x_iconst ok (nI 0) dX5_again_1 (by decide) ?_
  refine pX5_62 ok dX5_again_2 0 rfl rfl rfl (Nat.le_of_ble_eq_true rfl) (ws' := [(y, .inr (5, [.int (nI 0), .ref mt, .int (nI ts), .int (nI pl), .int (nI W), .int (nI ll), .ref md, .ref ms, .int (nI rW), .ref mrd, .ref mrs, .ref mrp, .ref mp, .ref mb, .int (nI na), .ref mk, .ref mi, .long sd, .ref m1, .ref m2, .ref m3, .ref ml, .ref mf, .ref mw, .ref mn]))]) rfl ?_
  refine x_iload_n ok 1 dX5_again_5 rfl rfl ?_
  refine x_i2l ok ((z).toInt64) dX5_again_6 rfl ?_
  refine x_lconst ok ((nI 0).toInt64) dX5_again_7 (by decide) ?_
  refine x_lconst ok ((nI 1).toInt64) dX5_again_8 (by decide) ?_
  refine qX5_69 ok (As := [.long ((z).toInt64), .long ((nI 0).toInt64), .long ((nI 1).toInt64)]) (st := []) (d_in l D cI cZ cS z (nI 0) (nI 1) ) rfl (Nat.le_of_ble_eq_true rfl) (Nat.le_of_ble_eq_true rfl) (Nat.le_of_ble_eq_true rfl) dX5_again_9 [] (by decide) rfl (ws' := fun u => [(y, .inr (5, [.int (nI 0), .ref mt, .int (nI ts), .int (nI pl), .int (nI W), .int (nI ll), .ref md, .ref ms, .int (nI rW), .ref mrd, .ref mrs, .ref mrp, .ref mp, .ref mb, .int (nI na), .ref mk, .ref mi, .long sd, .ref m1, .ref m2, .ref m3, .ref ml, .ref mf, .ref mw, .ref mn]))]) (st' := fun u => [.int (bz (inB z (nI 0) (nI 1)))]) (fun _ => rfl) (fun _ => rfl) (fun _ => rfl) (fun _ _ => ?_)
  refine x_if_neB ok 17 dX5_again_12 (by decide) (fun c_12 => absurd c_12 (hz)) (fun c_12 => ?_)
  refine x_iconst ok ((-1)) dX5_again_15 (by decide) ?_
  exact ret () _ _ _ ((-1)) dX5_again_16 (rfl) (rfl) (trivial)

set_option maxHeartbeats 4000000 in
set_option maxRecDepth 100000 in
theorem e_againN (l : Launch) (D : va_G) (cI cZ cS : ClassId) (y : Nat) (zt : Int32) (mt : Nat) (ts : Nat) (pl : Nat) (W : Nat) (ll : Nat) (md : Nat) (ms : Nat) (rW : Nat) (mrd : Nat) (mrs : Nat) (mrp : Nat) (mp : Nat) (mb : Nat) (na : Nat) (mk : Nat) (mi : Nat) (sd : Int64) (m1 : Nat) (m2 : Nat) (m3 : Nat) (ml : Nat) (mf : Nat) (mw : Nat) (mn : Nat) (kf : Nat → Int32) (k : Nat) (hk : k ≤ 1) (hb : kf k = nI 0) : CO l D (TY cI cZ cS) yX5_again cX5_again 3 (some .int) 1 25 0 0 [.ref y, .int (nI k)] [(y, .inr (5, [.int zt, .ref mt, .int (nI ts), .int (nI pl), .int (nI W), .int (nI ll), .ref md, .ref ms, .int (nI rW), .ref mrd, .ref mrs, .ref mrp, .ref mp, .ref mb, .int (nI na), .ref mk, .ref mi, .long sd, .ref m1, .ref m2, .ref m3, .ref ml, .ref mf, .ref mw, .ref mn])), (mi, .inl (cZ, 2, .inl kf))] (σ := Unit) (fun u => some (.int ((-3)))) (fun u => [(y, .inr (5, [.int (nI 0), .ref mt, .int (nI ts), .int (nI pl), .int (nI W), .int (nI ll), .ref md, .ref ms, .int (nI rW), .ref mrd, .ref mrs, .ref mrp, .ref mp, .ref mb, .int (nI na), .ref mk, .ref mi, .long sd, .ref m1, .ref m2, .ref m3, .ref ml, .ref mf, .ref mw, .ref mn])), (mi, .inl (cZ, 2, .inl kf))]) (fun u => True) := by
  refine CO_mki (by decide +kernel) (Nat.le_of_ble_eq_true rfl) (fun K ok ret => ?_)
  show XX K [(y, .inr (5, [.int zt, .ref mt, .int (nI ts), .int (nI pl), .int (nI W), .int (nI ll), .ref md, .ref ms, .int (nI rW), .ref mrd, .ref mrs, .ref mrp, .ref mp, .ref mb, .int (nI na), .ref mk, .ref mi, .long sd, .ref m1, .ref m2, .ref m3, .ref ml, .ref mf, .ref mw, .ref mn])), (mi, .inl (cZ, 2, .inl kf))] [(0, .ref y), (1, .int (nI k))] 0 []
  have hin := inB_n (j := k) (a := 0) (b := 1) (by omega) (Nat.zero_le k) hk
  refine x_aload_n ok 0 dX5_again_0 rfl rfl ?_
  refine x_iconst ok (nI 0) dX5_again_1 (by decide) ?_
  refine pX5_62 ok dX5_again_2 0 rfl rfl rfl (Nat.le_of_ble_eq_true rfl) (ws' := [(y, .inr (5, [.int (nI 0), .ref mt, .int (nI ts), .int (nI pl), .int (nI W), .int (nI ll), .ref md, .ref ms, .int (nI rW), .ref mrd, .ref mrs, .ref mrp, .ref mp, .ref mb, .int (nI na), .ref mk, .ref mi, .long sd, .ref m1, .ref m2, .ref m3, .ref ml, .ref mf, .ref mw, .ref mn])), (mi, .inl (cZ, 2, .inl kf))]) rfl ?_
  refine x_iload_n ok 1 dX5_again_5 rfl rfl ?_
  refine x_i2l ok ((nI k).toInt64) dX5_again_6 rfl ?_
  refine x_lconst ok ((nI 0).toInt64) dX5_again_7 (by decide) ?_
  refine x_lconst ok ((nI 1).toInt64) dX5_again_8 (by decide) ?_
  refine qX5_69 ok (As := [.long ((nI k).toInt64), .long ((nI 0).toInt64), .long ((nI 1).toInt64)]) (st := []) (d_in l D cI cZ cS (nI k) (nI 0) (nI 1) ) rfl (Nat.le_of_ble_eq_true rfl) (Nat.le_of_ble_eq_true rfl) (Nat.le_of_ble_eq_true rfl) dX5_again_9 [] (by decide) rfl (ws' := fun u => [(y, .inr (5, [.int (nI 0), .ref mt, .int (nI ts), .int (nI pl), .int (nI W), .int (nI ll), .ref md, .ref ms, .int (nI rW), .ref mrd, .ref mrs, .ref mrp, .ref mp, .ref mb, .int (nI na), .ref mk, .ref mi, .long sd, .ref m1, .ref m2, .ref m3, .ref ml, .ref mf, .ref mw, .ref mn])), (mi, .inl (cZ, 2, .inl kf))]) (st' := fun u => [.int (bz (inB (nI k) (nI 0) (nI 1)))]) (fun _ => rfl) (fun _ => rfl) (fun _ => rfl) (fun _ _ => ?_)
  refine x_if_neB ok 17 dX5_again_12 (by decide) (fun c_12 => ?_) (fun c_12 => absurd c_12 (fun z => z hin))
  refine x_aload_n ok 0 dX5_again_17 rfl rfl ?_
  refine gX5_37 ok dX5_again_18 0 rfl rfl ?_
  refine x_iload_n ok 1 dX5_again_21 rfl rfl ?_
  refine x_zald ok 1 1 k dX5_again_22 rfl rfl (rfl) (by omega) (by decide) (nI 0) (hb) ?_
  refine x_if_neN ok 29 dX5_again_23 (by decide) (by omega) (fun c_23 => absurd c_23 (fun z => z rfl)) (fun c_23 => ?_)
  refine x_bipush ok ((-3)) dX5_again_26 (by decide) ?_
  exact ret () _ _ _ ((-3)) dX5_again_28 (rfl) (rfl) (trivial)

set_option maxHeartbeats 4000000 in
set_option maxRecDepth 100000 in
theorem e_again1 (l : Launch) (D : va_G) (cI cZ cS : ClassId) (y : Nat) (zt : Int32) (mt : Nat) (ts : Nat) (pl : Nat) (W : Nat) (ll : Nat) (md : Nat) (ms : Nat) (rW : Nat) (mrd : Nat) (mrs : Nat) (mrp : Nat) (mp : Nat) (mb : Nat) (na : Nat) (mk : Nat) (mi : Nat) (sd : Int64) (m1 : Nat) (m2 : Nat) (m3 : Nat) (ml : Nat) (mf : Nat) (mw : Nat) (mn : Nat) (g : Nat → Int32) (L : List Sg) (li : Nat) (ye : Int32) (br : Int32) (kg : Nat → Int32) (kf : Nat → Int32) (g0 : Nat → Int32) (k : Nat) (hkp : PGR (fun t => kg (52 * k + t)) L li ye br) (h8 : L.length ≤ 8) (hk : k ≤ 1) (hb : kf k = nI 1) : CO l D (TY cI cZ cS) yX5_again cX5_again 3 (some .int) 1 25 0 0 [.ref y, .int (nI k)] [(y, .inr (5, [.int zt, .ref mt, .int (nI ts), .int (nI pl), .int (nI W), .int (nI ll), .ref md, .ref ms, .int (nI rW), .ref mrd, .ref mrs, .ref mrp, .ref mp, .ref mb, .int (nI na), .ref mk, .ref mi, .long sd, .ref m1, .ref m2, .ref m3, .ref ml, .ref mf, .ref mw, .ref mn])), (mp, .inl (cI, 52, .inl g0)), (mk, .inl (cI, 104, .inl kg)), (mi, .inl (cZ, 2, .inl kf))] (σ := (Nat → Int32)) (fun u => some (.int (nI L.length))) (fun u => [(y, .inr (5, [.int (nI 0), .ref mt, .int (nI ts), .int (nI pl), .int (nI W), .int (nI ll), .ref md, .ref ms, .int (nI rW), .ref mrd, .ref mrs, .ref mrp, .ref mp, .ref mb, .int (nI 0), .ref mk, .ref mi, .long sd, .ref m1, .ref m2, .ref m3, .ref ml, .ref mf, .ref mw, .ref mn])), (mp, .inl (cI, 52, .inl u)), (mk, .inl (cI, 104, .inl kg)), (mi, .inl (cZ, 2, .inl kf))]) (fun u => (PGR u L li ye br)) := by
  refine CO_mki (by decide +kernel) (Nat.le_of_ble_eq_true rfl) (fun K ok ret => ?_)
  show XX K [(y, .inr (5, [.int zt, .ref mt, .int (nI ts), .int (nI pl), .int (nI W), .int (nI ll), .ref md, .ref ms, .int (nI rW), .ref mrd, .ref mrs, .ref mrp, .ref mp, .ref mb, .int (nI na), .ref mk, .ref mi, .long sd, .ref m1, .ref m2, .ref m3, .ref ml, .ref mf, .ref mw, .ref mn])), (mp, .inl (cI, 52, .inl g0)), (mk, .inl (cI, 104, .inl kg)), (mi, .inl (cZ, 2, .inl kf))] [(0, .ref y), (1, .int (nI k))] 0 []
  have hin := inB_n (j := k) (a := 0) (b := 1) (by omega) (Nat.zero_le k) hk
  refine x_aload_n ok 0 dX5_again_0 rfl rfl ?_
  refine x_iconst ok (nI 0) dX5_again_1 (by decide) ?_
  refine pX5_62 ok dX5_again_2 0 rfl rfl rfl (Nat.le_of_ble_eq_true rfl) (ws' := [(y, .inr (5, [.int (nI 0), .ref mt, .int (nI ts), .int (nI pl), .int (nI W), .int (nI ll), .ref md, .ref ms, .int (nI rW), .ref mrd, .ref mrs, .ref mrp, .ref mp, .ref mb, .int (nI na), .ref mk, .ref mi, .long sd, .ref m1, .ref m2, .ref m3, .ref ml, .ref mf, .ref mw, .ref mn])), (mp, .inl (cI, 52, .inl g0)), (mk, .inl (cI, 104, .inl kg)), (mi, .inl (cZ, 2, .inl kf))]) rfl ?_
  refine x_iload_n ok 1 dX5_again_5 rfl rfl ?_
  refine x_i2l ok ((nI k).toInt64) dX5_again_6 rfl ?_
  refine x_lconst ok ((nI 0).toInt64) dX5_again_7 (by decide) ?_
  refine x_lconst ok ((nI 1).toInt64) dX5_again_8 (by decide) ?_
  refine qX5_69 ok (As := [.long ((nI k).toInt64), .long ((nI 0).toInt64), .long ((nI 1).toInt64)]) (st := []) (d_in l D cI cZ cS (nI k) (nI 0) (nI 1) ) rfl (Nat.le_of_ble_eq_true rfl) (Nat.le_of_ble_eq_true rfl) (Nat.le_of_ble_eq_true rfl) dX5_again_9 [] (by decide) rfl (ws' := fun u => [(y, .inr (5, [.int (nI 0), .ref mt, .int (nI ts), .int (nI pl), .int (nI W), .int (nI ll), .ref md, .ref ms, .int (nI rW), .ref mrd, .ref mrs, .ref mrp, .ref mp, .ref mb, .int (nI na), .ref mk, .ref mi, .long sd, .ref m1, .ref m2, .ref m3, .ref ml, .ref mf, .ref mw, .ref mn])), (mp, .inl (cI, 52, .inl g0)), (mk, .inl (cI, 104, .inl kg)), (mi, .inl (cZ, 2, .inl kf))]) (st' := fun u => [.int (bz (inB (nI k) (nI 0) (nI 1)))]) (fun _ => rfl) (fun _ => rfl) (fun _ => rfl) (fun _ _ => ?_)
  refine x_if_neB ok 17 dX5_again_12 (by decide) (fun c_12 => ?_) (fun c_12 => absurd c_12 (fun z => z hin))
  refine x_aload_n ok 0 dX5_again_17 rfl rfl ?_
  refine gX5_37 ok dX5_again_18 0 rfl rfl ?_
  refine x_iload_n ok 1 dX5_again_21 rfl rfl ?_
  refine x_zald ok 3 1 k dX5_again_22 rfl rfl (rfl) (by omega) (by decide) (nI 1) (hb) ?_
  refine x_if_neN ok 29 dX5_again_23 (by decide) (by omega) (fun c_23 => ?_) (fun c_23 => absurd c_23 (by decide))
  refine x_iconst ok (nI 0) dX5_again_29 (by decide) ?_
  refine x_istore_n ok (lv' := [(2, .int (nI 0)), (0, .ref y), (1, .int (nI k))]) dX5_again_30 rfl (by decide) rfl ?_
  have L_31 : ∀ (n_31 : Nat) (i : Nat) (g9 : Nat → Int32), 52 - i < n_31 → (i ≤ 52) → (∀ t, t < i → g9 t = kg (52 * k + t)) → XX K [(y, .inr (5, [.int (nI 0), .ref mt, .int (nI ts), .int (nI pl), .int (nI W), .int (nI ll), .ref md, .ref ms, .int (nI rW), .ref mrd, .ref mrs, .ref mrp, .ref mp, .ref mb, .int (nI na), .ref mk, .ref mi, .long sd, .ref m1, .ref m2, .ref m3, .ref ml, .ref mf, .ref mw, .ref mn])), (mp, .inl (cI, 52, .inl g9)), (mk, .inl (cI, 104, .inl kg)), (mi, .inl (cZ, 2, .inl kf))] [(2, .int (nI i)), (0, .ref y), (1, .int (nI k))] 31 [] := by
    intro n_31
    induction n_31 with
    | zero => intro i g9 hm; exact absurd hm (Nat.not_lt_zero _)
    | succ n_31 ih_31 =>
      intro i g9 hm_31 hi h1
      refine x_iload_n ok 0 dX5_again_31 rfl rfl ?_
      refine x_bipush ok (nI 52) dX5_again_32 (by decide) ?_
      refine x_icmp_geN ok 60 dX5_again_34 (by decide) (by omega) (by omega) (fun c_34 => ?_) (fun c_34 => ?_)
      · skip
        have hpg := pgr_same hkp h8 (fun j hj => h1 j (by omega))
        refine x_aload_n ok 1 dX5_again_60 rfl rfl ?_
        refine x_iconst ok (nI 0) dX5_again_61 (by decide) ?_
        refine pX5_113 ok dX5_again_62 0 rfl rfl rfl (Nat.le_of_ble_eq_true rfl) (ws' := [(y, .inr (5, [.int (nI 0), .ref mt, .int (nI ts), .int (nI pl), .int (nI W), .int (nI ll), .ref md, .ref ms, .int (nI rW), .ref mrd, .ref mrs, .ref mrp, .ref mp, .ref mb, .int (nI 0), .ref mk, .ref mi, .long sd, .ref m1, .ref m2, .ref m3, .ref ml, .ref mf, .ref mw, .ref mn])), (mp, .inl (cI, 52, .inl g9)), (mk, .inl (cI, 104, .inl kg)), (mi, .inl (cZ, 2, .inl kf))]) rfl ?_
        refine x_aload_n ok 1 dX5_again_65 rfl rfl ?_
        refine gX5_28 ok dX5_again_66 0 rfl rfl ?_
        refine x_bipush ok (nI 48) dX5_again_69 (by decide) ?_
        refine x_iald ok 1 0 48 dX5_again_71 rfl rfl (rfl) (by omega) (by decide) (nI L.length) (hpg.2.1) ?_
        exact ret g9 _ _ _ (nI L.length) dX5_again_72 (rfl) (by first | rfl | (simp [c_34]; done)) (hpg)
      · skip
        refine x_aload_n ok 1 dX5_again_37 rfl rfl ?_
        refine gX5_28 ok dX5_again_38 0 rfl rfl ?_
        refine x_iload_n ok 0 dX5_again_41 rfl rfl ?_
        refine x_aload_n ok 1 dX5_again_42 rfl rfl ?_
        refine gX5_34 ok dX5_again_43 0 rfl rfl ?_
        refine x_bipush ok (nI 52) dX5_again_46 (by decide) ?_
        refine x_iload_n ok 2 dX5_again_48 rfl rfl ?_
        refine x_imul ok (nI (k * 52)) dX5_again_49 (nN (pk_mul _ _) (by omega)) ?_
        refine x_iload_n ok 0 dX5_again_50 rfl rfl ?_
        refine x_iadd ok (nI (i + k * 52)) dX5_again_51 (nN (nI_add _ _) (by omega)) ?_
        refine x_iald ok 2 0 (i + k * 52) dX5_again_52 rfl rfl (rfl) (by omega) (by decide) ((kg (i + k * 52))) (rfl) ?_
        refine x_iast ok 1 0 i (ws' := [(y, .inr (5, [.int (nI 0), .ref mt, .int (nI ts), .int (nI pl), .int (nI W), .int (nI ll), .ref md, .ref ms, .int (nI rW), .ref mrd, .ref mrs, .ref mrp, .ref mp, .ref mb, .int (nI na), .ref mk, .ref mi, .long sd, .ref m1, .ref m2, .ref m3, .ref ml, .ref mf, .ref mw, .ref mn])), (mp, .inl (cI, 52, .inl (upd g9 i (kg (i + k * 52))))), (mk, .inl (cI, 104, .inl kg)), (mi, .inl (cZ, 2, .inl kf))]) dX5_again_53 rfl rfl (rfl) (by omega) (by decide) (rfl) rfl ?_
        refine x_iinc ok (v := nI (i + 1)) (lv' := [(2, .int (nI (i + 1))), (0, .ref y), (1, .int (nI k))]) dX5_again_54 0 rfl (nN (nI_inc _ 1) (by omega)) (by decide) rfl ?_
        refine x_goto ok 31 dX5_again_57 (by decide) ?_
        exact ih_31 (i + 1) (upd g9 i (kg (i + k * 52))) (by omega) (by first | assumption | omega) (fun t ht => by rcases Nat.lt_or_ge t i with q | q; (rw [upd_n (by omega)]; exact h1 t q); (rw [show t = i by omega, upd_s]; congr 1; omega))
  exact L_31 _ 0 g0 (Nat.lt_succ_self _) (by first | assumption | omega) (fun t ht => absurd ht (Nat.not_lt_zero t))
