set_option maxHeartbeats 4000000 in
set_option maxRecDepth 100000 in
theorem d_noLaw (l : Launch) (D : va_G) (cI cZ cS : ClassId) (x : Int32)  : CO l D (TY cI cZ cS) yX5_noLaw cX5_noLaw 1 (some .boolean) 1 25 0 0 [.int x] [] (σ := Unit) (fun u => some (.int (bz (!inB x (nI 0) (nI 5))))) (fun u => []) (fun u => True) := by
  refine CO_mkz (by decide +kernel) (Nat.le_of_ble_eq_true rfl) (fun K ok ret => ?_)
  show XX K [] [(0, .int x)] 0 []
  refine x_iload_n ok 0 dX5_noLaw_0 rfl rfl ?_
  refine x_i2l ok ((x).toInt64) dX5_noLaw_1 rfl ?_
  refine x_lconst ok ((nI 0).toInt64) dX5_noLaw_2 (by decide) ?_
  refine x_ldc2v ok KX5_123 (v' := (nI 5).toInt64) (by decide) dX5_noLaw_3 ?_
  refine qX5_69 ok (As := [.long ((x).toInt64), .long ((nI 0).toInt64), .long ((nI 5).toInt64)]) (st := []) (d_in l D cI cZ cS x (nI 0) (nI 5) ) rfl (Nat.le_of_ble_eq_true rfl) (Nat.le_of_ble_eq_true rfl) (Nat.le_of_ble_eq_true rfl) dX5_noLaw_6 [] (by decide) rfl (ws' := fun u => []) (st' := fun u => [.int (bz (inB x (nI 0) (nI 5)))]) (fun _ => rfl) (fun _ => rfl) (fun _ => rfl) (fun _ _ => ?_)
  refine x_if_neB ok 16 dX5_noLaw_9 (by decide) (fun c_9 => ?_) (fun c_9 => ?_)
  · skip
    refine x_iconst ok (nI 0) dX5_noLaw_16 (by decide) ?_
    exact ret () _ _ _ (false) dX5_noLaw_17 (rfl) (by simp [c_9]) (trivial)
  · skip
    refine x_iconst ok (nI 1) dX5_noLaw_12 (by decide) ?_
    refine x_goto ok 17 dX5_noLaw_13 (by decide) ?_
    exact ret () _ _ _ (true) dX5_noLaw_17 (rfl) (by simp [c_9]) (trivial)

set_option maxHeartbeats 4000000 in
set_option maxRecDepth 100000 in
theorem e_songLasts (l : Launch) (D : va_G) (cI cZ cS : ClassId) (y : Nat) (zt : Int32) (mt : Nat) (ts : Nat) (pl : Nat) (W : Nat) (ll : Nat) (md : Nat) (ms : Nat) (rW : Nat) (mrd : Nat) (mrs : Nat) (mrp : Nat) (mp : Nat) (mb : Nat) (na : Nat) (mk : Nat) (mi : Nat) (sd : Int64) (m1 : Nat) (m2 : Nat) (m3 : Nat) (ml : Nat) (mf : Nat) (mw : Nat) (mn : Nat) (sf : Nat → Int32) (st : Nat → Nat) (g : Nat → Int32) (L : List Sg) (li : Nat) (ye : Int32) (br : Int32) (A : Nat) (of : Nat → Int32) (lf : Nat → Int32) (z : Int32) (hst : ∀ w, w < W → sf w = nI (st w)) (hst2 : ∀ w, w < W → st w ≤ 2) (hg : PGR g L li ye br) (hv : okL W A L) (hW4 : W ≤ 4) (hl : li < 256) (hA : A < 900000) : CO l D (TY cI cZ cS) yX5_songLasts cX5_songLasts 4 (some .int) 3 67 0 0 [.ref y, .int z] [(y, .inr (5, [.int zt, .ref mt, .int (nI ts), .int (nI pl), .int (nI W), .int (nI ll), .ref md, .ref ms, .int (nI rW), .ref mrd, .ref mrs, .ref mrp, .ref mp, .ref mb, .int (nI na), .ref mk, .ref mi, .long sd, .ref m1, .ref m2, .ref m3, .ref ml, .ref mf, .ref mw, .ref mn])), (ms, .inl (cI, 4, .inl sf)), (mp, .inl (cI, 52, .inl g)), (m1, .inl (cI, 52, .inl of)), (ml, .inl (cI, 8, .inl lf))] (σ := (Nat → Int32) × (Nat → Int32)) (fun u => some (.int (songLastsI st li L z))) (fun u => [(y, .inr (5, [.int (nI 0), .ref mt, .int (nI ts), .int (nI pl), .int (nI W), .int (nI ll), .ref md, .ref ms, .int (nI rW), .ref mrd, .ref mrs, .ref mrp, .ref mp, .ref mb, .int (nI na), .ref mk, .ref mi, .long sd, .ref m1, .ref m2, .ref m3, .ref ml, .ref mf, .ref mw, .ref mn])), (ms, .inl (cI, 4, .inl sf)), (mp, .inl (cI, 52, .inl g)), (m1, .inl (cI, 52, .inl u.1)), (ml, .inl (cI, 8, .inl u.2))]) (fun u => True) := by
  refine CO_mki (by decide +kernel) (Nat.le_of_ble_eq_true rfl) (fun K ok ret => ?_)
  show XX K [(y, .inr (5, [.int zt, .ref mt, .int (nI ts), .int (nI pl), .int (nI W), .int (nI ll), .ref md, .ref ms, .int (nI rW), .ref mrd, .ref mrs, .ref mrp, .ref mp, .ref mb, .int (nI na), .ref mk, .ref mi, .long sd, .ref m1, .ref m2, .ref m3, .ref ml, .ref mf, .ref mw, .ref mn])), (ms, .inl (cI, 4, .inl sf)), (mp, .inl (cI, 52, .inl g)), (m1, .inl (cI, 52, .inl of)), (ml, .inl (cI, 8, .inl lf))] [(0, .ref y), (1, .int z)] 0 []
  have h8 := hv.1
  refine x_aload_n ok 0 dX5_songLasts_0 rfl rfl ?_
  refine x_iconst ok (nI 0) dX5_songLasts_1 (by decide) ?_
  refine pX5_62 ok dX5_songLasts_2 0 rfl rfl rfl (Nat.le_of_ble_eq_true rfl) (ws' := [(y, .inr (5, [.int (nI 0), .ref mt, .int (nI ts), .int (nI pl), .int (nI W), .int (nI ll), .ref md, .ref ms, .int (nI rW), .ref mrd, .ref mrs, .ref mrp, .ref mp, .ref mb, .int (nI na), .ref mk, .ref mi, .long sd, .ref m1, .ref m2, .ref m3, .ref ml, .ref mf, .ref mw, .ref mn])), (ms, .inl (cI, 4, .inl sf)), (mp, .inl (cI, 52, .inl g)), (m1, .inl (cI, 52, .inl of)), (ml, .inl (cI, 8, .inl lf))]) rfl ?_
  refine x_aload_n ok 0 dX5_songLasts_5 rfl rfl ?_
  refine x_iload_n ok 1 dX5_songLasts_6 rfl rfl ?_
  refine qX5_120 ok (As := [.int z]) (st := []) 0 rfl (d_noSong l D cI cZ cS y (nI 0) mt ts pl W ll md ms rW mrd mrs mrp mp mb na mk mi sd m1 m2 m3 ml mf mw mn g L li ye br z (by first | assumption | omega) (by first | assumption | omega)) rfl (Nat.le_of_ble_eq_true rfl) (Nat.le_of_ble_eq_true rfl) (Nat.le_of_ble_eq_true rfl) dX5_songLasts_7 [0, 2] (by decide) rfl (ws' := fun u => [(y, .inr (5, [.int (nI 0), .ref mt, .int (nI ts), .int (nI pl), .int (nI W), .int (nI ll), .ref md, .ref ms, .int (nI rW), .ref mrd, .ref mrs, .ref mrp, .ref mp, .ref mb, .int (nI na), .ref mk, .ref mi, .long sd, .ref m1, .ref m2, .ref m3, .ref ml, .ref mf, .ref mw, .ref mn])), (ms, .inl (cI, 4, .inl sf)), (mp, .inl (cI, 52, .inl g)), (m1, .inl (cI, 52, .inl of)), (ml, .inl (cI, 8, .inl lf))]) (st' := fun u => [.int (bz (!hasB z L.length))]) (fun _ => rfl) (fun _ => rfl) (fun _ => rfl) (fun _ _ => ?_)
  refine x_if_eqB ok 15 dX5_songLasts_10 (by decide) (fun c_10 => ?_) (fun c_10 => ?_)
  · skip
    have hh : hasB z L.length = true := by simpa using c_10
    obtain ⟨j, hj, e_z⟩ := hasB_t (by omega) hh
    subst e_z
    have ej := cl_n (show j < 2 ^ 31 by omega)
    refine x_aload_n ok 0 dX5_songLasts_15 rfl rfl ?_
    refine gX5_28 ok dX5_songLasts_16 0 rfl rfl ?_
    refine x_aload_n ok 0 dX5_songLasts_19 rfl rfl ?_
    refine gX5_41 ok dX5_songLasts_20 0 rfl rfl ?_
    refine qX5_159 ok (As := [.ref mp, .ref m1]) (st := []) (d_copy l D cI cZ cS mp g L li ye br m1 of (by first | assumption | omega) (by first | assumption | omega)) rfl (Nat.le_of_ble_eq_true rfl) (Nat.le_of_ble_eq_true rfl) (Nat.le_of_ble_eq_true rfl) dX5_songLasts_23 [2, 3] (by decide) rfl (ws' := fun u => [(y, .inr (5, [.int (nI 0), .ref mt, .int (nI ts), .int (nI pl), .int (nI W), .int (nI ll), .ref md, .ref ms, .int (nI rW), .ref mrd, .ref mrs, .ref mrp, .ref mp, .ref mb, .int (nI na), .ref mk, .ref mi, .long sd, .ref m1, .ref m2, .ref m3, .ref ml, .ref mf, .ref mw, .ref mn])), (ms, .inl (cI, 4, .inl sf)), (mp, .inl (cI, 52, .inl g)), (m1, .inl (cI, 52, .inl u)), (ml, .inl (cI, 8, .inl lf))]) (st' := fun u => []) (fun _ => rfl) (fun _ => rfl) (fun _ => rfl) (fun u23 hu23 => ?_)
    obtain ⟨g223, rfl⟩ : ∃ z, z = u23 := ⟨_, rfl⟩
    have hg223 := hu23
    have hg223 : PGR g223 L li ye br := hg223
    show XX K [(y, .inr (5, [.int (nI 0), .ref mt, .int (nI ts), .int (nI pl), .int (nI W), .int (nI ll), .ref md, .ref ms, .int (nI rW), .ref mrd, .ref mrs, .ref mrp, .ref mp, .ref mb, .int (nI na), .ref mk, .ref mi, .long sd, .ref m1, .ref m2, .ref m3, .ref ml, .ref mf, .ref mw, .ref mn])), (ms, .inl (cI, 4, .inl sf)), (mp, .inl (cI, 52, .inl g)), (m1, .inl (cI, 52, .inl g223)), (ml, .inl (cI, 8, .inl lf))] [(0, .ref y), (1, .int (nI j))] 26 []
    refine x_iload_n ok 1 dX5_songLasts_26 rfl rfl ?_
    refine x_istore_n ok (lv' := [(2, .int (nI j)), (0, .ref y), (1, .int (nI j))]) dX5_songLasts_27 rfl (by decide) rfl ?_
    refine x_iconst ok (nI 1) dX5_songLasts_28 (by decide) ?_
    refine x_istore_n ok (lv' := [(3, .int (nI 1)), (2, .int (nI j)), (0, .ref y), (1, .int (nI j))]) dX5_songLasts_29 rfl (by decide) rfl ?_
    have L_30 : ∀ (n_30 : Nat) (k : Nat) (p : Nat) (M : List Sg) (g9 : Nat → Int32) (lf9 : Nat → Int32) (y9 : Int32), 99 - k < n_30 → (1 ≤ k) → (k ≤ 99) → (p < M.length) → (okL W (A + k) M) → (PGR g9 M li y9 br) → (lastF st li (99 - k) k M p = lastF st li 98 1 L j) → XX K [(y, .inr (5, [.int (nI 0), .ref mt, .int (nI ts), .int (nI pl), .int (nI W), .int (nI ll), .ref md, .ref ms, .int (nI rW), .ref mrd, .ref mrs, .ref mrp, .ref mp, .ref mb, .int (nI na), .ref mk, .ref mi, .long sd, .ref m1, .ref m2, .ref m3, .ref ml, .ref mf, .ref mw, .ref mn])), (ms, .inl (cI, 4, .inl sf)), (mp, .inl (cI, 52, .inl g)), (m1, .inl (cI, 52, .inl g9)), (ml, .inl (cI, 8, .inl lf9))] [(3, .int (nI k)), (2, .int (nI p)), (0, .ref y), (1, .int (nI j))] 30 [] := by
      intro n_30
      induction n_30 with
      | zero => intro k p M g9 lf9 y9 hm; exact absurd hm (Nat.not_lt_zero _)
      | succ n_30 ih_30 =>
        intro k p M g9 lf9 y9 hm_30 hk1 hk hp hvm hg9 ha
        refine x_iload_n ok 0 dX5_songLasts_30 rfl rfl ?_
        refine x_bipush ok (nI 99) dX5_songLasts_31 (by decide) ?_
        refine x_icmp_geN ok 60 dX5_songLasts_33 (by decide) (by omega) (by omega) (fun c_33 => ?_) (fun c_33 => ?_)
        · skip
          have e_k : 99 = k := by omega
          subst e_k
          refine x_bipush ok (nI 99) dX5_songLasts_60 (by decide) ?_
          exact ret (g9, lf9) _ _ _ (nI 99) dX5_songLasts_62 (rfl) (by rw [songLastsI, if_pos hh, ej, ← ha, Nat.sub_self, lastF]) (trivial)
        · skip
          have hm8 := hvm.1
          refine x_aload_n ok 2 dX5_songLasts_36 rfl rfl ?_
          refine x_aload_n ok 2 dX5_songLasts_37 rfl rfl ?_
          refine gX5_41 ok dX5_songLasts_38 0 rfl rfl ?_
          refine x_iload_n ok 1 dX5_songLasts_41 rfl rfl ?_
          refine qX5_136 ok (As := [.ref m1, .int (nI p)]) (st := []) 0 rfl (d_goYear l D cI cZ cS y (nI 0) mt ts pl W ll md ms rW mrd mrs mrp mp mb na mk mi sd m1 m2 m3 ml mf mw mn sf st m1 g9 M li y9 br lf9 (A + k) (nI p) (by first | assumption | omega) (by first | assumption | omega) (hg9) (hvm) (by first | assumption | omega) (by first | assumption | omega) (by first | assumption | omega)) rfl (Nat.le_of_ble_eq_true rfl) (Nat.le_of_ble_eq_true rfl) (Nat.le_of_ble_eq_true rfl) dX5_songLasts_42 [0, 1, 3, 4] (by decide) rfl (ws' := fun u => [(y, .inr (5, [.int (nI 0), .ref mt, .int (nI ts), .int (nI pl), .int (nI W), .int (nI ll), .ref md, .ref ms, .int (nI rW), .ref mrd, .ref mrs, .ref mrp, .ref mp, .ref mb, .int (nI na), .ref mk, .ref mi, .long sd, .ref m1, .ref m2, .ref m3, .ref ml, .ref mf, .ref mw, .ref mn])), (ms, .inl (cI, 4, .inl sf)), (mp, .inl (cI, 52, .inl g)), (m1, .inl (cI, 52, .inl u.1)), (ml, .inl (cI, 8, .inl u.2))]) (st' := fun u => [.int (wrN (lossN st li M) M (nI p) M.length)]) (fun _ => rfl) (fun _ => rfl) (fun _ => rfl) (fun u42 hu42 => ?_)
          obtain ⟨g242, lf242⟩ := u42
          have hg242 := hu42
          have hg242 : PGR g242 (yearL st li M) li (y9 + nI 1) br := hg242
          show XX K [(y, .inr (5, [.int (nI 0), .ref mt, .int (nI ts), .int (nI pl), .int (nI W), .int (nI ll), .ref md, .ref ms, .int (nI rW), .ref mrd, .ref mrs, .ref mrp, .ref mp, .ref mb, .int (nI na), .ref mk, .ref mi, .long sd, .ref m1, .ref m2, .ref m3, .ref ml, .ref mf, .ref mw, .ref mn])), (ms, .inl (cI, 4, .inl sf)), (mp, .inl (cI, 52, .inl g)), (m1, .inl (cI, 52, .inl g242)), (ml, .inl (cI, 8, .inl lf242))] [(3, .int (nI k)), (2, .int (nI p)), (0, .ref y), (1, .int (nI j))] 45 [.int (wrN (lossN st li M) M (nI p) M.length)]
          refine x_istore_n ok (lv' := [(2, .int (wrN (lossN st li M) M (nI p) M.length)), (3, .int (nI k)), (0, .ref y), (1, .int (nI j))]) dX5_songLasts_45 rfl (by decide) rfl ?_
          refine x_iload_n ok 0 dX5_songLasts_46 rfl rfl ?_
          refine x_bipush ok ((-9)) dX5_songLasts_47 (by decide) ?_
          refine x_icmp_ne ok 54 dX5_songLasts_49 (by decide) (fun c_49 => ?_) (fun c_49 => ?_)
          · skip
            have hwr := wrN_at (lo := (lossN st li M)) (L := M) (p := p) (by omega) M.length (by omega)
            have yl : (lossN st li M) p < sg M p 2 := Classical.byContradiction fun z => c_49 (by rw [hwr, if_neg (fun q => z q.2)])
            rw [show wrN (lossN st li M) M (nI p) M.length = nI ((low (lossN st li M) 0 M p).length) from by rw [hwr, if_pos ⟨hp, yl⟩]]
            have hpl := year_pl hp yl
            refine x_iinc ok (v := nI (k + 1)) (lv' := [(3, .int (nI (k + 1))), (2, .int (nI ((low (lossN st li M) 0 M p).length))), (0, .ref y), (1, .int (nI j))]) dX5_songLasts_54 1 rfl (nN (nI_inc _ 1) (by omega)) (by decide) rfl ?_
            refine x_goto ok 30 dX5_songLasts_57 (by decide) ?_
            exact ih_30 (k + 1) ((low (lossN st li M) 0 M p).length) (yearL st li M) g242 lf242 (y9 + nI 1) (by omega) (by first | assumption | omega) (by first | assumption | omega) (hpl) (year_ok hvm) (hg242) (by rw [← ha, show 99 - k = (99 - (k + 1)) + 1 by omega]; exact (last_y hp yl).symm)
          · skip
            have hwr := wrN_at (lo := (lossN st li M)) (L := M) (p := p) (by omega) M.length (by omega)
            have nl : ¬ (lossN st li M) p < sg M p 2 := fun z => by rw [hwr, if_pos ⟨hp, z⟩] at c_49; exact nI_ne9 (by have := low_len (lo := (lossN st li M)) (ag := 0) (L := M) p; omega) c_49
            refine x_iload_n ok 1 dX5_songLasts_52 rfl rfl ?_
            exact ret (g242, lf242) _ _ _ (nI k) dX5_songLasts_53 (rfl) (by rw [songLastsI, if_pos hh, ej, ← ha, show 99 - k = (99 - (k + 1)) + 1 by omega, lastF, if_neg nl]) (trivial)
    exact L_30 _ 1 j L g223 lf ye (Nat.lt_succ_self _) (by first | assumption | omega) (by first | assumption | omega) (hj) (okL_mono hv (by omega)) (hg223) (rfl)
  · skip
    have hh : ¬ hasB z L.length = true := by simpa using c_10
    refine x_iconst ok ((-1)) dX5_songLasts_13 (by decide) ?_
    exact ret (of, lf) _ _ _ ((-1)) dX5_songLasts_14 (rfl) (by rw [songLastsI, if_neg hh]) (trivial)

set_option maxHeartbeats 4000000 in
set_option maxRecDepth 100000 in
theorem e_lawLasts (l : Launch) (D : va_G) (cI cZ cS : ClassId) (y : Nat) (zt : Int32) (mt : Nat) (ts : Nat) (pl : Nat) (W : Nat) (ll : Nat) (md : Nat) (ms : Nat) (rW : Nat) (mrd : Nat) (mrs : Nat) (mrp : Nat) (mp : Nat) (mb : Nat) (na : Nat) (mk : Nat) (mi : Nat) (sd : Int64) (m1 : Nat) (m2 : Nat) (m3 : Nat) (ml : Nat) (mf : Nat) (mw : Nat) (mn : Nat) (sf : Nat → Int32) (st : Nat → Nat) (g : Nat → Int32) (L : List Sg) (li : Nat) (ye : Int32) (br : Int32) (A : Nat) (of : Nat → Int32) (lf : Nat → Int32) (z : Int32) (hst : ∀ w, w < W → sf w = nI (st w)) (hst2 : ∀ w, w < W → st w ≤ 2) (hg : PGR g L li ye br) (hv : okL W A L) (hW4 : W ≤ 4) (hl : li < 256) (hA : A < 900000) : CO l D (TY cI cZ cS) yX5_lawLasts cX5_lawLasts 3 (some .int) 3 67 0 0 [.ref y, .int z] [(y, .inr (5, [.int zt, .ref mt, .int (nI ts), .int (nI pl), .int (nI W), .int (nI ll), .ref md, .ref ms, .int (nI rW), .ref mrd, .ref mrs, .ref mrp, .ref mp, .ref mb, .int (nI na), .ref mk, .ref mi, .long sd, .ref m1, .ref m2, .ref m3, .ref ml, .ref mf, .ref mw, .ref mn])), (ms, .inl (cI, 4, .inl sf)), (mp, .inl (cI, 52, .inl g)), (m1, .inl (cI, 52, .inl of)), (ml, .inl (cI, 8, .inl lf))] (σ := (Nat → Int32) × (Nat → Int32)) (fun u => some (.int (lawLastsI st li L z))) (fun u => [(y, .inr (5, [.int (nI 0), .ref mt, .int (nI ts), .int (nI pl), .int (nI W), .int (nI ll), .ref md, .ref ms, .int (nI rW), .ref mrd, .ref mrs, .ref mrp, .ref mp, .ref mb, .int (nI na), .ref mk, .ref mi, .long sd, .ref m1, .ref m2, .ref m3, .ref ml, .ref mf, .ref mw, .ref mn])), (ms, .inl (cI, 4, .inl sf)), (mp, .inl (cI, 52, .inl g)), (m1, .inl (cI, 52, .inl u.1)), (ml, .inl (cI, 8, .inl u.2))]) (fun u => True) := by
  refine CO_mki (by decide +kernel) (Nat.le_of_ble_eq_true rfl) (fun K ok ret => ?_)
  show XX K [(y, .inr (5, [.int zt, .ref mt, .int (nI ts), .int (nI pl), .int (nI W), .int (nI ll), .ref md, .ref ms, .int (nI rW), .ref mrd, .ref mrs, .ref mrp, .ref mp, .ref mb, .int (nI na), .ref mk, .ref mi, .long sd, .ref m1, .ref m2, .ref m3, .ref ml, .ref mf, .ref mw, .ref mn])), (ms, .inl (cI, 4, .inl sf)), (mp, .inl (cI, 52, .inl g)), (m1, .inl (cI, 52, .inl of)), (ml, .inl (cI, 8, .inl lf))] [(0, .ref y), (1, .int z)] 0 []
  have h8 := hv.1
  refine x_aload_n ok 0 dX5_lawLasts_0 rfl rfl ?_
  refine x_iconst ok (nI 0) dX5_lawLasts_1 (by decide) ?_
  refine pX5_62 ok dX5_lawLasts_2 0 rfl rfl rfl (Nat.le_of_ble_eq_true rfl) (ws' := [(y, .inr (5, [.int (nI 0), .ref mt, .int (nI ts), .int (nI pl), .int (nI W), .int (nI ll), .ref md, .ref ms, .int (nI rW), .ref mrd, .ref mrs, .ref mrp, .ref mp, .ref mb, .int (nI na), .ref mk, .ref mi, .long sd, .ref m1, .ref m2, .ref m3, .ref ml, .ref mf, .ref mw, .ref mn])), (ms, .inl (cI, 4, .inl sf)), (mp, .inl (cI, 52, .inl g)), (m1, .inl (cI, 52, .inl of)), (ml, .inl (cI, 8, .inl lf))]) rfl ?_
  refine x_iload_n ok 1 dX5_lawLasts_5 rfl rfl ?_
  refine qX5_163 ok (As := [.int z]) (st := []) (d_noLaw l D cI cZ cS z ) rfl (Nat.le_of_ble_eq_true rfl) (Nat.le_of_ble_eq_true rfl) (Nat.le_of_ble_eq_true rfl) dX5_lawLasts_6 [] (by decide) rfl (ws' := fun u => [(y, .inr (5, [.int (nI 0), .ref mt, .int (nI ts), .int (nI pl), .int (nI W), .int (nI ll), .ref md, .ref ms, .int (nI rW), .ref mrd, .ref mrs, .ref mrp, .ref mp, .ref mb, .int (nI na), .ref mk, .ref mi, .long sd, .ref m1, .ref m2, .ref m3, .ref ml, .ref mf, .ref mw, .ref mn])), (ms, .inl (cI, 4, .inl sf)), (mp, .inl (cI, 52, .inl g)), (m1, .inl (cI, 52, .inl of)), (ml, .inl (cI, 8, .inl lf))]) (st' := fun u => [.int (bz (!inB z (nI 0) (nI 5)))]) (fun _ => rfl) (fun _ => rfl) (fun _ => rfl) (fun _ _ => ?_)
  refine x_if_eqB ok 15 dX5_lawLasts_9 (by decide) (fun c_9 => ?_) (fun c_9 => ?_)
  · skip
    have hh : inB z (nI 0) (nI 5) = true := by simpa using c_9
    obtain ⟨j, hj0, hj, e_z⟩ := inB_t (by omega) (by omega) hh
    subst e_z
    have ej := cl_n (show j < 2 ^ 31 by omega)
    refine x_aload_n ok 0 dX5_lawLasts_15 rfl rfl ?_
    refine gX5_28 ok dX5_lawLasts_16 0 rfl rfl ?_
    refine x_aload_n ok 0 dX5_lawLasts_19 rfl rfl ?_
    refine gX5_41 ok dX5_lawLasts_20 0 rfl rfl ?_
    refine qX5_159 ok (As := [.ref mp, .ref m1]) (st := []) (d_copy l D cI cZ cS mp g L li ye br m1 of (by first | assumption | omega) (by first | assumption | omega)) rfl (Nat.le_of_ble_eq_true rfl) (Nat.le_of_ble_eq_true rfl) (Nat.le_of_ble_eq_true rfl) dX5_lawLasts_23 [2, 3] (by decide) rfl (ws' := fun u => [(y, .inr (5, [.int (nI 0), .ref mt, .int (nI ts), .int (nI pl), .int (nI W), .int (nI ll), .ref md, .ref ms, .int (nI rW), .ref mrd, .ref mrs, .ref mrp, .ref mp, .ref mb, .int (nI na), .ref mk, .ref mi, .long sd, .ref m1, .ref m2, .ref m3, .ref ml, .ref mf, .ref mw, .ref mn])), (ms, .inl (cI, 4, .inl sf)), (mp, .inl (cI, 52, .inl g)), (m1, .inl (cI, 52, .inl u)), (ml, .inl (cI, 8, .inl lf))]) (st' := fun u => []) (fun _ => rfl) (fun _ => rfl) (fun _ => rfl) (fun u23 hu23 => ?_)
    obtain ⟨g223, rfl⟩ : ∃ z, z = u23 := ⟨_, rfl⟩
    have hg223 := hu23
    have hg223 : PGR g223 L li ye br := hg223
    show XX K [(y, .inr (5, [.int (nI 0), .ref mt, .int (nI ts), .int (nI pl), .int (nI W), .int (nI ll), .ref md, .ref ms, .int (nI rW), .ref mrd, .ref mrs, .ref mrp, .ref mp, .ref mb, .int (nI na), .ref mk, .ref mi, .long sd, .ref m1, .ref m2, .ref m3, .ref ml, .ref mf, .ref mw, .ref mn])), (ms, .inl (cI, 4, .inl sf)), (mp, .inl (cI, 52, .inl g)), (m1, .inl (cI, 52, .inl g223)), (ml, .inl (cI, 8, .inl lf))] [(0, .ref y), (1, .int (nI j))] 26 []
    refine x_iconst ok (nI 0) dX5_lawLasts_26 (by decide) ?_
    refine x_istore_n ok (lv' := [(2, .int (nI 0)), (0, .ref y), (1, .int (nI j))]) dX5_lawLasts_27 rfl (by decide) rfl ?_
    have L_28 : ∀ (n_28 : Nat) (k : Nat) (g9 : Nat → Int32) (lf9 : Nat → Int32) (y9 : Int32), 99 - k < n_28 → (k ≤ 99) → (PGR g9 (yearsL st li k L) li y9 br) → (lawF st li j L (99 - k) k = lawF st li j L 99 0) → XX K [(y, .inr (5, [.int (nI 0), .ref mt, .int (nI ts), .int (nI pl), .int (nI W), .int (nI ll), .ref md, .ref ms, .int (nI rW), .ref mrd, .ref mrs, .ref mrp, .ref mp, .ref mb, .int (nI na), .ref mk, .ref mi, .long sd, .ref m1, .ref m2, .ref m3, .ref ml, .ref mf, .ref mw, .ref mn])), (ms, .inl (cI, 4, .inl sf)), (mp, .inl (cI, 52, .inl g)), (m1, .inl (cI, 52, .inl g9)), (ml, .inl (cI, 8, .inl lf9))] [(2, .int (nI k)), (0, .ref y), (1, .int (nI j))] 28 [] := by
      intro n_28
      induction n_28 with
      | zero => intro k g9 lf9 y9 hm; exact absurd hm (Nat.not_lt_zero _)
      | succ n_28 ih_28 =>
        intro k g9 lf9 y9 hm_28 hk hg9 ha
        refine x_iload_n ok 0 dX5_lawLasts_28 rfl rfl ?_
        refine x_bipush ok (nI 99) dX5_lawLasts_29 (by decide) ?_
        refine x_icmp_geN ok 65 dX5_lawLasts_31 (by decide) (by omega) (by omega) (fun c_31 => ?_) (fun c_31 => ?_)
        · skip
          have ek : k = 99 := by omega
          refine x_iload_n ok 0 dX5_lawLasts_65 rfl rfl ?_
          exact ret (g9, lf9) _ _ _ (nI k) dX5_lawLasts_66 (rfl) (by rw [lawLastsI, if_pos hh, ej, ← ha, show 99 - k = 0 by omega, lawF]) (trivial)
        · skip
          have hvk := years_ok (st := st) (li := li) hv k
          have hl6 := lawsN_lt hvk
          refine x_aload_n ok 1 dX5_lawLasts_34 rfl rfl ?_
          refine gX5_41 ok dX5_lawLasts_35 0 rfl rfl ?_
          refine qX5_106 ok (As := [.ref m1]) (st := []) (d_lawsOf l D cI cZ cS m1 g9 (yearsL st li k L) li y9 br W (A + k) (hg9) (hvk)) rfl (Nat.le_of_ble_eq_true rfl) (Nat.le_of_ble_eq_true rfl) (Nat.le_of_ble_eq_true rfl) dX5_lawLasts_38 [3] (by decide) rfl (ws' := fun u => [(y, .inr (5, [.int (nI 0), .ref mt, .int (nI ts), .int (nI pl), .int (nI W), .int (nI ll), .ref md, .ref ms, .int (nI rW), .ref mrd, .ref mrs, .ref mrp, .ref mp, .ref mb, .int (nI na), .ref mk, .ref mi, .long sd, .ref m1, .ref m2, .ref m3, .ref ml, .ref mf, .ref mw, .ref mn])), (ms, .inl (cI, 4, .inl sf)), (mp, .inl (cI, 52, .inl g)), (m1, .inl (cI, 52, .inl g9)), (ml, .inl (cI, 8, .inl lf9))]) (st' := fun u => [.int (nI (lawsN (yearsL st li k L)))]) (fun _ => rfl) (fun _ => rfl) (fun _ => rfl) (fun _ _ => ?_)
          refine x_iload_n ok 2 dX5_lawLasts_41 rfl rfl ?_
          refine qX5_125 ok (As := [.int (nI (lawsN (yearsL st li k L))), .int (nI j)]) (st := []) (d_has l D cI cZ cS (lawsN (yearsL st li k L)) j (by first | assumption | omega) (by first | assumption | omega)) rfl (Nat.le_of_ble_eq_true rfl) (Nat.le_of_ble_eq_true rfl) (Nat.le_of_ble_eq_true rfl) dX5_lawLasts_42 [] (by decide) rfl (ws' := fun u => [(y, .inr (5, [.int (nI 0), .ref mt, .int (nI ts), .int (nI pl), .int (nI W), .int (nI ll), .ref md, .ref ms, .int (nI rW), .ref mrd, .ref mrs, .ref mrp, .ref mp, .ref mb, .int (nI na), .ref mk, .ref mi, .long sd, .ref m1, .ref m2, .ref m3, .ref ml, .ref mf, .ref mw, .ref mn])), (ms, .inl (cI, 4, .inl sf)), (mp, .inl (cI, 52, .inl g)), (m1, .inl (cI, 52, .inl g9)), (ml, .inl (cI, 8, .inl lf9))]) (st' := fun u => [.int (bz ((lawsN (yearsL st li k L)).testBit j))]) (fun _ => rfl) (fun _ => rfl) (fun _ => rfl) (fun _ _ => ?_)
          refine x_if_eqB ok 65 dX5_lawLasts_45 (by decide) (fun c_45 => ?_) (fun c_45 => ?_)
          · skip
            refine x_iload_n ok 0 dX5_lawLasts_65 rfl rfl ?_
            exact ret (g9, lf9) _ _ _ (nI k) dX5_lawLasts_66 (rfl) (by rw [lawLastsI, if_pos hh, ej, ← ha, show 99 - k = (99 - (k + 1)) + 1 by omega, lawF, if_neg c_45]) (trivial)
          · skip
            refine x_aload_n ok 1 dX5_lawLasts_48 rfl rfl ?_
            refine x_aload_n ok 1 dX5_lawLasts_49 rfl rfl ?_
            refine gX5_41 ok dX5_lawLasts_50 0 rfl rfl ?_
            refine x_bipush ok ((-9)) dX5_lawLasts_53 (by decide) ?_
            refine qX5_136 ok (As := [.ref m1, .int (-9)]) (st := []) 0 rfl (d_goYear l D cI cZ cS y (nI 0) mt ts pl W ll md ms rW mrd mrs mrp mp mb na mk mi sd m1 m2 m3 ml mf mw mn sf st m1 g9 (yearsL st li k L) li y9 br lf9 (A + k) (-9) (by first | assumption | omega) (by first | assumption | omega) (hg9) (hvk) (by first | assumption | omega) (by first | assumption | omega) (by first | assumption | omega)) rfl (Nat.le_of_ble_eq_true rfl) (Nat.le_of_ble_eq_true rfl) (Nat.le_of_ble_eq_true rfl) dX5_lawLasts_55 [0, 1, 3, 4] (by decide) rfl (ws' := fun u => [(y, .inr (5, [.int (nI 0), .ref mt, .int (nI ts), .int (nI pl), .int (nI W), .int (nI ll), .ref md, .ref ms, .int (nI rW), .ref mrd, .ref mrs, .ref mrp, .ref mp, .ref mb, .int (nI na), .ref mk, .ref mi, .long sd, .ref m1, .ref m2, .ref m3, .ref ml, .ref mf, .ref mw, .ref mn])), (ms, .inl (cI, 4, .inl sf)), (mp, .inl (cI, 52, .inl g)), (m1, .inl (cI, 52, .inl u.1)), (ml, .inl (cI, 8, .inl u.2))]) (st' := fun u => [.int (wrN (lossN st li (yearsL st li k L)) (yearsL st li k L) (-9) (yearsL st li k L).length)]) (fun _ => rfl) (fun _ => rfl) (fun _ => rfl) (fun u55 hu55 => ?_)
            obtain ⟨g255, lf255⟩ := u55
            have hg255 := hu55
            have hg255 : PGR g255 (yearL st li (yearsL st li k L)) li (y9 + nI 1) br := hg255
            show XX K [(y, .inr (5, [.int (nI 0), .ref mt, .int (nI ts), .int (nI pl), .int (nI W), .int (nI ll), .ref md, .ref ms, .int (nI rW), .ref mrd, .ref mrs, .ref mrp, .ref mp, .ref mb, .int (nI na), .ref mk, .ref mi, .long sd, .ref m1, .ref m2, .ref m3, .ref ml, .ref mf, .ref mw, .ref mn])), (ms, .inl (cI, 4, .inl sf)), (mp, .inl (cI, 52, .inl g)), (m1, .inl (cI, 52, .inl g255)), (ml, .inl (cI, 8, .inl lf255))] [(2, .int (nI k)), (0, .ref y), (1, .int (nI j))] 58 [.int (wrN (lossN st li (yearsL st li k L)) (yearsL st li k L) (-9) (yearsL st li k L).length)]
            refine x_pop ok dX5_lawLasts_58 rfl ?_
            refine x_iinc ok (v := nI (k + 1)) (lv' := [(2, .int (nI (k + 1))), (0, .ref y), (1, .int (nI j))]) dX5_lawLasts_59 0 rfl (nN (nI_inc _ 1) (by omega)) (by decide) rfl ?_
            refine x_goto ok 28 dX5_lawLasts_62 (by decide) ?_
            exact ih_28 (k + 1) g255 lf255 (y9 + nI 1) (by omega) (by first | assumption | omega) (hg255) (by rw [← ha, show 99 - k = (99 - (k + 1)) + 1 by omega, lawF, if_pos c_45])
    exact L_28 _ 0 g223 lf ye (Nat.lt_succ_self _) (by first | assumption | omega) (hg223) (rfl)
  · skip
    have hh : ¬ inB z (nI 0) (nI 5) = true := by simpa using c_9
    refine x_bipush ok ((-2)) dX5_lawLasts_12 (by decide) ?_
    exact ret (of, lf) _ _ _ ((-2)) dX5_lawLasts_14 (rfl) (by rw [lawLastsI, if_neg hh]) (trivial)

set_option maxHeartbeats 4000000 in
set_option maxRecDepth 100000 in
theorem e_lost (l : Launch) (D : va_G) (cI cZ cS : ClassId) (y : Nat) (zt : Int32) (mt : Nat) (ts : Nat) (pl : Nat) (W : Nat) (ll : Nat) (md : Nat) (ms : Nat) (rW : Nat) (mrd : Nat) (mrs : Nat) (mrp : Nat) (mp : Nat) (mb : Nat) (na : Nat) (mk : Nat) (mi : Nat) (sd : Int64) (m1 : Nat) (m2 : Nat) (m3 : Nat) (ml : Nat) (mf : Nat) (mw : Nat) (mn : Nat) (sf : Nat → Int32) (st : Nat → Nat) (g : Nat → Int32) (L : List Sg) (li : Nat) (ye : Int32) (br : Int32) (A : Nat) (of : Nat → Int32) (lf : Nat → Int32) (z : Int32) (hst : ∀ w, w < W → sf w = nI (st w)) (hst2 : ∀ w, w < W → st w ≤ 2) (hg : PGR g L li ye br) (hv : okL W A L) (hW4 : W ≤ 4) (hl : li < 256) (hA : A < 900000) : CO l D (TY cI cZ cS) yX5_lost cX5_lost 2 (some .int) 4 90 0 0 [.ref y, .int z] [(y, .inr (5, [.int zt, .ref mt, .int (nI ts), .int (nI pl), .int (nI W), .int (nI ll), .ref md, .ref ms, .int (nI rW), .ref mrd, .ref mrs, .ref mrp, .ref mp, .ref mb, .int (nI na), .ref mk, .ref mi, .long sd, .ref m1, .ref m2, .ref m3, .ref ml, .ref mf, .ref mw, .ref mn])), (ms, .inl (cI, 4, .inl sf)), (mp, .inl (cI, 52, .inl g)), (m1, .inl (cI, 52, .inl of)), (ml, .inl (cI, 8, .inl lf))] (σ := (Nat → Int32) × (Nat → Int32)) (fun u => some (.int (lostI st li ll L z))) (fun u => [(y, .inr (5, [.int (nI 0), .ref mt, .int (nI ts), .int (nI pl), .int (nI W), .int (nI ll), .ref md, .ref ms, .int (nI rW), .ref mrd, .ref mrs, .ref mrp, .ref mp, .ref mb, .int (nI na), .ref mk, .ref mi, .long sd, .ref m1, .ref m2, .ref m3, .ref ml, .ref mf, .ref mw, .ref mn])), (ms, .inl (cI, 4, .inl sf)), (mp, .inl (cI, 52, .inl g)), (m1, .inl (cI, 52, .inl u.1)), (ml, .inl (cI, 8, .inl u.2))]) (fun u => True) := by
  refine CO_mki (by decide +kernel) (Nat.le_of_ble_eq_true rfl) (fun K ok ret => ?_)
  show XX K [(y, .inr (5, [.int zt, .ref mt, .int (nI ts), .int (nI pl), .int (nI W), .int (nI ll), .ref md, .ref ms, .int (nI rW), .ref mrd, .ref mrs, .ref mrp, .ref mp, .ref mb, .int (nI na), .ref mk, .ref mi, .long sd, .ref m1, .ref m2, .ref m3, .ref ml, .ref mf, .ref mw, .ref mn])), (ms, .inl (cI, 4, .inl sf)), (mp, .inl (cI, 52, .inl g)), (m1, .inl (cI, 52, .inl of)), (ml, .inl (cI, 8, .inl lf))] [(0, .ref y), (1, .int z)] 0 []
  have h8 := hv.1
  refine x_aload_n ok 0 dX5_lost_0 rfl rfl ?_
  refine x_iconst ok (nI 0) dX5_lost_1 (by decide) ?_
  refine pX5_62 ok dX5_lost_2 0 rfl rfl rfl (Nat.le_of_ble_eq_true rfl) (ws' := [(y, .inr (5, [.int (nI 0), .ref mt, .int (nI ts), .int (nI pl), .int (nI W), .int (nI ll), .ref md, .ref ms, .int (nI rW), .ref mrd, .ref mrs, .ref mrp, .ref mp, .ref mb, .int (nI na), .ref mk, .ref mi, .long sd, .ref m1, .ref m2, .ref m3, .ref ml, .ref mf, .ref mw, .ref mn])), (ms, .inl (cI, 4, .inl sf)), (mp, .inl (cI, 52, .inl g)), (m1, .inl (cI, 52, .inl of)), (ml, .inl (cI, 8, .inl lf))]) rfl ?_
  refine x_iload_n ok 1 dX5_lost_5 rfl rfl ?_
  refine x_i2l ok ((z).toInt64) dX5_lost_6 rfl ?_
  refine x_lconst ok ((nI 0).toInt64) dX5_lost_7 (by decide) ?_
  refine x_ldc2v ok KX5_166 (v' := (nI 30).toInt64) (by decide) dX5_lost_8 ?_
  refine qX5_69 ok (As := [.long ((z).toInt64), .long ((nI 0).toInt64), .long ((nI 30).toInt64)]) (st := []) (d_in l D cI cZ cS z (nI 0) (nI 30) ) rfl (Nat.le_of_ble_eq_true rfl) (Nat.le_of_ble_eq_true rfl) (Nat.le_of_ble_eq_true rfl) dX5_lost_11 [] (by decide) rfl (ws' := fun u => [(y, .inr (5, [.int (nI 0), .ref mt, .int (nI ts), .int (nI pl), .int (nI W), .int (nI ll), .ref md, .ref ms, .int (nI rW), .ref mrd, .ref mrs, .ref mrp, .ref mp, .ref mb, .int (nI na), .ref mk, .ref mi, .long sd, .ref m1, .ref m2, .ref m3, .ref ml, .ref mf, .ref mw, .ref mn])), (ms, .inl (cI, 4, .inl sf)), (mp, .inl (cI, 52, .inl g)), (m1, .inl (cI, 52, .inl of)), (ml, .inl (cI, 8, .inl lf))]) (st' := fun u => [.int (bz (inB z (nI 0) (nI 30)))]) (fun _ => rfl) (fun _ => rfl) (fun _ => rfl) (fun _ _ => ?_)
  refine x_if_neB ok 20 dX5_lost_14 (by decide) (fun c_14 => ?_) (fun c_14 => ?_)
  · skip
    obtain ⟨j, hj0, hj, e_z⟩ := inB_t (by omega) (by omega) c_14
    subst e_z
    have ej := cl_n (show j < 2 ^ 31 by omega)
    refine x_aload_n ok 0 dX5_lost_20 rfl rfl ?_
    refine gX5_28 ok dX5_lost_21 0 rfl rfl ?_
    refine x_aload_n ok 0 dX5_lost_24 rfl rfl ?_
    refine gX5_41 ok dX5_lost_25 0 rfl rfl ?_
    refine qX5_159 ok (As := [.ref mp, .ref m1]) (st := []) (d_copy l D cI cZ cS mp g L li ye br m1 of (by first | assumption | omega) (by first | assumption | omega)) rfl (Nat.le_of_ble_eq_true rfl) (Nat.le_of_ble_eq_true rfl) (Nat.le_of_ble_eq_true rfl) dX5_lost_28 [2, 3] (by decide) rfl (ws' := fun u => [(y, .inr (5, [.int (nI 0), .ref mt, .int (nI ts), .int (nI pl), .int (nI W), .int (nI ll), .ref md, .ref ms, .int (nI rW), .ref mrd, .ref mrs, .ref mrp, .ref mp, .ref mb, .int (nI na), .ref mk, .ref mi, .long sd, .ref m1, .ref m2, .ref m3, .ref ml, .ref mf, .ref mw, .ref mn])), (ms, .inl (cI, 4, .inl sf)), (mp, .inl (cI, 52, .inl g)), (m1, .inl (cI, 52, .inl u)), (ml, .inl (cI, 8, .inl lf))]) (st' := fun u => []) (fun _ => rfl) (fun _ => rfl) (fun _ => rfl) (fun u28 hu28 => ?_)
    obtain ⟨g228, rfl⟩ : ∃ z, z = u28 := ⟨_, rfl⟩
    have hg228 := hu28
    have hg228 : PGR g228 L li ye br := hg228
    show XX K [(y, .inr (5, [.int (nI 0), .ref mt, .int (nI ts), .int (nI pl), .int (nI W), .int (nI ll), .ref md, .ref ms, .int (nI rW), .ref mrd, .ref mrs, .ref mrp, .ref mp, .ref mb, .int (nI na), .ref mk, .ref mi, .long sd, .ref m1, .ref m2, .ref m3, .ref ml, .ref mf, .ref mw, .ref mn])), (ms, .inl (cI, 4, .inl sf)), (mp, .inl (cI, 52, .inl g)), (m1, .inl (cI, 52, .inl g228)), (ml, .inl (cI, 8, .inl lf))] [(0, .ref y), (1, .int (nI j))] 31 []
    refine x_aload_n ok 0 dX5_lost_31 rfl rfl ?_
    refine x_aload_n ok 0 dX5_lost_32 rfl rfl ?_
    refine gX5_41 ok dX5_lost_33 0 rfl rfl ?_
    refine x_iload_n ok 1 dX5_lost_36 rfl rfl ?_
    refine qX5_168 ok (As := [.ref m1, .int (nI j)]) (st := []) 0 rfl (d_goYears l D cI cZ cS y (nI 0) mt ts pl W ll md ms rW mrd mrs mrp mp mb na mk mi sd m1 m2 m3 ml mf mw mn sf st m1 g228 L li ye br lf A j (by first | assumption | omega) (by first | assumption | omega) (hg228) (by first | assumption | omega) (by first | assumption | omega) (by first | assumption | omega) (by first | assumption | omega)) rfl (Nat.le_of_ble_eq_true rfl) (Nat.le_of_ble_eq_true rfl) (Nat.le_of_ble_eq_true rfl) dX5_lost_37 [0, 1, 3, 4] (by decide) rfl (ws' := fun u => [(y, .inr (5, [.int (nI 0), .ref mt, .int (nI ts), .int (nI pl), .int (nI W), .int (nI ll), .ref md, .ref ms, .int (nI rW), .ref mrd, .ref mrs, .ref mrp, .ref mp, .ref mb, .int (nI na), .ref mk, .ref mi, .long sd, .ref m1, .ref m2, .ref m3, .ref ml, .ref mf, .ref mw, .ref mn])), (ms, .inl (cI, 4, .inl sf)), (mp, .inl (cI, 52, .inl g)), (m1, .inl (cI, 52, .inl u.1)), (ml, .inl (cI, 8, .inl u.2.1))]) (st' := fun u => []) (fun _ => rfl) (fun _ => rfl) (fun _ => rfl) (fun u37 hu37 => ?_)
    obtain ⟨g237, lf237, y237⟩ := u37
    have hg237 := hu37
    have hg237 : PGR g237 (yearsL st li j L) li y237 br := hg237
    show XX K [(y, .inr (5, [.int (nI 0), .ref mt, .int (nI ts), .int (nI pl), .int (nI W), .int (nI ll), .ref md, .ref ms, .int (nI rW), .ref mrd, .ref mrs, .ref mrp, .ref mp, .ref mb, .int (nI na), .ref mk, .ref mi, .long sd, .ref m1, .ref m2, .ref m3, .ref ml, .ref mf, .ref mw, .ref mn])), (ms, .inl (cI, 4, .inl sf)), (mp, .inl (cI, 52, .inl g)), (m1, .inl (cI, 52, .inl g237)), (ml, .inl (cI, 8, .inl lf237))] [(0, .ref y), (1, .int (nI j))] 40 []
    refine x_aload_n ok 0 dX5_lost_40 rfl rfl ?_
    refine gX5_110 ok dX5_lost_41 0 rfl rfl ?_
    refine x_aload_n ok 0 dX5_lost_44 rfl rfl ?_
    refine gX5_41 ok dX5_lost_45 0 rfl rfl ?_
    refine qX5_106 ok (As := [.ref m1]) (st := [.int (nI ll)]) (d_lawsOf l D cI cZ cS m1 g237 (yearsL st li j L) li y237 br W (A + j) (hg237) (years_ok hv j)) rfl (Nat.le_of_ble_eq_true rfl) (Nat.le_of_ble_eq_true rfl) (Nat.le_of_ble_eq_true rfl) dX5_lost_48 [3] (by decide) rfl (ws' := fun u => [(y, .inr (5, [.int (nI 0), .ref mt, .int (nI ts), .int (nI pl), .int (nI W), .int (nI ll), .ref md, .ref ms, .int (nI rW), .ref mrd, .ref mrs, .ref mrp, .ref mp, .ref mb, .int (nI na), .ref mk, .ref mi, .long sd, .ref m1, .ref m2, .ref m3, .ref ml, .ref mf, .ref mw, .ref mn])), (ms, .inl (cI, 4, .inl sf)), (mp, .inl (cI, 52, .inl g)), (m1, .inl (cI, 52, .inl g237)), (ml, .inl (cI, 8, .inl lf237))]) (st' := fun u => [.int (nI (lawsN (yearsL st li j L))), .int (nI ll)]) (fun _ => rfl) (fun _ => rfl) (fun _ => rfl) (fun _ _ => ?_)
    refine x_iconst ok ((-1)) dX5_lost_51 (by decide) ?_
    refine x_ixor ok (((nI (lawsN (yearsL st li j L))) ^^^ (-1))) dX5_lost_52 (rfl) ?_
    refine x_iand ok (((nI ll) &&& ((nI (lawsN (yearsL st li j L))) ^^^ (-1)))) dX5_lost_53 (rfl) ?_
    exact ret (g237, lf237) _ _ _ (((nI ll) &&& ((nI (lawsN (yearsL st li j L))) ^^^ (-1)))) dX5_lost_54 (rfl) (by rw [lostI, if_pos c_14, ej]) (trivial)
  · skip
    refine x_bipush ok ((-2)) dX5_lost_17 (by decide) ?_
    exact ret (of, lf) _ _ _ ((-2)) dX5_lost_19 (rfl) (by rw [lostI, if_neg c_14]) (trivial)

set_option maxHeartbeats 4000000 in
set_option maxRecDepth 100000 in
theorem d_hadBy (l : Launch) (D : va_G) (cI cZ cS : ClassId) (y : Nat) (zt : Int32) (mt : Nat) (ts : Nat) (pl : Nat) (W : Nat) (ll : Nat) (md : Nat) (ms : Nat) (rW : Nat) (mrd : Nat) (mrs : Nat) (mrp : Nat) (mp : Nat) (mb : Nat) (na : Nat) (mk : Nat) (mi : Nat) (sd : Int64) (m1 : Nat) (m2 : Nat) (m3 : Nat) (ml : Nat) (mf : Nat) (mw : Nat) (mn : Nat) (sf : Nat → Int32) (st : Nat → Nat) (g : Nat → Int32) (L : List Sg) (li : Nat) (ye : Int32) (br : Int32) (A : Nat) (tf3 : Nat → Int32) (lf : Nat → Int32) (q : Nat) (n : Nat) (hst : ∀ w, w < W → sf w = nI (st w)) (hst2 : ∀ w, w < W → st w ≤ 2) (hg : PGR g L li ye br) (hv : okL W A L) (hW4 : W ≤ 4) (hq : q < 256) (hn : n < 1000) (hA : A < 900000) : CO l D (TY cI cZ cS) yX5_hadBy cX5_hadBy 3 (some .int) 4 90 0 0 [.ref y, .int (nI q), .int (nI n)] [(y, .inr (5, [.int zt, .ref mt, .int (nI ts), .int (nI pl), .int (nI W), .int (nI ll), .ref md, .ref ms, .int (nI rW), .ref mrd, .ref mrs, .ref mrp, .ref mp, .ref mb, .int (nI na), .ref mk, .ref mi, .long sd, .ref m1, .ref m2, .ref m3, .ref ml, .ref mf, .ref mw, .ref mn])), (ms, .inl (cI, 4, .inl sf)), (mp, .inl (cI, 52, .inl g)), (m3, .inl (cI, 52, .inl tf3)), (ml, .inl (cI, 8, .inl lf))] (σ := (Nat → Int32) × (Nat → Int32)) (fun u => some (.int (nI (llN ll (yearsL st q n L))))) (fun u => [(y, .inr (5, [.int zt, .ref mt, .int (nI ts), .int (nI pl), .int (nI W), .int (nI ll), .ref md, .ref ms, .int (nI rW), .ref mrd, .ref mrs, .ref mrp, .ref mp, .ref mb, .int (nI na), .ref mk, .ref mi, .long sd, .ref m1, .ref m2, .ref m3, .ref ml, .ref mf, .ref mw, .ref mn])), (ms, .inl (cI, 4, .inl sf)), (mp, .inl (cI, 52, .inl g)), (m3, .inl (cI, 52, .inl u.1)), (ml, .inl (cI, 8, .inl u.2))]) (fun u => True) := by
  refine CO_mki (by decide +kernel) (Nat.le_of_ble_eq_true rfl) (fun K ok ret => ?_)
  show XX K [(y, .inr (5, [.int zt, .ref mt, .int (nI ts), .int (nI pl), .int (nI W), .int (nI ll), .ref md, .ref ms, .int (nI rW), .ref mrd, .ref mrs, .ref mrp, .ref mp, .ref mb, .int (nI na), .ref mk, .ref mi, .long sd, .ref m1, .ref m2, .ref m3, .ref ml, .ref mf, .ref mw, .ref mn])), (ms, .inl (cI, 4, .inl sf)), (mp, .inl (cI, 52, .inl g)), (m3, .inl (cI, 52, .inl tf3)), (ml, .inl (cI, 8, .inl lf))] [(0, .ref y), (1, .int (nI q)), (2, .int (nI n))] 0 []
  have h8 := hv.1
  have hvn := years_ok (st := st) (li := q) hv n
  have hl6 := and_lt64 (a := ll) (lawsN_lt hvn)
  refine x_aload_n ok 0 dX5_hadBy_0 rfl rfl ?_
  refine gX5_28 ok dX5_hadBy_1 0 rfl rfl ?_
  refine x_aload_n ok 0 dX5_hadBy_4 rfl rfl ?_
  refine gX5_47 ok dX5_hadBy_5 0 rfl rfl ?_
  refine qX5_159 ok (As := [.ref mp, .ref m3]) (st := []) (d_copy l D cI cZ cS mp g L li ye br m3 tf3 (by first | assumption | omega) (by first | assumption | omega)) rfl (Nat.le_of_ble_eq_true rfl) (Nat.le_of_ble_eq_true rfl) (Nat.le_of_ble_eq_true rfl) dX5_hadBy_8 [2, 3] (by decide) rfl (ws' := fun u => [(y, .inr (5, [.int zt, .ref mt, .int (nI ts), .int (nI pl), .int (nI W), .int (nI ll), .ref md, .ref ms, .int (nI rW), .ref mrd, .ref mrs, .ref mrp, .ref mp, .ref mb, .int (nI na), .ref mk, .ref mi, .long sd, .ref m1, .ref m2, .ref m3, .ref ml, .ref mf, .ref mw, .ref mn])), (ms, .inl (cI, 4, .inl sf)), (mp, .inl (cI, 52, .inl g)), (m3, .inl (cI, 52, .inl u)), (ml, .inl (cI, 8, .inl lf))]) (st' := fun u => []) (fun _ => rfl) (fun _ => rfl) (fun _ => rfl) (fun u8 hu8 => ?_)
  obtain ⟨g28, rfl⟩ : ∃ z, z = u8 := ⟨_, rfl⟩
  have hg28 := hu8
  have hg28 : PGR g28 L li ye br := hg28
  show XX K [(y, .inr (5, [.int zt, .ref mt, .int (nI ts), .int (nI pl), .int (nI W), .int (nI ll), .ref md, .ref ms, .int (nI rW), .ref mrd, .ref mrs, .ref mrp, .ref mp, .ref mb, .int (nI na), .ref mk, .ref mi, .long sd, .ref m1, .ref m2, .ref m3, .ref ml, .ref mf, .ref mw, .ref mn])), (ms, .inl (cI, 4, .inl sf)), (mp, .inl (cI, 52, .inl g)), (m3, .inl (cI, 52, .inl g28)), (ml, .inl (cI, 8, .inl lf))] [(0, .ref y), (1, .int (nI q)), (2, .int (nI n))] 11 []
  refine x_aload_n ok 0 dX5_hadBy_11 rfl rfl ?_
  refine gX5_47 ok dX5_hadBy_12 0 rfl rfl ?_
  refine x_bipush ok (nI 49) dX5_hadBy_15 (by decide) ?_
  refine x_iload_n ok 1 dX5_hadBy_17 rfl rfl ?_
  refine x_iast ok 3 0 49 (ws' := [(y, .inr (5, [.int zt, .ref mt, .int (nI ts), .int (nI pl), .int (nI W), .int (nI ll), .ref md, .ref ms, .int (nI rW), .ref mrd, .ref mrs, .ref mrp, .ref mp, .ref mb, .int (nI na), .ref mk, .ref mi, .long sd, .ref m1, .ref m2, .ref m3, .ref ml, .ref mf, .ref mw, .ref mn])), (ms, .inl (cI, 4, .inl sf)), (mp, .inl (cI, 52, .inl g)), (m3, .inl (cI, 52, .inl (upd g28 49 (nI q)))), (ml, .inl (cI, 8, .inl lf))]) dX5_hadBy_18 rfl rfl (rfl) (by omega) (by decide) (rfl) rfl ?_
  have hgl := pgr_lid hg28 h8 (q := q)
  refine x_aload_n ok 0 dX5_hadBy_19 rfl rfl ?_
  refine x_aload_n ok 0 dX5_hadBy_20 rfl rfl ?_
  refine gX5_47 ok dX5_hadBy_21 0 rfl rfl ?_
  refine x_iload_n ok 2 dX5_hadBy_24 rfl rfl ?_
  refine qX5_168 ok (As := [.ref m3, .int (nI n)]) (st := []) 0 rfl (d_goYears l D cI cZ cS y zt mt ts pl W ll md ms rW mrd mrs mrp mp mb na mk mi sd m1 m2 m3 ml mf mw mn sf st m3 (upd g28 49 (nI q)) L q ye br lf A n (by first | assumption | omega) (by first | assumption | omega) (hgl) (by first | assumption | omega) (by first | assumption | omega) (by first | assumption | omega) (by first | assumption | omega)) rfl (Nat.le_of_ble_eq_true rfl) (Nat.le_of_ble_eq_true rfl) (Nat.le_of_ble_eq_true rfl) dX5_hadBy_25 [0, 1, 3, 4] (by decide) rfl (ws' := fun u => [(y, .inr (5, [.int zt, .ref mt, .int (nI ts), .int (nI pl), .int (nI W), .int (nI ll), .ref md, .ref ms, .int (nI rW), .ref mrd, .ref mrs, .ref mrp, .ref mp, .ref mb, .int (nI na), .ref mk, .ref mi, .long sd, .ref m1, .ref m2, .ref m3, .ref ml, .ref mf, .ref mw, .ref mn])), (ms, .inl (cI, 4, .inl sf)), (mp, .inl (cI, 52, .inl g)), (m3, .inl (cI, 52, .inl u.1)), (ml, .inl (cI, 8, .inl u.2.1))]) (st' := fun u => []) (fun _ => rfl) (fun _ => rfl) (fun _ => rfl) (fun u25 hu25 => ?_)
  obtain ⟨g225, lf225, y225⟩ := u25
  have hg225 := hu25
  have hg225 : PGR g225 (yearsL st q n L) q y225 br := hg225
  show XX K [(y, .inr (5, [.int zt, .ref mt, .int (nI ts), .int (nI pl), .int (nI W), .int (nI ll), .ref md, .ref ms, .int (nI rW), .ref mrd, .ref mrs, .ref mrp, .ref mp, .ref mb, .int (nI na), .ref mk, .ref mi, .long sd, .ref m1, .ref m2, .ref m3, .ref ml, .ref mf, .ref mw, .ref mn])), (ms, .inl (cI, 4, .inl sf)), (mp, .inl (cI, 52, .inl g)), (m3, .inl (cI, 52, .inl g225)), (ml, .inl (cI, 8, .inl lf225))] [(0, .ref y), (1, .int (nI q)), (2, .int (nI n))] 28 []
  refine x_aload_n ok 0 dX5_hadBy_28 rfl rfl ?_
  refine gX5_47 ok dX5_hadBy_29 0 rfl rfl ?_
  refine qX5_106 ok (As := [.ref m3]) (st := []) (d_lawsOf l D cI cZ cS m3 g225 (yearsL st q n L) q y225 br W (A + n) (hg225) (hvn)) rfl (Nat.le_of_ble_eq_true rfl) (Nat.le_of_ble_eq_true rfl) (Nat.le_of_ble_eq_true rfl) dX5_hadBy_32 [3] (by decide) rfl (ws' := fun u => [(y, .inr (5, [.int zt, .ref mt, .int (nI ts), .int (nI pl), .int (nI W), .int (nI ll), .ref md, .ref ms, .int (nI rW), .ref mrd, .ref mrs, .ref mrp, .ref mp, .ref mb, .int (nI na), .ref mk, .ref mi, .long sd, .ref m1, .ref m2, .ref m3, .ref ml, .ref mf, .ref mw, .ref mn])), (ms, .inl (cI, 4, .inl sf)), (mp, .inl (cI, 52, .inl g)), (m3, .inl (cI, 52, .inl g225)), (ml, .inl (cI, 8, .inl lf225))]) (st' := fun u => [.int (nI (lawsN (yearsL st q n L)))]) (fun _ => rfl) (fun _ => rfl) (fun _ => rfl) (fun _ _ => ?_)
  refine x_aload_n ok 0 dX5_hadBy_35 rfl rfl ?_
  refine gX5_110 ok dX5_hadBy_36 0 rfl rfl ?_
  refine x_iand ok (nI (ll &&& (lawsN (yearsL st q n L)))) dX5_hadBy_39 ((fa_and _ _).trans (congrArg nI (Nat.and_comm _ _))) ?_
  refine qX5_178 ok (As := [.int (nI (ll &&& (lawsN (yearsL st q n L))))]) (st := []) (d_many l D cI cZ cS (ll &&& (lawsN (yearsL st q n L))) (by first | assumption | omega)) rfl (Nat.le_of_ble_eq_true rfl) (Nat.le_of_ble_eq_true rfl) (Nat.le_of_ble_eq_true rfl) dX5_hadBy_40 [] (by decide) rfl (ws' := fun u => [(y, .inr (5, [.int zt, .ref mt, .int (nI ts), .int (nI pl), .int (nI W), .int (nI ll), .ref md, .ref ms, .int (nI rW), .ref mrd, .ref mrs, .ref mrp, .ref mp, .ref mb, .int (nI na), .ref mk, .ref mi, .long sd, .ref m1, .ref m2, .ref m3, .ref ml, .ref mf, .ref mw, .ref mn])), (ms, .inl (cI, 4, .inl sf)), (mp, .inl (cI, 52, .inl g)), (m3, .inl (cI, 52, .inl g225)), (ml, .inl (cI, 8, .inl lf225))]) (st' := fun u => [.int (nI (popN (ll &&& (lawsN (yearsL st q n L)))))]) (fun _ => rfl) (fun _ => rfl) (fun _ => rfl) (fun _ _ => ?_)
  exact ret (g225, lf225) _ _ _ (nI (popN (ll &&& (lawsN (yearsL st q n L))))) dX5_hadBy_43 (rfl) (rfl) (trivial)

set_option maxHeartbeats 4000000 in
set_option maxRecDepth 100000 in
theorem e_bestLid (l : Launch) (D : va_G) (cI cZ cS : ClassId) (y : Nat) (zt : Int32) (mt : Nat) (ts : Nat) (pl : Nat) (W : Nat) (ll : Nat) (md : Nat) (ms : Nat) (rW : Nat) (mrd : Nat) (mrs : Nat) (mrp : Nat) (mp : Nat) (mb : Nat) (na : Nat) (mk : Nat) (mi : Nat) (sd : Int64) (m1 : Nat) (m2 : Nat) (m3 : Nat) (ml : Nat) (mf : Nat) (mw : Nat) (mn : Nat) (sf : Nat → Int32) (st : Nat → Nat) (g : Nat → Int32) (L : List Sg) (li : Nat) (ye : Int32) (br : Int32) (A : Nat) (tf3 : Nat → Int32) (lf : Nat → Int32) (z : Int32) (hst : ∀ w, w < W → sf w = nI (st w)) (hst2 : ∀ w, w < W → st w ≤ 2) (hg : PGR g L li ye br) (hv : okL W A L) (hW4 : W ≤ 4) (hl16 : li < 16) (hA : A < 900000) : CO l D (TY cI cZ cS) yX5_bestLid cX5_bestLid 6 (some .int) 5 112 0 0 [.ref y, .int z] [(y, .inr (5, [.int zt, .ref mt, .int (nI ts), .int (nI pl), .int (nI W), .int (nI ll), .ref md, .ref ms, .int (nI rW), .ref mrd, .ref mrs, .ref mrp, .ref mp, .ref mb, .int (nI na), .ref mk, .ref mi, .long sd, .ref m1, .ref m2, .ref m3, .ref ml, .ref mf, .ref mw, .ref mn])), (ms, .inl (cI, 4, .inl sf)), (mp, .inl (cI, 52, .inl g)), (m3, .inl (cI, 52, .inl tf3)), (ml, .inl (cI, 8, .inl lf))] (σ := (Nat → Int32) × (Nat → Int32)) (fun u => some (.int (bestLidI st W li ll L z))) (fun u => [(y, .inr (5, [.int (nI 0), .ref mt, .int (nI ts), .int (nI pl), .int (nI W), .int (nI ll), .ref md, .ref ms, .int (nI rW), .ref mrd, .ref mrs, .ref mrp, .ref mp, .ref mb, .int (nI na), .ref mk, .ref mi, .long sd, .ref m1, .ref m2, .ref m3, .ref ml, .ref mf, .ref mw, .ref mn])), (ms, .inl (cI, 4, .inl sf)), (mp, .inl (cI, 52, .inl g)), (m3, .inl (cI, 52, .inl u.1)), (ml, .inl (cI, 8, .inl u.2))]) (fun u => True) := by
  refine CO_mki (by decide +kernel) (Nat.le_of_ble_eq_true rfl) (fun K ok ret => ?_)
  show XX K [(y, .inr (5, [.int zt, .ref mt, .int (nI ts), .int (nI pl), .int (nI W), .int (nI ll), .ref md, .ref ms, .int (nI rW), .ref mrd, .ref mrs, .ref mrp, .ref mp, .ref mb, .int (nI na), .ref mk, .ref mi, .long sd, .ref m1, .ref m2, .ref m3, .ref ml, .ref mf, .ref mw, .ref mn])), (ms, .inl (cI, 4, .inl sf)), (mp, .inl (cI, 52, .inl g)), (m3, .inl (cI, 52, .inl tf3)), (ml, .inl (cI, 8, .inl lf))] [(0, .ref y), (1, .int z)] 0 []
  have h8 := hv.1
  refine x_aload_n ok 0 dX5_bestLid_0 rfl rfl ?_
  refine x_iconst ok (nI 0) dX5_bestLid_1 (by decide) ?_
  refine pX5_62 ok dX5_bestLid_2 0 rfl rfl rfl (Nat.le_of_ble_eq_true rfl) (ws' := [(y, .inr (5, [.int (nI 0), .ref mt, .int (nI ts), .int (nI pl), .int (nI W), .int (nI ll), .ref md, .ref ms, .int (nI rW), .ref mrd, .ref mrs, .ref mrp, .ref mp, .ref mb, .int (nI na), .ref mk, .ref mi, .long sd, .ref m1, .ref m2, .ref m3, .ref ml, .ref mf, .ref mw, .ref mn])), (ms, .inl (cI, 4, .inl sf)), (mp, .inl (cI, 52, .inl g)), (m3, .inl (cI, 52, .inl tf3)), (ml, .inl (cI, 8, .inl lf))]) rfl ?_
  refine x_iload_n ok 1 dX5_bestLid_5 rfl rfl ?_
  refine x_i2l ok ((z).toInt64) dX5_bestLid_6 rfl ?_
  refine x_lconst ok ((nI 1).toInt64) dX5_bestLid_7 (by decide) ?_
  refine x_ldc2v ok KX5_143 (v' := (nI 9).toInt64) (by decide) dX5_bestLid_8 ?_
  refine qX5_69 ok (As := [.long ((z).toInt64), .long ((nI 1).toInt64), .long ((nI 9).toInt64)]) (st := []) (d_in l D cI cZ cS z (nI 1) (nI 9) ) rfl (Nat.le_of_ble_eq_true rfl) (Nat.le_of_ble_eq_true rfl) (Nat.le_of_ble_eq_true rfl) dX5_bestLid_11 [] (by decide) rfl (ws' := fun u => [(y, .inr (5, [.int (nI 0), .ref mt, .int (nI ts), .int (nI pl), .int (nI W), .int (nI ll), .ref md, .ref ms, .int (nI rW), .ref mrd, .ref mrs, .ref mrp, .ref mp, .ref mb, .int (nI na), .ref mk, .ref mi, .long sd, .ref m1, .ref m2, .ref m3, .ref ml, .ref mf, .ref mw, .ref mn])), (ms, .inl (cI, 4, .inl sf)), (mp, .inl (cI, 52, .inl g)), (m3, .inl (cI, 52, .inl tf3)), (ml, .inl (cI, 8, .inl lf))]) (st' := fun u => [.int (bz (inB z (nI 1) (nI 9)))]) (fun _ => rfl) (fun _ => rfl) (fun _ => rfl) (fun _ _ => ?_)
  refine x_if_neB ok 20 dX5_bestLid_14 (by decide) (fun c_14 => ?_) (fun c_14 => ?_)
  · skip
    obtain ⟨j, hj0, hj, e_z⟩ := inB_t (by omega) (by omega) c_14
    subst e_z
    have ej := cl_n (show j < 2 ^ 31 by omega)
    have hg6 : ∀ w, (fun w => llN ll (yearsL st (li ||| 2 ^ w) j L)) w ≤ 6 := fun w => ll_le (years_ok hv j)
    have hb6 := blF_le (li := li) (ll_le (ll := ll) (years_ok (st := st) (li := li) hv j)) hg6
    refine x_bipush ok ((-9)) dX5_bestLid_20 (by decide) ?_
    refine x_eq (st' := [.int ((blF (fun w => llN ll (yearsL st (li ||| 2 ^ w) j L)) li (llN ll (yearsL st li j L)) 0).1)]) rfl rfl (rfl) ?_
    refine x_istore_n ok (lv' := [(2, .int ((blF (fun w => llN ll (yearsL st (li ||| 2 ^ w) j L)) li (llN ll (yearsL st li j L)) 0).1)), (0, .ref y), (1, .int (nI j))]) dX5_bestLid_22 rfl (by decide) rfl ?_
    refine x_aload_n ok 1 dX5_bestLid_23 rfl rfl ?_
    refine x_aload_n ok 1 dX5_bestLid_24 rfl rfl ?_
    refine gX5_28 ok dX5_bestLid_25 0 rfl rfl ?_
    refine x_bipush ok (nI 49) dX5_bestLid_28 (by decide) ?_
    refine x_iald ok 2 0 49 dX5_bestLid_30 rfl rfl (rfl) (by omega) (by decide) (nI li) (hg.2.2.1) ?_
    refine x_iload_n ok 2 dX5_bestLid_31 rfl rfl ?_
    refine qX5_182 ok (As := [.int (nI li), .int (nI j)]) (st := []) 0 rfl (d_hadBy l D cI cZ cS y (nI 0) mt ts pl W ll md ms rW mrd mrs mrp mp mb na mk mi sd m1 m2 m3 ml mf mw mn sf st g L li ye br A tf3 lf li j (by first | assumption | omega) (by first | assumption | omega) (by first | assumption | omega) (by first | assumption | omega) (by first | assumption | omega) (by first | assumption | omega) (by first | assumption | omega) (by first | assumption | omega)) rfl (Nat.le_of_ble_eq_true rfl) (Nat.le_of_ble_eq_true rfl) (Nat.le_of_ble_eq_true rfl) dX5_bestLid_32 [0, 1, 2, 3, 4] (by decide) rfl (ws' := fun u => [(y, .inr (5, [.int (nI 0), .ref mt, .int (nI ts), .int (nI pl), .int (nI W), .int (nI ll), .ref md, .ref ms, .int (nI rW), .ref mrd, .ref mrs, .ref mrp, .ref mp, .ref mb, .int (nI na), .ref mk, .ref mi, .long sd, .ref m1, .ref m2, .ref m3, .ref ml, .ref mf, .ref mw, .ref mn])), (ms, .inl (cI, 4, .inl sf)), (mp, .inl (cI, 52, .inl g)), (m3, .inl (cI, 52, .inl u.1)), (ml, .inl (cI, 8, .inl u.2))]) (st' := fun u => [.int (nI (llN ll (yearsL st li j L)))]) (fun _ => rfl) (fun _ => rfl) (fun _ => rfl) (fun u32 hu32 => ?_)
    obtain ⟨o232, lf232⟩ := u32
    show XX K [(y, .inr (5, [.int (nI 0), .ref mt, .int (nI ts), .int (nI pl), .int (nI W), .int (nI ll), .ref md, .ref ms, .int (nI rW), .ref mrd, .ref mrs, .ref mrp, .ref mp, .ref mb, .int (nI na), .ref mk, .ref mi, .long sd, .ref m1, .ref m2, .ref m3, .ref ml, .ref mf, .ref mw, .ref mn])), (ms, .inl (cI, 4, .inl sf)), (mp, .inl (cI, 52, .inl g)), (m3, .inl (cI, 52, .inl o232)), (ml, .inl (cI, 8, .inl lf232))] [(2, .int ((blF (fun w => llN ll (yearsL st (li ||| 2 ^ w) j L)) li (llN ll (yearsL st li j L)) 0).1)), (0, .ref y), (1, .int (nI j))] 35 [.int (nI (llN ll (yearsL st li j L)))]
    refine x_eq (st' := [.int (nI ((blF (fun w => llN ll (yearsL st (li ||| 2 ^ w) j L)) li (llN ll (yearsL st li j L)) 0).2))]) rfl rfl (rfl) ?_
    refine x_istore_n ok (lv' := [(3, .int (nI ((blF (fun w => llN ll (yearsL st (li ||| 2 ^ w) j L)) li (llN ll (yearsL st li j L)) 0).2))), (2, .int ((blF (fun w => llN ll (yearsL st (li ||| 2 ^ w) j L)) li (llN ll (yearsL st li j L)) 0).1)), (0, .ref y), (1, .int (nI j))]) dX5_bestLid_35 rfl (by decide) rfl ?_
    refine x_iconst ok (nI 0) dX5_bestLid_36 (by decide) ?_
    refine x_istore ok (lv' := [(4, .int (nI 0)), (3, .int (nI ((blF (fun w => llN ll (yearsL st (li ||| 2 ^ w) j L)) li (llN ll (yearsL st li j L)) 0).2))), (2, .int ((blF (fun w => llN ll (yearsL st (li ||| 2 ^ w) j L)) li (llN ll (yearsL st li j L)) 0).1)), (0, .ref y), (1, .int (nI j))]) dX5_bestLid_37 (by decide) rfl ?_
    have L_39 : ∀ (n_39 : Nat) (i : Nat) (f9 : Nat → Int32) (l9 : Nat → Int32), W - i < n_39 → (i ≤ W) → XX K [(y, .inr (5, [.int (nI 0), .ref mt, .int (nI ts), .int (nI pl), .int (nI W), .int (nI ll), .ref md, .ref ms, .int (nI rW), .ref mrd, .ref mrs, .ref mrp, .ref mp, .ref mb, .int (nI na), .ref mk, .ref mi, .long sd, .ref m1, .ref m2, .ref m3, .ref ml, .ref mf, .ref mw, .ref mn])), (ms, .inl (cI, 4, .inl sf)), (mp, .inl (cI, 52, .inl g)), (m3, .inl (cI, 52, .inl f9)), (ml, .inl (cI, 8, .inl l9))] [(4, .int (nI i)), (3, .int (nI ((blF (fun w => llN ll (yearsL st (li ||| 2 ^ w) j L)) li (llN ll (yearsL st li j L)) i).2))), (2, .int ((blF (fun w => llN ll (yearsL st (li ||| 2 ^ w) j L)) li (llN ll (yearsL st li j L)) i).1)), (0, .ref y), (1, .int (nI j))] 39 [] := by
      intro n_39
      induction n_39 with
      | zero => intro i f9 l9 hm; exact absurd hm (Nat.not_lt_zero _)
      | succ n_39 ih_39 =>
        intro i f9 l9 hm_39 hi
        refine x_iload ok 0 dX5_bestLid_39 rfl ?_
        refine x_aload_n ok 3 dX5_bestLid_41 rfl rfl ?_
        refine gX5_66 ok dX5_bestLid_42 0 rfl rfl ?_
        refine x_icmp_geN ok 118 dX5_bestLid_45 (by decide) (by omega) (by omega) (fun c_45 => ?_) (fun c_45 => ?_)
        · skip
          have e_i : W = i := by omega
          subst e_i
          refine x_iload_n ok 2 dX5_bestLid_118 rfl rfl ?_
          exact ret (f9, l9) _ _ _ (((blF (fun w => llN ll (yearsL st (li ||| 2 ^ w) j L)) li (llN ll (yearsL st li j L)) W).1)) dX5_bestLid_119 (rfl) (by rw [bestLidI, if_pos c_14, ej]) (trivial)
        · skip
          have hbi := hb6 i
          have ho16 := or_two (w := i) hl16 (by omega)
          have hgi := ll_le (ll := ll) (years_ok (st := st) (li := li ||| 2 ^ i) hv j)
          refine x_aload_n ok 3 dX5_bestLid_48 rfl rfl ?_
          refine gX5_28 ok dX5_bestLid_49 0 rfl rfl ?_
          refine x_bipush ok (nI 49) dX5_bestLid_52 (by decide) ?_
          refine x_iald ok 2 0 49 dX5_bestLid_54 rfl rfl (rfl) (by omega) (by decide) (nI li) (hg.2.2.1) ?_
          refine x_iload ok 0 dX5_bestLid_55 rfl ?_
          refine qX5_125 ok (As := [.int (nI li), .int (nI i)]) (st := []) (d_has l D cI cZ cS li i (by first | assumption | omega) (by first | assumption | omega)) rfl (Nat.le_of_ble_eq_true rfl) (Nat.le_of_ble_eq_true rfl) (Nat.le_of_ble_eq_true rfl) dX5_bestLid_57 [] (by decide) rfl (ws' := fun u => [(y, .inr (5, [.int (nI 0), .ref mt, .int (nI ts), .int (nI pl), .int (nI W), .int (nI ll), .ref md, .ref ms, .int (nI rW), .ref mrd, .ref mrs, .ref mrp, .ref mp, .ref mb, .int (nI na), .ref mk, .ref mi, .long sd, .ref m1, .ref m2, .ref m3, .ref ml, .ref mf, .ref mw, .ref mn])), (ms, .inl (cI, 4, .inl sf)), (mp, .inl (cI, 52, .inl g)), (m3, .inl (cI, 52, .inl f9)), (ml, .inl (cI, 8, .inl l9))]) (st' := fun u => [.int (bz (li.testBit i))]) (fun _ => rfl) (fun _ => rfl) (fun _ => rfl) (fun _ _ => ?_)
          refine x_if_eqB ok 67 dX5_bestLid_60 (by decide) (fun c_60 => ?_) (fun c_60 => ?_)
          · skip
            refine x_aload_n ok 3 dX5_bestLid_67 rfl rfl ?_
            refine x_aload_n ok 3 dX5_bestLid_68 rfl rfl ?_
            refine gX5_28 ok dX5_bestLid_69 0 rfl rfl ?_
            refine x_bipush ok (nI 49) dX5_bestLid_72 (by decide) ?_
            refine x_iald ok 2 0 49 dX5_bestLid_74 rfl rfl (rfl) (by omega) (by decide) (nI li) (hg.2.2.1) ?_
            refine x_iconst ok (nI 1) dX5_bestLid_75 (by decide) ?_
            refine x_iload ok 0 dX5_bestLid_76 rfl ?_
            refine x_ishl ok (nI (2 ^ i)) dX5_bestLid_78 (shl1 i (by omega)) ?_
            refine x_ior ok (nI (li ||| 2 ^ i)) dX5_bestLid_79 (fa_or _ _) ?_
            refine x_iload_n ok 4 dX5_bestLid_80 rfl rfl ?_
            refine qX5_182 ok (As := [.int (nI (li ||| 2 ^ i)), .int (nI j)]) (st := []) 0 rfl (d_hadBy l D cI cZ cS y (nI 0) mt ts pl W ll md ms rW mrd mrs mrp mp mb na mk mi sd m1 m2 m3 ml mf mw mn sf st g L li ye br A f9 l9 (li ||| 2 ^ i) j (by first | assumption | omega) (by first | assumption | omega) (by first | assumption | omega) (by first | assumption | omega) (by first | assumption | omega) (by first | assumption | omega) (by first | assumption | omega) (by first | assumption | omega)) rfl (Nat.le_of_ble_eq_true rfl) (Nat.le_of_ble_eq_true rfl) (Nat.le_of_ble_eq_true rfl) dX5_bestLid_81 [0, 1, 2, 3, 4] (by decide) rfl (ws' := fun u => [(y, .inr (5, [.int (nI 0), .ref mt, .int (nI ts), .int (nI pl), .int (nI W), .int (nI ll), .ref md, .ref ms, .int (nI rW), .ref mrd, .ref mrs, .ref mrp, .ref mp, .ref mb, .int (nI na), .ref mk, .ref mi, .long sd, .ref m1, .ref m2, .ref m3, .ref ml, .ref mf, .ref mw, .ref mn])), (ms, .inl (cI, 4, .inl sf)), (mp, .inl (cI, 52, .inl g)), (m3, .inl (cI, 52, .inl u.1)), (ml, .inl (cI, 8, .inl u.2))]) (st' := fun u => [.int (nI (llN ll (yearsL st (li ||| 2 ^ i) j L)))]) (fun _ => rfl) (fun _ => rfl) (fun _ => rfl) (fun u81 hu81 => ?_)
            obtain ⟨o281, lf281⟩ := u81
            show XX K [(y, .inr (5, [.int (nI 0), .ref mt, .int (nI ts), .int (nI pl), .int (nI W), .int (nI ll), .ref md, .ref ms, .int (nI rW), .ref mrd, .ref mrs, .ref mrp, .ref mp, .ref mb, .int (nI na), .ref mk, .ref mi, .long sd, .ref m1, .ref m2, .ref m3, .ref ml, .ref mf, .ref mw, .ref mn])), (ms, .inl (cI, 4, .inl sf)), (mp, .inl (cI, 52, .inl g)), (m3, .inl (cI, 52, .inl o281)), (ml, .inl (cI, 8, .inl lf281))] [(4, .int (nI i)), (3, .int (nI ((blF (fun w => llN ll (yearsL st (li ||| 2 ^ w) j L)) li (llN ll (yearsL st li j L)) i).2))), (2, .int ((blF (fun w => llN ll (yearsL st (li ||| 2 ^ w) j L)) li (llN ll (yearsL st li j L)) i).1)), (0, .ref y), (1, .int (nI j))] 84 [.int (nI (llN ll (yearsL st (li ||| 2 ^ i) j L)))]
            refine x_eq (st' := [.int (nI (if li.testBit i = true then 0 else llN ll (yearsL st (li ||| 2 ^ i) j L)))]) rfl rfl (by rw [if_neg c_60]) ?_
            obtain ⟨got, e_got⟩ : ∃ y : Nat, y = (if li.testBit i = true then 0 else llN ll (yearsL st (li ||| 2 ^ i) j L)) := ⟨_, rfl⟩
            rw [← e_got]
            refine x_istore ok (lv' := [(5, .int (nI got)), (4, .int (nI i)), (3, .int (nI ((blF (fun w => llN ll (yearsL st (li ||| 2 ^ w) j L)) li (llN ll (yearsL st li j L)) i).2))), (2, .int ((blF (fun w => llN ll (yearsL st (li ||| 2 ^ w) j L)) li (llN ll (yearsL st li j L)) i).1)), (0, .ref y), (1, .int (nI j))]) dX5_bestLid_84 (by decide) rfl ?_
            have hg7 : got ≤ 6 := by rw [e_got]; split <;> omega
            refine x_iload ok 0 dX5_bestLid_86 rfl ?_
            refine x_iload_n ok 2 dX5_bestLid_88 rfl rfl ?_
            have J_98 : ∀ (v98_1 : Int32), v98_1 = (if got ≤ ((blF (fun w => llN ll (yearsL st (li ||| 2 ^ w) j L)) li (llN ll (yearsL st li j L)) i).2) then ((blF (fun w => llN ll (yearsL st (li ||| 2 ^ w) j L)) li (llN ll (yearsL st li j L)) i).1) else nI i) → XX K [(y, .inr (5, [.int (nI 0), .ref mt, .int (nI ts), .int (nI pl), .int (nI W), .int (nI ll), .ref md, .ref ms, .int (nI rW), .ref mrd, .ref mrs, .ref mrp, .ref mp, .ref mb, .int (nI na), .ref mk, .ref mi, .long sd, .ref m1, .ref m2, .ref m3, .ref ml, .ref mf, .ref mw, .ref mn])), (ms, .inl (cI, 4, .inl sf)), (mp, .inl (cI, 52, .inl g)), (m3, .inl (cI, 52, .inl o281)), (ml, .inl (cI, 8, .inl lf281))] [(5, .int (nI got)), (4, .int (nI i)), (3, .int (nI ((blF (fun w => llN ll (yearsL st (li ||| 2 ^ w) j L)) li (llN ll (yearsL st li j L)) i).2))), (2, .int ((blF (fun w => llN ll (yearsL st (li ||| 2 ^ w) j L)) li (llN ll (yearsL st li j L)) i).1)), (0, .ref y), (1, .int (nI j))] 98 [.int v98_1] := by
              intro v98_1 e_v98_1
              refine x_istore_n ok (lv' := [(2, .int v98_1), (5, .int (nI got)), (4, .int (nI i)), (3, .int (nI ((blF (fun w => llN ll (yearsL st (li ||| 2 ^ w) j L)) li (llN ll (yearsL st li j L)) i).2))), (0, .ref y), (1, .int (nI j))]) dX5_bestLid_98 rfl (by decide) rfl ?_
              refine x_iload ok 1 dX5_bestLid_99 rfl ?_
              refine x_iload_n ok 3 dX5_bestLid_101 rfl rfl ?_
              have J_111 : ∀ (v111_1 : Nat), v111_1 = (if got ≤ ((blF (fun w => llN ll (yearsL st (li ||| 2 ^ w) j L)) li (llN ll (yearsL st li j L)) i).2) then ((blF (fun w => llN ll (yearsL st (li ||| 2 ^ w) j L)) li (llN ll (yearsL st li j L)) i).2) else got) → XX K [(y, .inr (5, [.int (nI 0), .ref mt, .int (nI ts), .int (nI pl), .int (nI W), .int (nI ll), .ref md, .ref ms, .int (nI rW), .ref mrd, .ref mrs, .ref mrp, .ref mp, .ref mb, .int (nI na), .ref mk, .ref mi, .long sd, .ref m1, .ref m2, .ref m3, .ref ml, .ref mf, .ref mw, .ref mn])), (ms, .inl (cI, 4, .inl sf)), (mp, .inl (cI, 52, .inl g)), (m3, .inl (cI, 52, .inl o281)), (ml, .inl (cI, 8, .inl lf281))] [(2, .int v98_1), (5, .int (nI got)), (4, .int (nI i)), (3, .int (nI ((blF (fun w => llN ll (yearsL st (li ||| 2 ^ w) j L)) li (llN ll (yearsL st li j L)) i).2))), (0, .ref y), (1, .int (nI j))] 111 [.int (nI v111_1)] := by
                intro v111_1 e_v111_1
                refine x_istore_n ok (lv' := [(3, .int (nI v111_1)), (2, .int v98_1), (5, .int (nI got)), (4, .int (nI i)), (0, .ref y), (1, .int (nI j))]) dX5_bestLid_111 rfl (by decide) rfl ?_
                refine x_iinc ok (v := nI (i + 1)) (lv' := [(4, .int (nI (i + 1))), (3, .int (nI v111_1)), (2, .int v98_1), (5, .int (nI got)), (0, .ref y), (1, .int (nI j))]) dX5_bestLid_112 3 rfl (nN (nI_inc _ 1) (by omega)) (by decide) rfl ?_
                refine x_goto ok 39 dX5_bestLid_115 (by decide) ?_
                refine x_loc ok [0, 1, 2, 4, 5] (lv' := [(4, .int (nI (i + 1))), (3, .int (nI v111_1)), (2, .int v98_1), (0, .ref y), (1, .int (nI j))]) rfl ?_
                have em : blF (fun w => llN ll (yearsL st (li ||| 2 ^ w) j L)) li (llN ll (yearsL st li j L)) (i + 1) = (v98_1, v111_1) := by
                  simp only [blF]
                  rw [show (if li.testBit i = true then 0 else llN ll (yearsL st (li ||| 2 ^ i) j L)) = got from e_got.symm, e_v98_1, e_v111_1]
                  rcases Nat.lt_or_ge (blF (fun w => llN ll (yearsL st (li ||| 2 ^ w) j L)) li (llN ll (yearsL st li j L)) i).2 got with c | c
                  · rw [if_pos c, if_neg (Nat.not_le.mpr c), if_neg (Nat.not_le.mpr c)]
                  · rw [if_neg (Nat.not_lt.mpr c), if_pos c, if_pos c]
                refine x_eq (lv' := [(4, .int (nI (i + 1))), (3, .int (nI ((blF (fun w => llN ll (yearsL st (li ||| 2 ^ w) j L)) li (llN ll (yearsL st li j L)) (i + 1)).2))), (2, .int ((blF (fun w => llN ll (yearsL st (li ||| 2 ^ w) j L)) li (llN ll (yearsL st li j L)) (i + 1)).1)), (0, .ref y), (1, .int (nI j))]) rfl (by rw [em]) rfl ?_
                exact ih_39 (i + 1) o281 lf281 (by omega) (by first | assumption | omega)
              refine x_icmp_leN ok 110 dX5_bestLid_102 (by decide) (by omega) (by omega) (fun c_102 => ?_) (fun c_102 => ?_)
              · skip
                refine x_iload_n ok 3 dX5_bestLid_110 rfl rfl ?_
                exact J_111 ((blF (fun w => llN ll (yearsL st (li ||| 2 ^ w) j L)) li (llN ll (yearsL st li j L)) i).2) (by first | rfl | (simp only [if_pos c_102]; done) | (simp [c_102]; done))
              · skip
                refine x_iload ok 1 dX5_bestLid_105 rfl ?_
                refine x_goto ok 111 dX5_bestLid_107 (by decide) ?_
                exact J_111 got (by first | rfl | (simp only [if_neg c_102]; done) | (simp [c_102]; done))
            refine x_icmp_leN ok 97 dX5_bestLid_89 (by decide) (by omega) (by omega) (fun c_89 => ?_) (fun c_89 => ?_)
            · skip
              refine x_iload_n ok 3 dX5_bestLid_97 rfl rfl ?_
              exact J_98 ((blF (fun w => llN ll (yearsL st (li ||| 2 ^ w) j L)) li (llN ll (yearsL st li j L)) i).1) (by first | rfl | (simp only [if_pos c_89]; done) | (simp [c_89]; done))
            · skip
              refine x_iload ok 1 dX5_bestLid_92 rfl ?_
              refine x_goto ok 98 dX5_bestLid_94 (by decide) ?_
              exact J_98 (nI i) (by first | rfl | (simp only [if_neg c_89]; done) | (simp [c_89]; done))
          · skip
            refine x_iconst ok (nI 0) dX5_bestLid_63 (by decide) ?_
            refine x_goto ok 84 dX5_bestLid_64 (by decide) ?_
            refine x_eq (st' := [.int (nI (if li.testBit i = true then 0 else llN ll (yearsL st (li ||| 2 ^ i) j L)))]) rfl rfl (by rw [if_pos c_60]) ?_
            obtain ⟨got, e_got⟩ : ∃ y : Nat, y = (if li.testBit i = true then 0 else llN ll (yearsL st (li ||| 2 ^ i) j L)) := ⟨_, rfl⟩
            rw [← e_got]
            refine x_istore ok (lv' := [(5, .int (nI got)), (4, .int (nI i)), (3, .int (nI ((blF (fun w => llN ll (yearsL st (li ||| 2 ^ w) j L)) li (llN ll (yearsL st li j L)) i).2))), (2, .int ((blF (fun w => llN ll (yearsL st (li ||| 2 ^ w) j L)) li (llN ll (yearsL st li j L)) i).1)), (0, .ref y), (1, .int (nI j))]) dX5_bestLid_84 (by decide) rfl ?_
            have hg7 : got ≤ 6 := by rw [e_got]; split <;> omega
            refine x_iload ok 0 dX5_bestLid_86 rfl ?_
            refine x_iload_n ok 2 dX5_bestLid_88 rfl rfl ?_
            have J_98 : ∀ (v98_1 : Int32), v98_1 = (if got ≤ ((blF (fun w => llN ll (yearsL st (li ||| 2 ^ w) j L)) li (llN ll (yearsL st li j L)) i).2) then ((blF (fun w => llN ll (yearsL st (li ||| 2 ^ w) j L)) li (llN ll (yearsL st li j L)) i).1) else nI i) → XX K [(y, .inr (5, [.int (nI 0), .ref mt, .int (nI ts), .int (nI pl), .int (nI W), .int (nI ll), .ref md, .ref ms, .int (nI rW), .ref mrd, .ref mrs, .ref mrp, .ref mp, .ref mb, .int (nI na), .ref mk, .ref mi, .long sd, .ref m1, .ref m2, .ref m3, .ref ml, .ref mf, .ref mw, .ref mn])), (ms, .inl (cI, 4, .inl sf)), (mp, .inl (cI, 52, .inl g)), (m3, .inl (cI, 52, .inl f9)), (ml, .inl (cI, 8, .inl l9))] [(5, .int (nI got)), (4, .int (nI i)), (3, .int (nI ((blF (fun w => llN ll (yearsL st (li ||| 2 ^ w) j L)) li (llN ll (yearsL st li j L)) i).2))), (2, .int ((blF (fun w => llN ll (yearsL st (li ||| 2 ^ w) j L)) li (llN ll (yearsL st li j L)) i).1)), (0, .ref y), (1, .int (nI j))] 98 [.int v98_1] := by
              intro v98_1 e_v98_1
              refine x_istore_n ok (lv' := [(2, .int v98_1), (5, .int (nI got)), (4, .int (nI i)), (3, .int (nI ((blF (fun w => llN ll (yearsL st (li ||| 2 ^ w) j L)) li (llN ll (yearsL st li j L)) i).2))), (0, .ref y), (1, .int (nI j))]) dX5_bestLid_98 rfl (by decide) rfl ?_
              refine x_iload ok 1 dX5_bestLid_99 rfl ?_
              refine x_iload_n ok 3 dX5_bestLid_101 rfl rfl ?_
              have J_111 : ∀ (v111_1 : Nat), v111_1 = (if got ≤ ((blF (fun w => llN ll (yearsL st (li ||| 2 ^ w) j L)) li (llN ll (yearsL st li j L)) i).2) then ((blF (fun w => llN ll (yearsL st (li ||| 2 ^ w) j L)) li (llN ll (yearsL st li j L)) i).2) else got) → XX K [(y, .inr (5, [.int (nI 0), .ref mt, .int (nI ts), .int (nI pl), .int (nI W), .int (nI ll), .ref md, .ref ms, .int (nI rW), .ref mrd, .ref mrs, .ref mrp, .ref mp, .ref mb, .int (nI na), .ref mk, .ref mi, .long sd, .ref m1, .ref m2, .ref m3, .ref ml, .ref mf, .ref mw, .ref mn])), (ms, .inl (cI, 4, .inl sf)), (mp, .inl (cI, 52, .inl g)), (m3, .inl (cI, 52, .inl f9)), (ml, .inl (cI, 8, .inl l9))] [(2, .int v98_1), (5, .int (nI got)), (4, .int (nI i)), (3, .int (nI ((blF (fun w => llN ll (yearsL st (li ||| 2 ^ w) j L)) li (llN ll (yearsL st li j L)) i).2))), (0, .ref y), (1, .int (nI j))] 111 [.int (nI v111_1)] := by
                intro v111_1 e_v111_1
                refine x_istore_n ok (lv' := [(3, .int (nI v111_1)), (2, .int v98_1), (5, .int (nI got)), (4, .int (nI i)), (0, .ref y), (1, .int (nI j))]) dX5_bestLid_111 rfl (by decide) rfl ?_
                refine x_iinc ok (v := nI (i + 1)) (lv' := [(4, .int (nI (i + 1))), (3, .int (nI v111_1)), (2, .int v98_1), (5, .int (nI got)), (0, .ref y), (1, .int (nI j))]) dX5_bestLid_112 3 rfl (nN (nI_inc _ 1) (by omega)) (by decide) rfl ?_
                refine x_goto ok 39 dX5_bestLid_115 (by decide) ?_
                refine x_loc ok [0, 1, 2, 4, 5] (lv' := [(4, .int (nI (i + 1))), (3, .int (nI v111_1)), (2, .int v98_1), (0, .ref y), (1, .int (nI j))]) rfl ?_
                have em : blF (fun w => llN ll (yearsL st (li ||| 2 ^ w) j L)) li (llN ll (yearsL st li j L)) (i + 1) = (v98_1, v111_1) := by
                  simp only [blF]
                  rw [show (if li.testBit i = true then 0 else llN ll (yearsL st (li ||| 2 ^ i) j L)) = got from e_got.symm, e_v98_1, e_v111_1]
                  rcases Nat.lt_or_ge (blF (fun w => llN ll (yearsL st (li ||| 2 ^ w) j L)) li (llN ll (yearsL st li j L)) i).2 got with c | c
                  · rw [if_pos c, if_neg (Nat.not_le.mpr c), if_neg (Nat.not_le.mpr c)]
                  · rw [if_neg (Nat.not_lt.mpr c), if_pos c, if_pos c]
                refine x_eq (lv' := [(4, .int (nI (i + 1))), (3, .int (nI ((blF (fun w => llN ll (yearsL st (li ||| 2 ^ w) j L)) li (llN ll (yearsL st li j L)) (i + 1)).2))), (2, .int ((blF (fun w => llN ll (yearsL st (li ||| 2 ^ w) j L)) li (llN ll (yearsL st li j L)) (i + 1)).1)), (0, .ref y), (1, .int (nI j))]) rfl (by rw [em]) rfl ?_
                exact ih_39 (i + 1) f9 l9 (by omega) (by first | assumption | omega)
              refine x_icmp_leN ok 110 dX5_bestLid_102 (by decide) (by omega) (by omega) (fun c_102 => ?_) (fun c_102 => ?_)
              · skip
                refine x_iload_n ok 3 dX5_bestLid_110 rfl rfl ?_
                exact J_111 ((blF (fun w => llN ll (yearsL st (li ||| 2 ^ w) j L)) li (llN ll (yearsL st li j L)) i).2) (by first | rfl | (simp only [if_pos c_102]; done) | (simp [c_102]; done))
              · skip
                refine x_iload ok 1 dX5_bestLid_105 rfl ?_
                refine x_goto ok 111 dX5_bestLid_107 (by decide) ?_
                exact J_111 got (by first | rfl | (simp only [if_neg c_102]; done) | (simp [c_102]; done))
            refine x_icmp_leN ok 97 dX5_bestLid_89 (by decide) (by omega) (by omega) (fun c_89 => ?_) (fun c_89 => ?_)
            · skip
              refine x_iload_n ok 3 dX5_bestLid_97 rfl rfl ?_
              exact J_98 ((blF (fun w => llN ll (yearsL st (li ||| 2 ^ w) j L)) li (llN ll (yearsL st li j L)) i).1) (by first | rfl | (simp only [if_pos c_89]; done) | (simp [c_89]; done))
            · skip
              refine x_iload ok 1 dX5_bestLid_92 rfl ?_
              refine x_goto ok 98 dX5_bestLid_94 (by decide) ?_
              exact J_98 (nI i) (by first | rfl | (simp only [if_neg c_89]; done) | (simp [c_89]; done))
    exact L_39 _ 0 o232 lf232 (Nat.lt_succ_self _) (by first | assumption | omega)
  · skip
    refine x_bipush ok ((-2)) dX5_bestLid_17 (by decide) ?_
    exact ret (tf3, lf) _ _ _ ((-2)) dX5_bestLid_19 (rfl) (by rw [bestLidI, if_neg c_14]) (trivial)
