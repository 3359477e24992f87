set_option maxHeartbeats 4000000 in
set_option maxRecDepth 100000 in
theorem e_lamps (l : Launch) (D : va_G) (cI cZ cS : ClassId) (y : Nat) (zt : Int32) (mt : Nat) (ts : Nat) (pl : Nat) (W : Nat) (ll : Nat) (md : Nat) (ms : Nat) (rW : Nat) (mrd : Nat) (mrs : Nat) (mrp : Nat) (mp : Nat) (mb : Nat) (na : Nat) (mk : Nat) (mi : Nat) (sd : Int64) (m1 : Nat) (m2 : Nat) (m3 : Nat) (ml : Nat) (mf : Nat) (mw : Nat) (mn : Nat) (g : Nat → Int32) (L : List Sg) (li : Nat) (ye : Int32) (br : Int32) (A : Nat) (df : Nat → Int32) (dp : Nat → Nat) (ff : Nat → Int32) (hg : PGR g L li ye br) (hv : okL W A L) (hdp : ∀ w, w < W → df w = nI (dp w)) (hdp2 : ∀ w, w < W → 1 ≤ dp w ∧ dp w ≤ 9) (hW4 : W ≤ 4) (hl : li < 256) (hA : A < 900000) : CO l D (TY cI cZ cS) yX5_lamps cX5_lamps 7 (some .int) 2 50 0 0 [.ref y] [(y, .inr (5, [.int zt, .ref mt, .int (nI ts), .int (nI pl), .int (nI W), .int (nI ll), .ref md, .ref ms, .int (nI rW), .ref mrd, .ref mrs, .ref mrp, .ref mp, .ref mb, .int (nI na), .ref mk, .ref mi, .long sd, .ref m1, .ref m2, .ref m3, .ref ml, .ref mf, .ref mw, .ref mn])), (md, .inl (cI, 4, .inl df)), (mp, .inl (cI, 52, .inl g)), (mf, .inl (cI, 64, .inl ff))] (σ := (Nat → Int32)) (fun u => some (.int (lampsI L li dp W))) (fun u => [(y, .inr (5, [.int (nI 0), .ref mt, .int (nI ts), .int (nI pl), .int (nI W), .int (nI ll), .ref md, .ref ms, .int (nI rW), .ref mrd, .ref mrs, .ref mrp, .ref mp, .ref mb, .int (nI na), .ref mk, .ref mi, .long sd, .ref m1, .ref m2, .ref m3, .ref ml, .ref mf, .ref mw, .ref mn])), (md, .inl (cI, 4, .inl df)), (mp, .inl (cI, 52, .inl g)), (mf, .inl (cI, 64, .inl u))]) (fun u => True) := by
  refine CO_mki (by decide +kernel) (Nat.le_of_ble_eq_true rfl) (fun K ok ret => ?_)
  show XX K [(y, .inr (5, [.int zt, .ref mt, .int (nI ts), .int (nI pl), .int (nI W), .int (nI ll), .ref md, .ref ms, .int (nI rW), .ref mrd, .ref mrs, .ref mrp, .ref mp, .ref mb, .int (nI na), .ref mk, .ref mi, .long sd, .ref m1, .ref m2, .ref m3, .ref ml, .ref mf, .ref mw, .ref mn])), (md, .inl (cI, 4, .inl df)), (mp, .inl (cI, 52, .inl g)), (mf, .inl (cI, 64, .inl ff))] [(0, .ref y)] 0 []
  have h8 := hv.1
  have hlw := lawsN_lt hv
  refine x_aload_n ok 0 dX5_lamps_0 rfl rfl ?_
  refine x_iconst ok (nI 0) dX5_lamps_1 (by decide) ?_
  refine pX5_62 ok dX5_lamps_2 0 rfl rfl rfl (Nat.le_of_ble_eq_true rfl) (ws' := [(y, .inr (5, [.int (nI 0), .ref mt, .int (nI ts), .int (nI pl), .int (nI W), .int (nI ll), .ref md, .ref ms, .int (nI rW), .ref mrd, .ref mrs, .ref mrp, .ref mp, .ref mb, .int (nI na), .ref mk, .ref mi, .long sd, .ref m1, .ref m2, .ref m3, .ref ml, .ref mf, .ref mw, .ref mn])), (md, .inl (cI, 4, .inl df)), (mp, .inl (cI, 52, .inl g)), (mf, .inl (cI, 64, .inl ff))]) rfl ?_
  refine x_iconst ok (nI 0) dX5_lamps_5 (by decide) ?_
  refine x_istore_n ok (lv' := [(1, .int (nI 0)), (0, .ref y)]) dX5_lamps_6 rfl (by decide) rfl ?_
  have L_7 : ∀ (n_7 : Nat) (i : Nat) (f9 : Nat → Int32), 64 - i < n_7 → (i ≤ 64) → (∀ s, s < i → f9 s = nI (if s = 0 then 0 else 99)) → XX K [(y, .inr (5, [.int (nI 0), .ref mt, .int (nI ts), .int (nI pl), .int (nI W), .int (nI ll), .ref md, .ref ms, .int (nI rW), .ref mrd, .ref mrs, .ref mrp, .ref mp, .ref mb, .int (nI na), .ref mk, .ref mi, .long sd, .ref m1, .ref m2, .ref m3, .ref ml, .ref mf, .ref mw, .ref mn])), (md, .inl (cI, 4, .inl df)), (mp, .inl (cI, 52, .inl g)), (mf, .inl (cI, 64, .inl f9))] [(1, .int (nI i)), (0, .ref y)] 7 [] := by
    intro n_7
    induction n_7 with
    | zero => intro i f9 hm; exact absurd hm (Nat.not_lt_zero _)
    | succ n_7 ih_7 =>
      intro i f9 hm_7 hi h0
      refine x_iload_n ok 0 dX5_lamps_7 rfl rfl ?_
      refine x_bipush ok (nI 64) dX5_lamps_8 (by decide) ?_
      refine x_icmp_geN ok 35 dX5_lamps_10 (by decide) (by omega) (by omega) (fun c_10 => ?_) (fun c_10 => ?_)
      · skip
        have e_i : 64 = i := by omega
        subst e_i
        refine x_iconst ok (nI 0) dX5_lamps_35 (by decide) ?_
        refine x_istore_n ok (lv' := [(1, .int (nI 0)), (0, .ref y)]) dX5_lamps_36 rfl (by decide) rfl ?_
        have L_37 : ∀ (n_37 : Nat) (r : Nat) (Df : Nat → Nat) (f8 : Nat → Int32), 6 - r < n_37 → (r ≤ 6) → (∀ s, s < 64 → f8 s = nI (Df s)) → (FSnd (lampN L li dp W) Df) → (FCmp (lampN L li dp W) Df r) → XX K [(y, .inr (5, [.int (nI 0), .ref mt, .int (nI ts), .int (nI pl), .int (nI W), .int (nI ll), .ref md, .ref ms, .int (nI rW), .ref mrd, .ref mrs, .ref mrp, .ref mp, .ref mb, .int (nI na), .ref mk, .ref mi, .long sd, .ref m1, .ref m2, .ref m3, .ref ml, .ref mf, .ref mw, .ref mn])), (md, .inl (cI, 4, .inl df)), (mp, .inl (cI, 52, .inl g)), (mf, .inl (cI, 64, .inl f8))] [(1, .int (nI r)), (0, .ref y)] 37 [] := by
          intro n_37
          induction n_37 with
          | zero => intro r Df f8 hm; exact absurd hm (Nat.not_lt_zero _)
          | succ n_37 ih_37 =>
            intro r Df f8 hm_37 hr hf8 hS hC
            refine x_iload_n ok 0 dX5_lamps_37 rfl rfl ?_
            refine x_bipush ok (nI 6) dX5_lamps_38 (by decide) ?_
            refine x_icmp_geN ok 202 dX5_lamps_40 (by decide) (by omega) (by omega) (fun c_40 => ?_) (fun c_40 => ?_)
            · skip
              have e_r : 6 = r := by omega
              subst e_r
              have hDl := (hS _ hlw).1
              refine x_aload_n ok 1 dX5_lamps_202 rfl rfl ?_
              refine gX5_53 ok dX5_lamps_203 0 rfl rfl ?_
              refine x_aload_n ok 1 dX5_lamps_206 rfl rfl ?_
              refine gX5_28 ok dX5_lamps_207 0 rfl rfl ?_
              refine qX5_106 ok (As := [.ref mp]) (st := [.ref mf]) (d_lawsOf l D cI cZ cS mp g L li ye br W A (by first | assumption | omega) (by first | assumption | omega)) rfl (Nat.le_of_ble_eq_true rfl) (Nat.le_of_ble_eq_true rfl) (Nat.le_of_ble_eq_true rfl) dX5_lamps_210 [2] (by decide) rfl (ws' := fun u => [(y, .inr (5, [.int (nI 0), .ref mt, .int (nI ts), .int (nI pl), .int (nI W), .int (nI ll), .ref md, .ref ms, .int (nI rW), .ref mrd, .ref mrs, .ref mrp, .ref mp, .ref mb, .int (nI na), .ref mk, .ref mi, .long sd, .ref m1, .ref m2, .ref m3, .ref ml, .ref mf, .ref mw, .ref mn])), (md, .inl (cI, 4, .inl df)), (mp, .inl (cI, 52, .inl g)), (mf, .inl (cI, 64, .inl f8))]) (st' := fun u => [.int (nI (lawsN L)), .ref mf]) (fun _ => rfl) (fun _ => rfl) (fun _ => rfl) (fun _ _ => ?_)
              refine x_iald ok 3 0 (lawsN L) dX5_lamps_213 rfl rfl (rfl) (by omega) (by decide) (nI (Df (lawsN L))) (hf8 _ hlw) ?_
              refine x_istore_n ok (lv' := [(1, .int (nI (Df (lawsN L)))), (0, .ref y)]) dX5_lamps_214 rfl (by decide) rfl ?_
              refine x_iload_n ok 0 dX5_lamps_215 rfl rfl ?_
              refine x_bipush ok (nI 99) dX5_lamps_216 (by decide) ?_
              refine x_icmp_ltN ok 226 dX5_lamps_218 (by decide) (by omega) (by omega) (fun c_218 => ?_) (fun c_218 => ?_)
              · skip
                refine x_iload_n ok 0 dX5_lamps_226 rfl rfl ?_
                exact ret f8 _ _ _ (nI (Df (lawsN L))) dX5_lamps_227 (rfl) (by rw [← lamps_end hv hS hC, if_neg (by omega)]) (trivial)
              · skip
                refine x_bipush ok ((-9)) dX5_lamps_221 (by decide) ?_
                refine x_goto ok 227 dX5_lamps_223 (by decide) ?_
                exact ret f8 _ _ _ ((-9)) dX5_lamps_227 (rfl) (by rw [← lamps_end hv hS hC, if_pos (by omega)]) (trivial)
            · skip
              refine x_iconst ok (nI 0) dX5_lamps_43 (by decide) ?_
              refine x_istore_n ok (lv' := [(2, .int (nI 0)), (1, .int (nI r)), (0, .ref y)]) dX5_lamps_44 rfl (by decide) rfl ?_
              have L_45 : ∀ (n_45 : Nat) (k : Nat) (Ef : Nat → Nat) (f7 : Nat → Int32), 10 * W - k < n_45 → (k ≤ 10 * W) → (∀ s, s < 64 → f7 s = nI (Ef s)) → (FSnd (lampN L li dp W) Ef) → (FCmp (lampN L li dp W) Ef r) → (FCmq (lampN L li dp W) (lampT L li dp) Ef r k) → XX K [(y, .inr (5, [.int (nI 0), .ref mt, .int (nI ts), .int (nI pl), .int (nI W), .int (nI ll), .ref md, .ref ms, .int (nI rW), .ref mrd, .ref mrs, .ref mrp, .ref mp, .ref mb, .int (nI na), .ref mk, .ref mi, .long sd, .ref m1, .ref m2, .ref m3, .ref ml, .ref mf, .ref mw, .ref mn])), (md, .inl (cI, 4, .inl df)), (mp, .inl (cI, 52, .inl g)), (mf, .inl (cI, 64, .inl f7))] [(2, .int (nI k)), (1, .int (nI r)), (0, .ref y)] 45 [] := by
                intro n_45
                induction n_45 with
                | zero => intro k Ef f7 hm; exact absurd hm (Nat.not_lt_zero _)
                | succ n_45 ih_45 =>
                  intro k Ef f7 hm_45 hk hf7 hS7 hC7 hQ
                  refine x_iload_n ok 0 dX5_lamps_45 rfl rfl ?_
                  refine x_bipush ok (nI 10) dX5_lamps_46 (by decide) ?_
                  refine x_aload_n ok 2 dX5_lamps_48 rfl rfl ?_
                  refine gX5_66 ok dX5_lamps_49 0 rfl rfl ?_
                  refine x_imul ok (nI (W * 10)) dX5_lamps_52 (nN (pk_mul _ _) (by omega)) ?_
                  refine x_icmp_geN ok 196 dX5_lamps_53 (by decide) (by omega) (by omega) (fun c_53 => ?_) (fun c_53 => ?_)
                  · skip
                    have e_k : 10 * W = k := by omega
                    subst e_k
                    refine x_iinc ok (v := nI (r + 1)) (lv' := [(1, .int (nI (r + 1))), (2, .int (nI (10 * W))), (0, .ref y)]) dX5_lamps_196 1 rfl (nN (nI_inc _ 1) (by omega)) (by decide) rfl ?_
                    refine x_goto ok 37 dX5_lamps_199 (by decide) ?_
                    refine x_loc ok [0, 2] (lv' := [(1, .int (nI (r + 1))), (0, .ref y)]) rfl ?_
                    exact ih_37 (r + 1) Ef f7 (by omega) (by first | assumption | omega) (hf7) (hS7) (cmq_cmp hC7 hQ)
                  · skip
                    refine x_iconst ok (nI 0) dX5_lamps_56 (by decide) ?_
                    refine x_istore_n ok (lv' := [(3, .int (nI 0)), (2, .int (nI k)), (1, .int (nI r)), (0, .ref y)]) dX5_lamps_57 rfl (by decide) rfl ?_
                    refine x_aload_n ok 3 dX5_lamps_58 rfl rfl ?_
                    refine x_iload_n ok 1 dX5_lamps_59 rfl rfl ?_
                    refine x_bipush ok (nI 10) dX5_lamps_60 (by decide) ?_
                    refine x_idiv ok (nI (k / 10)) dX5_lamps_62 (by decide) (pk_div (by omega) (by omega) (by omega)) ?_
                    refine x_iload_n ok 1 dX5_lamps_63 rfl rfl ?_
                    refine x_bipush ok (nI 10) dX5_lamps_64 (by decide) ?_
                    refine x_irem ok (nI (k % 10)) dX5_lamps_66 (by decide) (pk_rem (by omega) (by omega) (by omega)) ?_
                    refine x_iconst ok (nI 0) dX5_lamps_67 (by decide) ?_
                    refine x_eq (st' := [.int (bz false), .int (nI (k % 10)), .int (nI (k / 10)), .ref y]) rfl rfl (rfl) ?_
                    refine qX5_155 ok (As := [.int (nI (k / 10)), .int (nI (k % 10)), .int (bz false)]) (st := []) 0 rfl (d_hears l D cI cZ cS y (nI 0) mt ts pl W ll md ms rW mrd mrs mrp mp mb na mk mi sd m1 m2 m3 ml mf mw mn g L li ye br A df dp (k / 10) (k % 10) false (by first | assumption | omega) (by first | assumption | omega) (by first | assumption | omega) (by first | assumption | omega) (by first | assumption | omega) (by first | assumption | omega) (by first | assumption | omega) (by first | assumption | omega) (by first | assumption | omega)) rfl (Nat.le_of_ble_eq_true rfl) (Nat.le_of_ble_eq_true rfl) (Nat.le_of_ble_eq_true rfl) dX5_lamps_68 [0, 1, 2] (by decide) rfl (ws' := fun u => [(y, .inr (5, [.int (nI 0), .ref mt, .int (nI ts), .int (nI pl), .int (nI W), .int (nI ll), .ref md, .ref ms, .int (nI rW), .ref mrd, .ref mrs, .ref mrp, .ref mp, .ref mb, .int (nI na), .ref mk, .ref mi, .long sd, .ref m1, .ref m2, .ref m3, .ref ml, .ref mf, .ref mw, .ref mn])), (md, .inl (cI, 4, .inl df)), (mp, .inl (cI, 52, .inl g)), (mf, .inl (cI, 64, .inl f7))]) (st' := fun u => [.int (nI (heardN L li (dp (k / 10)) false (k / 10) (k % 10)))]) (fun _ => rfl) (fun _ => rfl) (fun _ => rfl) (fun _ _ => ?_)
                    obtain ⟨those, e_those⟩ : ∃ y : Nat, y = heardN L li (dp (k / 10)) false (k / 10) (k % 10) := ⟨_, rfl⟩
                    rw [← e_those]
                    refine x_istore ok (lv' := [(4, .int (nI those)), (3, .int (nI 0)), (2, .int (nI k)), (1, .int (nI r)), (0, .ref y)]) dX5_lamps_71 (by decide) rfl ?_
                    have h256 : those < 256 := by rw [e_those]; exact heard_lt h8
                    refine x_iconst ok (nI 0) dX5_lamps_73 (by decide) ?_
                    refine x_istore ok (lv' := [(5, .int (nI 0)), (4, .int (nI those)), (3, .int (nI 0)), (2, .int (nI k)), (1, .int (nI r)), (0, .ref y)]) dX5_lamps_74 (by decide) rfl ?_
                    have L_76 : ∀ (n_76 : Nat) (s : Nat), L.length - s < n_76 → (s ≤ L.length) → XX K [(y, .inr (5, [.int (nI 0), .ref mt, .int (nI ts), .int (nI pl), .int (nI W), .int (nI ll), .ref md, .ref ms, .int (nI rW), .ref mrd, .ref mrs, .ref mrp, .ref mp, .ref mb, .int (nI na), .ref mk, .ref mi, .long sd, .ref m1, .ref m2, .ref m3, .ref ml, .ref mf, .ref mw, .ref mn])), (md, .inl (cI, 4, .inl df)), (mp, .inl (cI, 52, .inl g)), (mf, .inl (cI, 64, .inl f7))] [(5, .int (nI s)), (4, .int (nI those)), (3, .int (nI (orN (bitN L those) s))), (2, .int (nI k)), (1, .int (nI r)), (0, .ref y)] 76 [] := by
                      intro n_76
                      induction n_76 with
                      | zero => intro s hm; exact absurd hm (Nat.not_lt_zero _)
                      | succ n_76 ih_76 =>
                        intro s hm_76 hs
                        refine x_iload ok 0 dX5_lamps_76 rfl ?_
                        refine x_aload_n ok 5 dX5_lamps_78 rfl rfl ?_
                        refine gX5_28 ok dX5_lamps_79 0 rfl rfl ?_
                        refine x_bipush ok (nI 48) dX5_lamps_82 (by decide) ?_
                        refine x_iald ok 2 0 48 dX5_lamps_84 rfl rfl (rfl) (by omega) (by decide) (nI L.length) (hg.2.1) ?_
                        refine x_icmp_geN ok 123 dX5_lamps_85 (by decide) (by omega) (by omega) (fun c_85 => ?_) (fun c_85 => ?_)
                        · skip
                          have e_s : L.length = s := by omega
                          subst e_s
                          rw [show orN (bitN L those) L.length = (lampT L li dp k) from by rw [e_those]; rfl]
                          have ht64 : lampT L li dp k < 64 := tell_lt hv
                          refine x_iconst ok (nI 0) dX5_lamps_123 (by decide) ?_
                          refine x_istore ok (lv' := [(5, .int (nI 0)), (4, .int (nI those)), (3, .int (nI (lampT L li dp k))), (2, .int (nI k)), (1, .int (nI r)), (0, .ref y)]) dX5_lamps_124 (by decide) rfl ?_
                          have L_126 : ∀ (n_126 : Nat) (i : Nat) (Ff : Nat → Nat) (f6 : Nat → Int32), 64 - i < n_126 → (i ≤ 64) → (∀ s, s < 64 → f6 s = nI (Ff s)) → (FSnd (lampN L li dp W) Ff) → (FCmp (lampN L li dp W) Ff r) → (FCmq (lampN L li dp W) (lampT L li dp) Ff r k) → (FCmi (lampN L li dp W) (lampT L li dp k) Ff r i) → XX K [(y, .inr (5, [.int (nI 0), .ref mt, .int (nI ts), .int (nI pl), .int (nI W), .int (nI ll), .ref md, .ref ms, .int (nI rW), .ref mrd, .ref mrs, .ref mrp, .ref mp, .ref mb, .int (nI na), .ref mk, .ref mi, .long sd, .ref m1, .ref m2, .ref m3, .ref ml, .ref mf, .ref mw, .ref mn])), (md, .inl (cI, 4, .inl df)), (mp, .inl (cI, 52, .inl g)), (mf, .inl (cI, 64, .inl f6))] [(5, .int (nI i)), (4, .int (nI those)), (3, .int (nI (lampT L li dp k))), (2, .int (nI k)), (1, .int (nI r)), (0, .ref y)] 126 [] := by
                            intro n_126
                            induction n_126 with
                            | zero => intro i Ff f6 hm; exact absurd hm (Nat.not_lt_zero _)
                            | succ n_126 ih_126 =>
                              intro i Ff f6 hm_126 hi hf6 hS6 hC6 hQ6 hI6
                              refine x_iload ok 0 dX5_lamps_126 rfl ?_
                              refine x_bipush ok (nI 64) dX5_lamps_128 (by decide) ?_
                              refine x_icmp_geN ok 190 dX5_lamps_130 (by decide) (by omega) (by omega) (fun c_130 => ?_) (fun c_130 => ?_)
                              · skip
                                have e_i : 64 = i := by omega
                                subst e_i
                                refine x_iinc ok (v := nI (k + 1)) (lv' := [(2, .int (nI (k + 1))), (5, .int (nI 64)), (4, .int (nI those)), (3, .int (nI (lampT L li dp k))), (1, .int (nI r)), (0, .ref y)]) dX5_lamps_190 3 rfl (nN (nI_inc _ 1) (by omega)) (by decide) rfl ?_
                                refine x_goto ok 45 dX5_lamps_193 (by decide) ?_
                                refine x_loc ok [0, 4, 5] (lv' := [(2, .int (nI (k + 1))), (1, .int (nI r)), (0, .ref y)]) rfl ?_
                                exact ih_45 (k + 1) Ff f6 (by omega) (by first | assumption | omega) (hf6) (hS6) (hC6) (cmi_cmq hQ6 hI6)
                              · skip
                                have hFi := (hS6 i (by omega)).1
                                refine x_iload ok 0 dX5_lamps_133 rfl ?_
                                refine x_iload_n ok 2 dX5_lamps_135 rfl rfl ?_
                                refine x_ior ok (nI (i ||| lampT L li dp k)) dX5_lamps_136 (fa_or _ _) ?_
                                obtain ⟨to, e_to⟩ : ∃ y : Nat, y = (i ||| lampT L li dp k) := ⟨_, rfl⟩
                                rw [← e_to]
                                refine x_istore ok (lv' := [(6, .int (nI to)), (5, .int (nI i)), (4, .int (nI those)), (3, .int (nI (lampT L li dp k))), (2, .int (nI k)), (1, .int (nI r)), (0, .ref y)]) dX5_lamps_137 (by decide) rfl ?_
                                have hto : to < 64 := by rw [e_to]; exact or_lt64 (by omega) ht64
                                have hFt := (hS6 to hto).1
                                refine x_aload_n ok 6 dX5_lamps_139 rfl rfl ?_
                                refine gX5_53 ok dX5_lamps_140 0 rfl rfl ?_
                                refine x_iload ok 0 dX5_lamps_143 rfl ?_
                                refine x_aload_n ok 6 dX5_lamps_145 rfl rfl ?_
                                refine gX5_53 ok dX5_lamps_146 0 rfl rfl ?_
                                refine x_iload ok 1 dX5_lamps_149 rfl ?_
                                refine x_iald ok 3 0 i dX5_lamps_151 rfl rfl (rfl) (by omega) (by decide) (nI (Ff i)) (hf6 i (by omega)) ?_
                                refine x_iconst ok (nI 1) dX5_lamps_152 (by decide) ?_
                                refine x_iadd ok (nI (Ff i + 1)) dX5_lamps_153 (nN (nI_add _ _) (by omega)) ?_
                                refine x_aload_n ok 6 dX5_lamps_154 rfl rfl ?_
                                refine gX5_53 ok dX5_lamps_155 0 rfl rfl ?_
                                refine x_iload ok 0 dX5_lamps_158 rfl ?_
                                refine x_iald ok 3 0 to dX5_lamps_160 rfl rfl (rfl) (by omega) (by decide) (nI (Ff to)) (hf6 to hto) ?_
                                have J_183 : ∀ (v183_1 : Nat), v183_1 = (if (Ff to) ≤ (Ff i + 1) then Ff to else Ff i + 1) → XX K [(y, .inr (5, [.int (nI 0), .ref mt, .int (nI ts), .int (nI pl), .int (nI W), .int (nI ll), .ref md, .ref ms, .int (nI rW), .ref mrd, .ref mrs, .ref mrp, .ref mp, .ref mb, .int (nI na), .ref mk, .ref mi, .long sd, .ref m1, .ref m2, .ref m3, .ref ml, .ref mf, .ref mw, .ref mn])), (md, .inl (cI, 4, .inl df)), (mp, .inl (cI, 52, .inl g)), (mf, .inl (cI, 64, .inl f6))] [(6, .int (nI to)), (5, .int (nI i)), (4, .int (nI those)), (3, .int (nI (lampT L li dp k))), (2, .int (nI k)), (1, .int (nI r)), (0, .ref y)] 183 [.int (nI v183_1), .int (nI to), .ref mf] := by
                                  intro v183_1 e_v183_1
                                  refine x_iast ok 3 0 to (ws' := [(y, .inr (5, [.int (nI 0), .ref mt, .int (nI ts), .int (nI pl), .int (nI W), .int (nI ll), .ref md, .ref ms, .int (nI rW), .ref mrd, .ref mrs, .ref mrp, .ref mp, .ref mb, .int (nI na), .ref mk, .ref mi, .long sd, .ref m1, .ref m2, .ref m3, .ref ml, .ref mf, .ref mw, .ref mn])), (md, .inl (cI, 4, .inl df)), (mp, .inl (cI, 52, .inl g)), (mf, .inl (cI, 64, .inl (upd f6 to (nI v183_1))))]) dX5_lamps_183 rfl rfl (rfl) (by omega) (by decide) (rfl) rfl ?_
                                  refine x_iinc ok (v := nI (i + 1)) (lv' := [(5, .int (nI (i + 1))), (6, .int (nI to)), (4, .int (nI those)), (3, .int (nI (lampT L li dp k))), (2, .int (nI k)), (1, .int (nI r)), (0, .ref y)]) dX5_lamps_184 1 rfl (nN (nI_inc _ 1) (by omega)) (by decide) rfl ?_
                                  refine x_goto ok 126 dX5_lamps_187 (by decide) ?_
                                  refine x_loc ok [0, 2, 3, 4, 5, 6] (lv' := [(5, .int (nI (i + 1))), (4, .int (nI those)), (3, .int (nI (lampT L li dp k))), (2, .int (nI k)), (1, .int (nI r)), (0, .ref y)]) rfl ?_
                                  exact ih_126 (i + 1) (rlx Ff i (lampT L li dp k)) (upd f6 to (nI v183_1)) (by omega) (by first | assumption | omega) (fun s hs => by by_cases e : s = to; (rw [e, upd_s, e_v183_1, rlx, if_pos e_to, ← e_to]; congr 1; split <;> split <;> omega); (rw [upd_n e, rlx, if_neg (fun z => e (z.trans e_to.symm))]; exact hf6 s hs)) (rlx_snd hS6 (by omega) ht64 (lampT_bit (by omega))) (rlx_cmp hC6) (rlx_cmq hQ6) (rlx_cmi hI6 hC6 (by omega))
                                refine x_icmp_geN ok 176 dX5_lamps_161 (by decide) (by omega) (by omega) (fun c_161 => ?_) (fun c_161 => ?_)
                                · skip
                                  refine x_aload_n ok 6 dX5_lamps_176 rfl rfl ?_
                                  refine gX5_53 ok dX5_lamps_177 0 rfl rfl ?_
                                  refine x_iload ok 0 dX5_lamps_180 rfl ?_
                                  refine x_iald ok 3 0 to dX5_lamps_182 rfl rfl (rfl) (by omega) (by decide) (nI (Ff to)) (hf6 to hto) ?_
                                  exact J_183 (Ff to) (by first | rfl | (simp only [if_pos c_161]; done) | (simp [c_161]; done))
                                · skip
                                  refine x_aload_n ok 6 dX5_lamps_164 rfl rfl ?_
                                  refine gX5_53 ok dX5_lamps_165 0 rfl rfl ?_
                                  refine x_iload ok 1 dX5_lamps_168 rfl ?_
                                  refine x_iald ok 3 0 i dX5_lamps_170 rfl rfl (rfl) (by omega) (by decide) (nI (Ff i)) (hf6 i (by omega)) ?_
                                  refine x_iconst ok (nI 1) dX5_lamps_171 (by decide) ?_
                                  refine x_iadd ok (nI (Ff i + 1)) dX5_lamps_172 (nN (nI_add _ _) (by omega)) ?_
                                  refine x_goto ok 183 dX5_lamps_173 (by decide) ?_
                                  exact J_183 (Ff i + 1) (by first | rfl | (simp only [if_neg c_161]; done) | (simp [c_161]; done))
                          exact L_126 _ 0 Ef f7 (Nat.lt_succ_self _) (by first | assumption | omega) (hf7) (hS7) (hC7) (hQ) (fun s hs => absurd hs (Nat.not_lt_zero s))
                        · skip
                          obtain ⟨v0, v1, v2, v2b, v3, v4, v5⟩ := hv.2 s (by omega)
                          refine x_iload_n ok 2 dX5_lamps_88 rfl rfl ?_
                          refine x_iload ok 1 dX5_lamps_89 rfl ?_
                          refine x_iload ok 0 dX5_lamps_91 rfl ?_
                          refine qX5_125 ok (As := [.int (nI those), .int (nI s)]) (st := [.int (nI (orN (bitN L those) s))]) (d_has l D cI cZ cS those s (by first | assumption | omega) (by first | assumption | omega)) rfl (Nat.le_of_ble_eq_true rfl) (Nat.le_of_ble_eq_true rfl) (Nat.le_of_ble_eq_true rfl) dX5_lamps_93 [] (by decide) rfl (ws' := fun u => [(y, .inr (5, [.int (nI 0), .ref mt, .int (nI ts), .int (nI pl), .int (nI W), .int (nI ll), .ref md, .ref ms, .int (nI rW), .ref mrd, .ref mrs, .ref mrp, .ref mp, .ref mb, .int (nI na), .ref mk, .ref mi, .long sd, .ref m1, .ref m2, .ref m3, .ref ml, .ref mf, .ref mw, .ref mn])), (md, .inl (cI, 4, .inl df)), (mp, .inl (cI, 52, .inl g)), (mf, .inl (cI, 64, .inl f7))]) (st' := fun u => [.int (bz (those.testBit s)), .int (nI (orN (bitN L those) s))]) (fun _ => rfl) (fun _ => rfl) (fun _ => rfl) (fun _ _ => ?_)
                          have J_115 : ∀ (v115_1 : Nat), v115_1 = (if those.testBit s = true then 2 ^ sg L s 0 else 0) → XX K [(y, .inr (5, [.int (nI 0), .ref mt, .int (nI ts), .int (nI pl), .int (nI W), .int (nI ll), .ref md, .ref ms, .int (nI rW), .ref mrd, .ref mrs, .ref mrp, .ref mp, .ref mb, .int (nI na), .ref mk, .ref mi, .long sd, .ref m1, .ref m2, .ref m3, .ref ml, .ref mf, .ref mw, .ref mn])), (md, .inl (cI, 4, .inl df)), (mp, .inl (cI, 52, .inl g)), (mf, .inl (cI, 64, .inl f7))] [(5, .int (nI s)), (4, .int (nI those)), (3, .int (nI (orN (bitN L those) s))), (2, .int (nI k)), (1, .int (nI r)), (0, .ref y)] 115 [.int (nI v115_1), .int (nI (orN (bitN L those) s))] := by
                            intro v115_1 e_v115_1
                            refine x_ior ok (nI (orN (bitN L those) (s + 1))) dX5_lamps_115 ((fa_or _ _).trans (congrArg nI (by rw [e_v115_1, orN, bitN]; cases those.testBit s <;> simp))) ?_
                            refine x_istore_n ok (lv' := [(3, .int (nI (orN (bitN L those) (s + 1)))), (5, .int (nI s)), (4, .int (nI those)), (2, .int (nI k)), (1, .int (nI r)), (0, .ref y)]) dX5_lamps_116 rfl (by decide) rfl ?_
                            refine x_iinc ok (v := nI (s + 1)) (lv' := [(5, .int (nI (s + 1))), (3, .int (nI (orN (bitN L those) (s + 1)))), (4, .int (nI those)), (2, .int (nI k)), (1, .int (nI r)), (0, .ref y)]) dX5_lamps_117 1 rfl (nN (nI_inc _ 1) (by omega)) (by decide) rfl ?_
                            refine x_goto ok 76 dX5_lamps_120 (by decide) ?_
                            refine x_loc ok [0, 2, 1, 3, 4, 5] (lv' := [(5, .int (nI (s + 1))), (4, .int (nI those)), (3, .int (nI (orN (bitN L those) (s + 1)))), (2, .int (nI k)), (1, .int (nI r)), (0, .ref y)]) rfl ?_
                            exact ih_76 (s + 1) (by omega) (by first | assumption | omega)
                          refine x_if_eqB ok 114 dX5_lamps_96 (by decide) (fun c_96 => ?_) (fun c_96 => ?_)
                          · skip
                            refine x_iconst ok (nI 0) dX5_lamps_114 (by decide) ?_
                            exact J_115 0 (by first | rfl | (simp only [if_neg c_96]; done) | (simp [c_96]; done))
                          · skip
                            refine x_iconst ok (nI 1) dX5_lamps_99 (by decide) ?_
                            refine x_aload_n ok 5 dX5_lamps_100 rfl rfl ?_
                            refine gX5_28 ok dX5_lamps_101 0 rfl rfl ?_
                            refine x_bipush ok (nI 6) dX5_lamps_104 (by decide) ?_
                            refine x_iload ok 0 dX5_lamps_106 rfl ?_
                            refine x_imul ok (nI (s * 6)) dX5_lamps_108 (nN (pk_mul _ _) (by omega)) ?_
                            refine x_iald ok 2 0 (s * 6) dX5_lamps_109 rfl rfl (rfl) (by omega) (by decide) (nI (sg L s 0)) (hg.1 s 0 (by omega) (by omega)) ?_
                            refine x_ishl ok (nI (2 ^ sg L s 0)) dX5_lamps_110 (shl1 _ (by omega)) ?_
                            refine x_goto ok 115 dX5_lamps_111 (by decide) ?_
                            exact J_115 (2 ^ sg L s 0) (by first | rfl | (simp only [if_pos c_96]; done) | (simp [c_96]; done))
                    exact L_76 _ 0 (Nat.lt_succ_self _) (by first | assumption | omega)
              exact L_45 _ 0 Df f8 (Nat.lt_succ_self _) (by first | assumption | omega) (hf8) (hS) (hC) (fun p s hp => absurd hp (Nat.not_lt_zero p))
        exact L_37 _ 0 (fun s => if s = 0 then 0 else 99) f9 (Nat.lt_succ_self _) (by first | assumption | omega) (h0) (far_0.1) (far_0.2)
      · skip
        refine x_aload_n ok 1 dX5_lamps_13 rfl rfl ?_
        refine gX5_53 ok dX5_lamps_14 0 rfl rfl ?_
        refine x_iload_n ok 0 dX5_lamps_17 rfl rfl ?_
        refine x_iload_n ok 0 dX5_lamps_18 rfl rfl ?_
        have J_28 : ∀ (v28_1 : Nat), v28_1 = (if i = 0 then 0 else 99) → XX K [(y, .inr (5, [.int (nI 0), .ref mt, .int (nI ts), .int (nI pl), .int (nI W), .int (nI ll), .ref md, .ref ms, .int (nI rW), .ref mrd, .ref mrs, .ref mrp, .ref mp, .ref mb, .int (nI na), .ref mk, .ref mi, .long sd, .ref m1, .ref m2, .ref m3, .ref ml, .ref mf, .ref mw, .ref mn])), (md, .inl (cI, 4, .inl df)), (mp, .inl (cI, 52, .inl g)), (mf, .inl (cI, 64, .inl f9))] [(1, .int (nI i)), (0, .ref y)] 28 [.int (nI v28_1), .int (nI i), .ref mf] := by
          intro v28_1 e_v28_1
          refine x_iast ok 3 0 i (ws' := [(y, .inr (5, [.int (nI 0), .ref mt, .int (nI ts), .int (nI pl), .int (nI W), .int (nI ll), .ref md, .ref ms, .int (nI rW), .ref mrd, .ref mrs, .ref mrp, .ref mp, .ref mb, .int (nI na), .ref mk, .ref mi, .long sd, .ref m1, .ref m2, .ref m3, .ref ml, .ref mf, .ref mw, .ref mn])), (md, .inl (cI, 4, .inl df)), (mp, .inl (cI, 52, .inl g)), (mf, .inl (cI, 64, .inl (upd f9 i (nI v28_1))))]) dX5_lamps_28 rfl rfl (rfl) (by omega) (by decide) (rfl) rfl ?_
          refine x_iinc ok (v := nI (i + 1)) (lv' := [(1, .int (nI (i + 1))), (0, .ref y)]) dX5_lamps_29 0 rfl (nN (nI_inc _ 1) (by omega)) (by decide) rfl ?_
          refine x_goto ok 7 dX5_lamps_32 (by decide) ?_
          exact ih_7 (i + 1) (upd f9 i (nI v28_1)) (by omega) (by first | assumption | omega) (fun s hs => by rcases Nat.lt_or_ge s i with q | q; (rw [upd_n (by omega)]; exact h0 s q); (rw [show s = i by omega, upd_s, e_v28_1]))
        refine x_if_neN ok 26 dX5_lamps_19 (by decide) (by omega) (fun c_19 => ?_) (fun c_19 => ?_)
        · skip
          refine x_bipush ok (nI 99) dX5_lamps_26 (by decide) ?_
          exact J_28 99 (by first | rfl | (simp only [if_neg c_19]; done) | (simp [c_19]; done))
        · skip
          refine x_iconst ok (nI 0) dX5_lamps_22 (by decide) ?_
          refine x_goto ok 28 dX5_lamps_23 (by decide) ?_
          exact J_28 0 (by first | rfl | (simp only [if_pos c_19]; done) | (simp [c_19]; done))
  exact L_7 _ 0 ff (Nat.lt_succ_self _) (by first | assumption | omega) (fun s hs => absurd hs (Nat.not_lt_zero s))

set_option maxHeartbeats 4000000 in
set_option maxRecDepth 100000 in
theorem e_lords (l : Launch) (D : va_G) (cI cZ cS : ClassId) (y : Nat) (zt : Int32) (mt : Nat) (ts : Nat) (pl : Nat) (W : Nat) (ll : Nat) (md : Nat) (ms : Nat) (rW : Nat) (mrd : Nat) (mrs : Nat) (mrp : Nat) (mp : Nat) (mb : Nat) (na : Nat) (mk : Nat) (mi : Nat) (sd : Int64) (m1 : Nat) (m2 : Nat) (m3 : Nat) (ml : Nat) (mf : Nat) (mw : Nat) (mn : Nat) (sf : Nat → Int32) (st : Nat → Nat) (g : Nat → Int32) (L : List Sg) (li : Nat) (ye : Int32) (br : Int32) (A : Nat) (tf3 : Nat → Int32) (lf : Nat → Int32) (wf : Nat → Int32) (nf : Nat → Int32) (z : Int32) (z2 : Int32) (hst : ∀ w, w < W → sf w = nI (st w)) (hst2 : ∀ w, w < W → st w ≤ 2) (hg : PGR g L li ye br) (hv : okL W A L) (hW4 : W ≤ 4) (hlW : li < 2 ^ W) (hA : A < 900000) : CO l D (TY cI cZ cS) yX5_lords cX5_lords 11 (some .int) 5 112 0 0 [.ref y, .int z, .int z2] [(y, .inr (5, [.int zt, .ref mt, .int (nI ts), .int (nI pl), .int (nI W), .int (nI ll), .ref md, .ref ms, .int (nI rW), .ref mrd, .ref mrs, .ref mrp, .ref mp, .ref mb, .int (nI na), .ref mk, .ref mi, .long sd, .ref m1, .ref m2, .ref m3, .ref ml, .ref mf, .ref mw, .ref mn])), (ms, .inl (cI, 4, .inl sf)), (mp, .inl (cI, 52, .inl g)), (m3, .inl (cI, 52, .inl tf3)), (ml, .inl (cI, 8, .inl lf)), (mw, .inl (cI, 16, .inl wf)), (mn, .inl (cI, 16, .inl nf))] (σ := (Nat → Int32) × (Nat → Int32) × (Nat → Int32) × (Nat → Int32)) (fun u => some (.int (lordsI ll st W li L z z2))) (fun u => [(y, .inr (5, [.int (nI 0), .ref mt, .int (nI ts), .int (nI pl), .int (nI W), .int (nI ll), .ref md, .ref ms, .int (nI rW), .ref mrd, .ref mrs, .ref mrp, .ref mp, .ref mb, .int (nI na), .ref mk, .ref mi, .long sd, .ref m1, .ref m2, .ref m3, .ref ml, .ref mf, .ref mw, .ref mn])), (ms, .inl (cI, 4, .inl sf)), (mp, .inl (cI, 52, .inl g)), (m3, .inl (cI, 52, .inl u.1)), (ml, .inl (cI, 8, .inl u.2.1)), (mw, .inl (cI, 16, .inl u.2.2.1)), (mn, .inl (cI, 16, .inl u.2.2.2))]) (fun u => True) := by
  refine CO_mki (by decide +kernel) (Nat.le_of_ble_eq_true rfl) (fun K ok ret => ?_)
  show XX K [(y, .inr (5, [.int zt, .ref mt, .int (nI ts), .int (nI pl), .int (nI W), .int (nI ll), .ref md, .ref ms, .int (nI rW), .ref mrd, .ref mrs, .ref mrp, .ref mp, .ref mb, .int (nI na), .ref mk, .ref mi, .long sd, .ref m1, .ref m2, .ref m3, .ref ml, .ref mf, .ref mw, .ref mn])), (ms, .inl (cI, 4, .inl sf)), (mp, .inl (cI, 52, .inl g)), (m3, .inl (cI, 52, .inl tf3)), (ml, .inl (cI, 8, .inl lf)), (mw, .inl (cI, 16, .inl wf)), (mn, .inl (cI, 16, .inl nf))] [(0, .ref y), (1, .int z), (2, .int z2)] 0 []
  have h8 := hv.1
  have hp16 : 2 ^ W ≤ 16 := (Nat.pow_le_pow_right (by omega) hW4 : 2 ^ W ≤ 2 ^ 4)
  have hp1 : 1 ≤ 2 ^ W := Nat.one_le_two_pow
  refine x_aload_n ok 0 dX5_lords_0 rfl rfl ?_
  refine x_iconst ok (nI 0) dX5_lords_1 (by decide) ?_
  refine pX5_62 ok dX5_lords_2 0 rfl rfl rfl (Nat.le_of_ble_eq_true rfl) (ws' := [(y, .inr (5, [.int (nI 0), .ref mt, .int (nI ts), .int (nI pl), .int (nI W), .int (nI ll), .ref md, .ref ms, .int (nI rW), .ref mrd, .ref mrs, .ref mrp, .ref mp, .ref mb, .int (nI na), .ref mk, .ref mi, .long sd, .ref m1, .ref m2, .ref m3, .ref ml, .ref mf, .ref mw, .ref mn])), (ms, .inl (cI, 4, .inl sf)), (mp, .inl (cI, 52, .inl g)), (m3, .inl (cI, 52, .inl tf3)), (ml, .inl (cI, 8, .inl lf)), (mw, .inl (cI, 16, .inl wf)), (mn, .inl (cI, 16, .inl nf))]) rfl ?_
  refine x_iload_n ok 1 dX5_lords_5 rfl rfl ?_
  refine x_i2l ok ((z).toInt64) dX5_lords_6 rfl ?_
  refine x_lconst ok ((nI 1).toInt64) dX5_lords_7 (by decide) ?_
  refine x_ldc2v ok KX5_145 (v' := (nI 3).toInt64) (by decide) dX5_lords_8 ?_
  refine qX5_69 ok (As := [.long ((z).toInt64), .long ((nI 1).toInt64), .long ((nI 3).toInt64)]) (st := []) (d_in l D cI cZ cS z (nI 1) (nI 3) ) rfl (Nat.le_of_ble_eq_true rfl) (Nat.le_of_ble_eq_true rfl) (Nat.le_of_ble_eq_true rfl) dX5_lords_11 [] (by decide) rfl (ws' := fun u => [(y, .inr (5, [.int (nI 0), .ref mt, .int (nI ts), .int (nI pl), .int (nI W), .int (nI ll), .ref md, .ref ms, .int (nI rW), .ref mrd, .ref mrs, .ref mrp, .ref mp, .ref mb, .int (nI na), .ref mk, .ref mi, .long sd, .ref m1, .ref m2, .ref m3, .ref ml, .ref mf, .ref mw, .ref mn])), (ms, .inl (cI, 4, .inl sf)), (mp, .inl (cI, 52, .inl g)), (m3, .inl (cI, 52, .inl tf3)), (ml, .inl (cI, 8, .inl lf)), (mw, .inl (cI, 16, .inl wf)), (mn, .inl (cI, 16, .inl nf))]) (st' := fun u => [.int (bz (inB z (nI 1) (nI 3)))]) (fun _ => rfl) (fun _ => rfl) (fun _ => rfl) (fun _ _ => ?_)
  refine x_if_eqB ok 27 dX5_lords_14 (by decide) (fun c_14 => ?_) (fun c_14 => ?_)
  · skip
    refine x_bipush ok ((-2)) dX5_lords_27 (by decide) ?_
    exact ret (tf3, lf, wf, nf) _ _ _ ((-2)) dX5_lords_29 (rfl) (by rw [lordsI, if_neg (fun x => c_14 x.1)]) (trivial)
  · skip
    obtain ⟨j, hj0, hj, e_z⟩ := inB_t (by omega) (by omega) c_14
    subst e_z
    have ej := cl_n (show j < 2 ^ 31 by omega)
    refine x_iload_n ok 2 dX5_lords_17 rfl rfl ?_
    refine x_i2l ok ((z2).toInt64) dX5_lords_18 rfl ?_
    refine x_lconst ok ((nI 0).toInt64) dX5_lords_19 (by decide) ?_
    refine x_lconst ok ((nI 1).toInt64) dX5_lords_20 (by decide) ?_
    refine qX5_69 ok (As := [.long ((z2).toInt64), .long ((nI 0).toInt64), .long ((nI 1).toInt64)]) (st := []) (d_in l D cI cZ cS z2 (nI 0) (nI 1) ) rfl (Nat.le_of_ble_eq_true rfl) (Nat.le_of_ble_eq_true rfl) (Nat.le_of_ble_eq_true rfl) dX5_lords_21 [] (by decide) rfl (ws' := fun u => [(y, .inr (5, [.int (nI 0), .ref mt, .int (nI ts), .int (nI pl), .int (nI W), .int (nI ll), .ref md, .ref ms, .int (nI rW), .ref mrd, .ref mrs, .ref mrp, .ref mp, .ref mb, .int (nI na), .ref mk, .ref mi, .long sd, .ref m1, .ref m2, .ref m3, .ref ml, .ref mf, .ref mw, .ref mn])), (ms, .inl (cI, 4, .inl sf)), (mp, .inl (cI, 52, .inl g)), (m3, .inl (cI, 52, .inl tf3)), (ml, .inl (cI, 8, .inl lf)), (mw, .inl (cI, 16, .inl wf)), (mn, .inl (cI, 16, .inl nf))]) (st' := fun u => [.int (bz (inB z2 (nI 0) (nI 1)))]) (fun _ => rfl) (fun _ => rfl) (fun _ => rfl) (fun _ _ => ?_)
    refine x_if_neB ok 30 dX5_lords_24 (by decide) (fun c_24 => ?_) (fun c_24 => ?_)
    · skip
      obtain ⟨q, hq0, hq, e_z2⟩ := inB_t (by omega) (by omega) c_24
      subst e_z2
      have eq := cl_n (show q < 2 ^ 31 by omega)
      refine x_iconst ok (nI 0) dX5_lords_30 (by decide) ?_
      refine x_istore_n ok (lv' := [(3, .int (nI 0)), (0, .ref y), (1, .int (nI j)), (2, .int (nI q))]) dX5_lords_31 rfl (by decide) rfl ?_
      have L_32 : ∀ (n_32 : Nat) (i : Nat) (f9 : Nat → Int32) (l9 : Nat → Int32) (w9 : Nat → Int32), 2 ^ W - i < n_32 → (i ≤ 2 ^ W) → (∀ q, q < i → w9 q = nI (lw0 ll st W L q)) → XX K [(y, .inr (5, [.int (nI 0), .ref mt, .int (nI ts), .int (nI pl), .int (nI W), .int (nI ll), .ref md, .ref ms, .int (nI rW), .ref mrd, .ref mrs, .ref mrp, .ref mp, .ref mb, .int (nI na), .ref mk, .ref mi, .long sd, .ref m1, .ref m2, .ref m3, .ref ml, .ref mf, .ref mw, .ref mn])), (ms, .inl (cI, 4, .inl sf)), (mp, .inl (cI, 52, .inl g)), (m3, .inl (cI, 52, .inl f9)), (ml, .inl (cI, 8, .inl l9)), (mw, .inl (cI, 16, .inl w9)), (mn, .inl (cI, 16, .inl nf))] [(3, .int (nI i)), (0, .ref y), (1, .int (nI j)), (2, .int (nI q))] 32 [] := by
        intro n_32
        induction n_32 with
        | zero => intro i f9 l9 w9 hm; exact absurd hm (Nat.not_lt_zero _)
        | succ n_32 ih_32 =>
          intro i f9 l9 w9 hm_32 hi hw9
          refine x_iload_n ok 0 dX5_lords_32 rfl rfl ?_
          refine x_iconst ok (nI 1) dX5_lords_33 (by decide) ?_
          refine x_aload_n ok 1 dX5_lords_34 rfl rfl ?_
          refine gX5_66 ok dX5_lords_35 0 rfl rfl ?_
          refine x_ishl ok (nI (2 ^ W)) dX5_lords_38 (shl1 W (by omega)) ?_
          refine x_icmp_geN ok 60 dX5_lords_39 (by decide) (by omega) (by omega) (fun c_39 => ?_) (fun c_39 => ?_)
          · skip
            have e_i : 2 ^ W = i := by omega
            subst e_i
            refine x_iconst ok (nI 0) dX5_lords_60 (by decide) ?_
            refine x_istore_n ok (lv' := [(3, .int (nI 0)), (0, .ref y), (1, .int (nI j)), (2, .int (nI q))]) dX5_lords_61 rfl (by decide) rfl ?_
            refine x_iload_n ok 2 dX5_lords_62 rfl rfl ?_
            refine x_iconst ok (nI 1) dX5_lords_63 (by decide) ?_
            refine x_isub ok (((nI j) - (nI 1))) dX5_lords_64 (rfl) ?_
            refine x_istore ok (lv' := [(4, .int ((nI j) - (nI 1))), (3, .int (nI 0)), (0, .ref y), (1, .int (nI j)), (2, .int (nI q))]) dX5_lords_65 (by decide) rfl ?_
            have L_67 : ∀ (n_67 : Nat) (t : Nat) (wv : Nat → Nat) (fi : Nat) (w8 : Nat → Int32) (n8 : Nat → Int32), t < n_67 → (t ≤ 3) → (∀ q, q < 2 ^ W → w8 q = nI (wv q)) → (∀ q, wv q ≤ 6) → ((1 ≤ t ∧ ∀ q, lrT W wv t q = (lrT W (lw0 ll st W L) j) q) ∨ (t = 0 ∧ (∀ q, wv q = lwT true W (lrT W (lw0 ll st W L) j) q) ∧ fi = (lmvF (lrT W (lw0 ll st W L) j) li (W + 1)).2)) → XX K [(y, .inr (5, [.int (nI 0), .ref mt, .int (nI ts), .int (nI pl), .int (nI W), .int (nI ll), .ref md, .ref ms, .int (nI rW), .ref mrd, .ref mrs, .ref mrp, .ref mp, .ref mb, .int (nI na), .ref mk, .ref mi, .long sd, .ref m1, .ref m2, .ref m3, .ref ml, .ref mf, .ref mw, .ref mn])), (ms, .inl (cI, 4, .inl sf)), (mp, .inl (cI, 52, .inl g)), (m3, .inl (cI, 52, .inl f9)), (ml, .inl (cI, 8, .inl l9)), (mw, .inl (cI, 16, .inl w8)), (mn, .inl (cI, 16, .inl n8))] [(4, .int ((nI t) - (nI 1))), (3, .int (nI fi)), (0, .ref y), (1, .int (nI j)), (2, .int (nI q))] 67 [] := by
              intro n_67
              induction n_67 with
              | zero => intro t wv fi w8 n8 hm; exact absurd hm (Nat.not_lt_zero _)
              | succ n_67 ih_67 =>
                intro t wv fi w8 n8 hm_67 ht hw8 hwv hlr
                refine x_iload ok 0 dX5_lords_67 rfl ?_
                refine x_if_lt ok 275 dX5_lords_69 (by decide) (fun c_69 => ?_) (fun c_69 => ?_)
                · skip
                  have et : t = 0 := by rcases Nat.eq_zero_or_pos t with q | q; (exact q); (rw [pk_sub q] at c_69; exact absurd c_69 (nI_nn _ (by omega)))
                  have hf0 := hlr.resolve_left (fun z => by omega)
                  refine x_iload_n ok 4 dX5_lords_275 rfl rfl ?_
                  refine x_if_neN ok 294 dX5_lords_276 (by decide) (by omega) (fun c_276 => ?_) (fun c_276 => ?_)
                  · skip
                    refine x_iload_n ok 1 dX5_lords_294 rfl rfl ?_
                    exact ret (f9, l9, w8, n8) _ _ _ (nI fi) dX5_lords_295 (rfl) (by rw [lordsI, if_pos ⟨c_14, c_24⟩, ej]; simp only; rw [if_neg (fun z => c_276 ((nI_eq (by omega) (by omega)).mp z)), hf0.2.2]) (trivial)
                  · skip
                    refine x_aload_n ok 2 dX5_lords_279 rfl rfl ?_
                    refine gX5_56 ok dX5_lords_280 0 rfl rfl ?_
                    refine x_aload_n ok 2 dX5_lords_283 rfl rfl ?_
                    refine gX5_28 ok dX5_lords_284 0 rfl rfl ?_
                    refine x_bipush ok (nI 49) dX5_lords_287 (by decide) ?_
                    refine x_iald ok 2 0 49 dX5_lords_289 rfl rfl (rfl) (by omega) (by decide) (nI li) (hg.2.2.1) ?_
                    refine x_iald ok 5 0 li dX5_lords_290 rfl rfl (rfl) (by omega) (by decide) (nI (wv li)) (hw8 li hlW) ?_
                    refine x_goto ok 295 dX5_lords_291 (by decide) ?_
                    exact ret (f9, l9, w8, n8) _ _ _ (nI (wv li)) dX5_lords_295 (rfl) (by rw [lordsI, if_pos ⟨c_14, c_24⟩, ej, c_276, hf0.2.1 li]; show zI (lmvF _ li (W + 1)).1 = nI (lwT true W _ li); rw [lmv_max]; rfl) (trivial)
                · skip
                  have ht1 : 1 ≤ t := by rcases Nat.eq_zero_or_pos t with q | q; (rw [q] at c_69; exact absurd (by decide) c_69); (exact q)
                  rw [show (nI t) - (nI 1) = nI (t - 1) from pk_sub ht1]
                  have hlr1 : ∀ q, lrT W wv t q = (lrT W (lw0 ll st W L) j) q := by rcases hlr with h | h; (exact h.2); (omega)
                  obtain ⟨most, hmo⟩ : ∃ b : Bool, b = decide (t % 2 = 1) := ⟨_, rfl⟩
                  refine x_iconst ok (nI 0) dX5_lords_72 (by decide) ?_
                  refine x_istore ok (lv' := [(5, .int (nI 0)), (4, .int (nI (t - 1))), (3, .int (nI fi)), (0, .ref y), (1, .int (nI j)), (2, .int (nI q))]) dX5_lords_73 (by decide) rfl ?_
                  have L_75 : ∀ (n_75 : Nat) (i : Nat) (fj : Nat) (n7 : Nat → Int32), 2 ^ W - i < n_75 → (i ≤ 2 ^ W) → (∀ q, q < i → n7 q = nI (lwT most W wv q)) → (t = 1 → li < i → fj = (lmvF wv li (W + 1)).2) → XX K [(y, .inr (5, [.int (nI 0), .ref mt, .int (nI ts), .int (nI pl), .int (nI W), .int (nI ll), .ref md, .ref ms, .int (nI rW), .ref mrd, .ref mrs, .ref mrp, .ref mp, .ref mb, .int (nI na), .ref mk, .ref mi, .long sd, .ref m1, .ref m2, .ref m3, .ref ml, .ref mf, .ref mw, .ref mn])), (ms, .inl (cI, 4, .inl sf)), (mp, .inl (cI, 52, .inl g)), (m3, .inl (cI, 52, .inl f9)), (ml, .inl (cI, 8, .inl l9)), (mw, .inl (cI, 16, .inl w8)), (mn, .inl (cI, 16, .inl n7))] [(5, .int (nI i)), (4, .int (nI (t - 1))), (3, .int (nI fj)), (0, .ref y), (1, .int (nI j)), (2, .int (nI q))] 75 [] := by
                    intro n_75
                    induction n_75 with
                    | zero => intro i fj n7 hm; exact absurd hm (Nat.not_lt_zero _)
                    | succ n_75 ih_75 =>
                      intro i fj n7 hm_75 hi hn7 hfj
                      refine x_iload ok 0 dX5_lords_75 rfl ?_
                      refine x_iconst ok (nI 1) dX5_lords_77 (by decide) ?_
                      refine x_aload_n ok 3 dX5_lords_78 rfl rfl ?_
                      refine gX5_66 ok dX5_lords_79 0 rfl rfl ?_
                      refine x_ishl ok (nI (2 ^ W)) dX5_lords_82 (shl1 W (by omega)) ?_
                      refine x_icmp_geN ok 235 dX5_lords_83 (by decide) (by omega) (by omega) (fun c_83 => ?_) (fun c_83 => ?_)
                      · skip
                        have e_i : 2 ^ W = i := by omega
                        subst e_i
                        refine x_iconst ok (nI 0) dX5_lords_235 (by decide) ?_
                        refine x_istore ok (lv' := [(5, .int (nI 0)), (4, .int (nI (t - 1))), (3, .int (nI fj)), (0, .ref y), (1, .int (nI j)), (2, .int (nI q))]) dX5_lords_236 (by decide) rfl ?_
                        have L_238 : ∀ (n_238 : Nat) (i : Nat) (w7 : Nat → Int32), 2 ^ W - i < n_238 → (i ≤ 2 ^ W) → (∀ q, q < i → w7 q = nI (lwT most W wv q)) → XX K [(y, .inr (5, [.int (nI 0), .ref mt, .int (nI ts), .int (nI pl), .int (nI W), .int (nI ll), .ref md, .ref ms, .int (nI rW), .ref mrd, .ref mrs, .ref mrp, .ref mp, .ref mb, .int (nI na), .ref mk, .ref mi, .long sd, .ref m1, .ref m2, .ref m3, .ref ml, .ref mf, .ref mw, .ref mn])), (ms, .inl (cI, 4, .inl sf)), (mp, .inl (cI, 52, .inl g)), (m3, .inl (cI, 52, .inl f9)), (ml, .inl (cI, 8, .inl l9)), (mw, .inl (cI, 16, .inl w7)), (mn, .inl (cI, 16, .inl n7))] [(5, .int (nI i)), (4, .int (nI (t - 1))), (3, .int (nI fj)), (0, .ref y), (1, .int (nI j)), (2, .int (nI q))] 238 [] := by
                          intro n_238
                          induction n_238 with
                          | zero => intro i w7 hm; exact absurd hm (Nat.not_lt_zero _)
                          | succ n_238 ih_238 =>
                            intro i w7 hm_238 hi h7
                            refine x_iload ok 0 dX5_lords_238 rfl ?_
                            refine x_iconst ok (nI 1) dX5_lords_240 (by decide) ?_
                            refine x_aload_n ok 3 dX5_lords_241 rfl rfl ?_
                            refine gX5_66 ok dX5_lords_242 0 rfl rfl ?_
                            refine x_ishl ok (nI (2 ^ W)) dX5_lords_245 (shl1 W (by omega)) ?_
                            refine x_icmp_geN ok 269 dX5_lords_246 (by decide) (by omega) (by omega) (fun c_246 => ?_) (fun c_246 => ?_)
                            · skip
                              have e_i : 2 ^ W = i := by omega
                              subst e_i
                              refine x_iinc ok (v := (nI (t - 1)) - (nI 1)) (lv' := [(4, .int ((nI (t - 1)) - (nI 1))), (5, .int (nI (2 ^ W))), (3, .int (nI fj)), (0, .ref y), (1, .int (nI j)), (2, .int (nI q))]) dX5_lords_269 1 rfl (nI_dec2 _) (by decide) rfl ?_
                              refine x_goto ok 67 dX5_lords_272 (by decide) ?_
                              refine x_loc ok [0, 2, 3, 4, 5] (lv' := [(4, .int ((nI (t - 1)) - (nI 1))), (3, .int (nI fj)), (0, .ref y), (1, .int (nI j)), (2, .int (nI q))]) rfl ?_
                              exact ih_67 (t - 1) (lwT most W wv) fj w7 n7 (by omega) (by first | assumption | omega) (h7) (fun q => lwT_le hwv q) (by rcases Nat.lt_or_ge 1 t with q | q; (exact Or.inl ⟨by omega, fun z => (by rw [hmo]; exact (lrT_s (by omega) z).symm : lrT W (lwT most W wv) (t - 1) z = lrT W wv t z).trans (hlr1 z)⟩); (have et : t = 1 := (by omega); have hwq : wv = (lrT W (lw0 ll st W L) j) := funext fun z => (by have h := hlr1 z; rw [et] at h; exact h); exact Or.inr ⟨by omega, fun z => by rw [← hwq, show most = true from by rw [hmo, et]; rfl], by rw [← hwq]; exact hfj et hlW⟩))
                            · skip
                              refine x_aload_n ok 3 dX5_lords_249 rfl rfl ?_
                              refine gX5_56 ok dX5_lords_250 0 rfl rfl ?_
                              refine x_iload ok 0 dX5_lords_253 rfl ?_
                              refine x_aload_n ok 3 dX5_lords_255 rfl rfl ?_
                              refine gX5_59 ok dX5_lords_256 0 rfl rfl ?_
                              refine x_iload ok 0 dX5_lords_259 rfl ?_
                              refine x_iald ok 6 0 i dX5_lords_261 rfl rfl (rfl) (by omega) (by decide) (nI (lwT most W wv i)) (hn7 i (by omega)) ?_
                              refine x_iast ok 5 0 i (ws' := [(y, .inr (5, [.int (nI 0), .ref mt, .int (nI ts), .int (nI pl), .int (nI W), .int (nI ll), .ref md, .ref ms, .int (nI rW), .ref mrd, .ref mrs, .ref mrp, .ref mp, .ref mb, .int (nI na), .ref mk, .ref mi, .long sd, .ref m1, .ref m2, .ref m3, .ref ml, .ref mf, .ref mw, .ref mn])), (ms, .inl (cI, 4, .inl sf)), (mp, .inl (cI, 52, .inl g)), (m3, .inl (cI, 52, .inl f9)), (ml, .inl (cI, 8, .inl l9)), (mw, .inl (cI, 16, .inl (upd w7 i (nI (lwT most W wv i))))), (mn, .inl (cI, 16, .inl n7))]) dX5_lords_262 rfl rfl (rfl) (by omega) (by decide) (rfl) rfl ?_
                              refine x_iinc ok (v := nI (i + 1)) (lv' := [(5, .int (nI (i + 1))), (4, .int (nI (t - 1))), (3, .int (nI fj)), (0, .ref y), (1, .int (nI j)), (2, .int (nI q))]) dX5_lords_263 0 rfl (nN (nI_inc _ 1) (by omega)) (by decide) rfl ?_
                              refine x_goto ok 238 dX5_lords_266 (by decide) ?_
                              exact ih_238 (i + 1) (upd w7 i (nI (lwT most W wv i))) (by omega) (by first | assumption | omega) (fun q hq => by rcases Nat.lt_or_ge q i with c | c; (rw [upd_n (by omega)]; exact h7 q c); (rw [show q = i by omega, upd_s]))
                        exact L_238 _ 0 w8 (Nat.lt_succ_self _) (by first | assumption | omega) (fun q hq => absurd hq (Nat.not_lt_zero q))
                      · skip
                        refine x_aload_n ok 3 dX5_lords_86 rfl rfl ?_
                        refine gX5_56 ok dX5_lords_87 0 rfl rfl ?_
                        refine x_iload ok 0 dX5_lords_90 rfl ?_
                        refine x_iald ok 5 0 i dX5_lords_92 rfl rfl (rfl) (by omega) (by decide) (nI (wv i)) (hw8 i (by omega)) ?_
                        refine x_istore ok (lv' := [(6, .int (nI (wv i))), (5, .int (nI i)), (4, .int (nI (t - 1))), (3, .int (nI fj)), (0, .ref y), (1, .int (nI j)), (2, .int (nI q))]) dX5_lords_93 (by decide) rfl ?_
                        refine x_iconst ok (nI 0) dX5_lords_95 (by decide) ?_
                        refine x_istore ok (lv' := [(7, .int (nI 0)), (6, .int (nI (wv i))), (5, .int (nI i)), (4, .int (nI (t - 1))), (3, .int (nI fj)), (0, .ref y), (1, .int (nI j)), (2, .int (nI q))]) dX5_lords_96 (by decide) rfl ?_
                        refine x_iconst ok (nI 0) dX5_lords_98 (by decide) ?_
                        refine x_istore ok (lv' := [(8, .int (nI 0)), (7, .int (nI 0)), (6, .int (nI (wv i))), (5, .int (nI i)), (4, .int (nI (t - 1))), (3, .int (nI fj)), (0, .ref y), (1, .int (nI j)), (2, .int (nI q))]) dX5_lords_99 (by decide) rfl ?_
                        have L_101 : ∀ (n_101 : Nat) (w : Nat) (mv : Nat), W - w < n_101 → (w ≤ W) → (most = true → lmvF wv i (w + 1) = ((lwF most wv i w : Int), mv)) → XX K [(y, .inr (5, [.int (nI 0), .ref mt, .int (nI ts), .int (nI pl), .int (nI W), .int (nI ll), .ref md, .ref ms, .int (nI rW), .ref mrd, .ref mrs, .ref mrp, .ref mp, .ref mb, .int (nI na), .ref mk, .ref mi, .long sd, .ref m1, .ref m2, .ref m3, .ref ml, .ref mf, .ref mw, .ref mn])), (ms, .inl (cI, 4, .inl sf)), (mp, .inl (cI, 52, .inl g)), (m3, .inl (cI, 52, .inl f9)), (ml, .inl (cI, 8, .inl l9)), (mw, .inl (cI, 16, .inl w8)), (mn, .inl (cI, 16, .inl n7))] [(8, .int (nI w)), (7, .int (nI mv)), (6, .int (nI (lwF most wv i w))), (5, .int (nI i)), (4, .int (nI (t - 1))), (3, .int (nI fj)), (0, .ref y), (1, .int (nI j)), (2, .int (nI q))] 101 [] := by
                          intro n_101
                          induction n_101 with
                          | zero => intro w mv hm; exact absurd hm (Nat.not_lt_zero _)
                          | succ n_101 ih_101 =>
                            intro w mv hm_101 hw hmv
                            refine x_iload ok 0 dX5_lords_101 rfl ?_
                            refine x_aload_n ok 6 dX5_lords_103 rfl rfl ?_
                            refine gX5_66 ok dX5_lords_104 0 rfl rfl ?_
                            refine x_icmp_geN ok 196 dX5_lords_107 (by decide) (by omega) (by omega) (fun c_107 => ?_) (fun c_107 => ?_)
                            · skip
                              have e_w : W = w := by omega
                              subst e_w
                              have hbW := lwF_le (most := most) (q := i) hwv W
                              refine x_aload_n ok 6 dX5_lords_196 rfl rfl ?_
                              refine gX5_59 ok dX5_lords_197 0 rfl rfl ?_
                              refine x_iload ok 3 dX5_lords_200 rfl ?_
                              refine x_iload ok 2 dX5_lords_202 rfl ?_
                              refine x_iast ok 6 0 i (ws' := [(y, .inr (5, [.int (nI 0), .ref mt, .int (nI ts), .int (nI pl), .int (nI W), .int (nI ll), .ref md, .ref ms, .int (nI rW), .ref mrd, .ref mrs, .ref mrp, .ref mp, .ref mb, .int (nI na), .ref mk, .ref mi, .long sd, .ref m1, .ref m2, .ref m3, .ref ml, .ref mf, .ref mw, .ref mn])), (ms, .inl (cI, 4, .inl sf)), (mp, .inl (cI, 52, .inl g)), (m3, .inl (cI, 52, .inl f9)), (ml, .inl (cI, 8, .inl l9)), (mw, .inl (cI, 16, .inl w8)), (mn, .inl (cI, 16, .inl (upd n7 i (nI (lwF most wv i W)))))]) dX5_lords_204 rfl rfl (rfl) (by omega) (by decide) (rfl) rfl ?_
                              refine x_iload ok 4 dX5_lords_205 rfl ?_
                              have J_228 : ∀ (v228_1 : Nat), v228_1 = (if t - 1 = 0 then (if i = li then mv else fj) else fj) → XX K [(y, .inr (5, [.int (nI 0), .ref mt, .int (nI ts), .int (nI pl), .int (nI W), .int (nI ll), .ref md, .ref ms, .int (nI rW), .ref mrd, .ref mrs, .ref mrp, .ref mp, .ref mb, .int (nI na), .ref mk, .ref mi, .long sd, .ref m1, .ref m2, .ref m3, .ref ml, .ref mf, .ref mw, .ref mn])), (ms, .inl (cI, 4, .inl sf)), (mp, .inl (cI, 52, .inl g)), (m3, .inl (cI, 52, .inl f9)), (ml, .inl (cI, 8, .inl l9)), (mw, .inl (cI, 16, .inl w8)), (mn, .inl (cI, 16, .inl (upd n7 i (nI (lwF most wv i W)))))] [(8, .int (nI W)), (7, .int (nI mv)), (6, .int (nI (lwF most wv i W))), (5, .int (nI i)), (4, .int (nI (t - 1))), (3, .int (nI fj)), (0, .ref y), (1, .int (nI j)), (2, .int (nI q))] 228 [.int (nI v228_1)] := by
                                intro v228_1 e_v228_1
                                refine x_istore_n ok (lv' := [(3, .int (nI v228_1)), (8, .int (nI W)), (7, .int (nI mv)), (6, .int (nI (lwF most wv i W))), (5, .int (nI i)), (4, .int (nI (t - 1))), (0, .ref y), (1, .int (nI j)), (2, .int (nI q))]) dX5_lords_228 rfl (by decide) rfl ?_
                                refine x_iinc ok (v := nI (i + 1)) (lv' := [(5, .int (nI (i + 1))), (3, .int (nI v228_1)), (8, .int (nI W)), (7, .int (nI mv)), (6, .int (nI (lwF most wv i W))), (4, .int (nI (t - 1))), (0, .ref y), (1, .int (nI j)), (2, .int (nI q))]) dX5_lords_229 4 rfl (nN (nI_inc _ 1) (by omega)) (by decide) rfl ?_
                                refine x_goto ok 75 dX5_lords_232 (by decide) ?_
                                refine x_loc ok [0, 5, 1, 6, 7, 8] (lv' := [(5, .int (nI (i + 1))), (4, .int (nI (t - 1))), (3, .int (nI v228_1)), (0, .ref y), (1, .int (nI j)), (2, .int (nI q))]) rfl ?_
                                exact ih_75 (i + 1) v228_1 (upd n7 i (nI (lwF most wv i W))) (by omega) (by first | assumption | omega) (fun q hq => by rcases Nat.lt_or_ge q i with c | c; (rw [upd_n (by omega)]; exact hn7 q c); (rw [show q = i by omega, upd_s]; rfl)) (fun h1 h2 => by rw [e_v228_1, if_pos (by omega)]; by_cases c : i = li; (rw [if_pos c]; have q := hmv (by rw [hmo, h1]; decide); rw [c] at q; rw [q]); (rw [if_neg c]; exact hfj h1 (by omega)))
                              refine x_if_neN ok 227 dX5_lords_207 (by decide) (by omega) (fun c_207 => ?_) (fun c_207 => ?_)
                              · skip
                                refine x_iload_n ok 5 dX5_lords_227 rfl rfl ?_
                                exact J_228 fj (by first | rfl | (simp only [if_neg c_207]; done) | (simp [c_207]; done))
                              · skip
                                refine x_iload ok 3 dX5_lords_210 rfl ?_
                                refine x_aload_n ok 6 dX5_lords_212 rfl rfl ?_
                                refine gX5_28 ok dX5_lords_213 0 rfl rfl ?_
                                refine x_bipush ok (nI 49) dX5_lords_216 (by decide) ?_
                                refine x_iald ok 2 0 49 dX5_lords_218 rfl rfl (rfl) (by omega) (by decide) (nI li) (hg.2.2.1) ?_
                                refine x_icmp_neN ok 227 dX5_lords_219 (by decide) (by omega) (by omega) (fun c_219 => ?_) (fun c_219 => ?_)
                                · skip
                                  refine x_iload_n ok 5 dX5_lords_227 rfl rfl ?_
                                  exact J_228 fj (by first | rfl | (simp only [if_pos c_207, if_neg c_219]; done) | (simp [c_207, c_219]; done))
                                · skip
                                  refine x_iload ok 1 dX5_lords_222 rfl ?_
                                  refine x_goto ok 228 dX5_lords_224 (by decide) ?_
                                  exact J_228 mv (by first | rfl | (simp only [if_pos c_207, if_pos c_219]; done) | (simp [c_207, c_219]; done))
                            · skip
                              have hx := mv_ltW (q := i) (w := w) (W := W) (by omega) (by omega)
                              have hb6 := lwF_le (most := most) (q := i) hwv w
                              have hxw := hwv (i ^^^ 2 ^ w)
                              refine x_aload_n ok 6 dX5_lords_110 rfl rfl ?_
                              refine gX5_56 ok dX5_lords_111 0 rfl rfl ?_
                              refine x_iload ok 3 dX5_lords_114 rfl ?_
                              refine x_iconst ok (nI 1) dX5_lords_116 (by decide) ?_
                              refine x_iload ok 0 dX5_lords_117 rfl ?_
                              refine x_ishl ok (nI (2 ^ w)) dX5_lords_119 (shl1 w (by omega)) ?_
                              refine x_ixor ok (nI (i ^^^ 2 ^ w)) dX5_lords_120 (fa_xor _ _) ?_
                              refine x_iald ok 5 0 (i ^^^ 2 ^ w) dX5_lords_121 rfl rfl (rfl) (by omega) (by decide) (nI (wv (i ^^^ 2 ^ w))) (hw8 _ hx) ?_
                              obtain ⟨vv, e_vv⟩ : ∃ y : Nat, y = wv (i ^^^ 2 ^ w) := ⟨_, rfl⟩
                              rw [← e_vv]
                              refine x_istore ok (lv' := [(9, .int (nI vv)), (8, .int (nI w)), (7, .int (nI mv)), (6, .int (nI (lwF most wv i w))), (5, .int (nI i)), (4, .int (nI (t - 1))), (3, .int (nI fj)), (0, .ref y), (1, .int (nI j)), (2, .int (nI q))]) dX5_lords_122 (by decide) rfl ?_
                              have hv6 : vv ≤ 6 := by rw [e_vv]; exact hxw
                              refine x_iload ok 5 dX5_lords_124 rfl ?_
                              refine x_iconst ok (nI 2) dX5_lords_126 (by decide) ?_
                              refine x_irem ok (nI ((t - 1) % 2)) dX5_lords_127 (by decide) (pk_rem (by omega) (by omega) (by omega)) ?_
                              have J_158 : ∀ (b158_1 : Bool), b158_1 = (if (t - 1) % 2 = 0 then (if vv ≤ (lwF most wv i w) then false else true) else (if (lwF most wv i w) ≤ vv then false else true)) → XX K [(y, .inr (5, [.int (nI 0), .ref mt, .int (nI ts), .int (nI pl), .int (nI W), .int (nI ll), .ref md, .ref ms, .int (nI rW), .ref mrd, .ref mrs, .ref mrp, .ref mp, .ref mb, .int (nI na), .ref mk, .ref mi, .long sd, .ref m1, .ref m2, .ref m3, .ref ml, .ref mf, .ref mw, .ref mn])), (ms, .inl (cI, 4, .inl sf)), (mp, .inl (cI, 52, .inl g)), (m3, .inl (cI, 52, .inl f9)), (ml, .inl (cI, 8, .inl l9)), (mw, .inl (cI, 16, .inl w8)), (mn, .inl (cI, 16, .inl n7))] [(9, .int (nI vv)), (8, .int (nI w)), (7, .int (nI mv)), (6, .int (nI (lwF most wv i w))), (5, .int (nI i)), (4, .int (nI (t - 1))), (3, .int (nI fj)), (0, .ref y), (1, .int (nI j)), (2, .int (nI q))] 158 [.int (bz b158_1)] := by
                                intro b158_1 e_b158_1
                                refine x_istore ok (lv' := [(10, .int (bz b158_1)), (9, .int (nI vv)), (8, .int (nI w)), (7, .int (nI mv)), (6, .int (nI (lwF most wv i w))), (5, .int (nI i)), (4, .int (nI (t - 1))), (3, .int (nI fj)), (0, .ref y), (1, .int (nI j)), (2, .int (nI q))]) dX5_lords_158 (by decide) rfl ?_
                                refine x_iload ok 0 dX5_lords_160 rfl ?_
                                have J_174 : ∀ (v174_1 : Nat), v174_1 = (if b158_1 = true then w + 1 else mv) → XX K [(y, .inr (5, [.int (nI 0), .ref mt, .int (nI ts), .int (nI pl), .int (nI W), .int (nI ll), .ref md, .ref ms, .int (nI rW), .ref mrd, .ref mrs, .ref mrp, .ref mp, .ref mb, .int (nI na), .ref mk, .ref mi, .long sd, .ref m1, .ref m2, .ref m3, .ref ml, .ref mf, .ref mw, .ref mn])), (ms, .inl (cI, 4, .inl sf)), (mp, .inl (cI, 52, .inl g)), (m3, .inl (cI, 52, .inl f9)), (ml, .inl (cI, 8, .inl l9)), (mw, .inl (cI, 16, .inl w8)), (mn, .inl (cI, 16, .inl n7))] [(10, .int (bz b158_1)), (9, .int (nI vv)), (8, .int (nI w)), (7, .int (nI mv)), (6, .int (nI (lwF most wv i w))), (5, .int (nI i)), (4, .int (nI (t - 1))), (3, .int (nI fj)), (0, .ref y), (1, .int (nI j)), (2, .int (nI q))] 174 [.int (nI v174_1)] := by
                                  intro v174_1 e_v174_1
                                  refine x_istore ok (lv' := [(7, .int (nI v174_1)), (10, .int (bz b158_1)), (9, .int (nI vv)), (8, .int (nI w)), (6, .int (nI (lwF most wv i w))), (5, .int (nI i)), (4, .int (nI (t - 1))), (3, .int (nI fj)), (0, .ref y), (1, .int (nI j)), (2, .int (nI q))]) dX5_lords_174 (by decide) rfl ?_
                                  refine x_iload ok 1 dX5_lords_176 rfl ?_
                                  have J_188 : ∀ (v188_1 : Nat), v188_1 = (if b158_1 = true then vv else lwF most wv i w) → XX K [(y, .inr (5, [.int (nI 0), .ref mt, .int (nI ts), .int (nI pl), .int (nI W), .int (nI ll), .ref md, .ref ms, .int (nI rW), .ref mrd, .ref mrs, .ref mrp, .ref mp, .ref mb, .int (nI na), .ref mk, .ref mi, .long sd, .ref m1, .ref m2, .ref m3, .ref ml, .ref mf, .ref mw, .ref mn])), (ms, .inl (cI, 4, .inl sf)), (mp, .inl (cI, 52, .inl g)), (m3, .inl (cI, 52, .inl f9)), (ml, .inl (cI, 8, .inl l9)), (mw, .inl (cI, 16, .inl w8)), (mn, .inl (cI, 16, .inl n7))] [(7, .int (nI v174_1)), (10, .int (bz b158_1)), (9, .int (nI vv)), (8, .int (nI w)), (6, .int (nI (lwF most wv i w))), (5, .int (nI i)), (4, .int (nI (t - 1))), (3, .int (nI fj)), (0, .ref y), (1, .int (nI j)), (2, .int (nI q))] 188 [.int (nI v188_1)] := by
                                    intro v188_1 e_v188_1
                                    refine x_istore ok (lv' := [(6, .int (nI v188_1)), (7, .int (nI v174_1)), (10, .int (bz b158_1)), (9, .int (nI vv)), (8, .int (nI w)), (5, .int (nI i)), (4, .int (nI (t - 1))), (3, .int (nI fj)), (0, .ref y), (1, .int (nI j)), (2, .int (nI q))]) dX5_lords_188 (by decide) rfl ?_
                                    refine x_iinc ok (v := nI (w + 1)) (lv' := [(8, .int (nI (w + 1))), (6, .int (nI v188_1)), (7, .int (nI v174_1)), (10, .int (bz b158_1)), (9, .int (nI vv)), (5, .int (nI i)), (4, .int (nI (t - 1))), (3, .int (nI fj)), (0, .ref y), (1, .int (nI j)), (2, .int (nI q))]) dX5_lords_190 4 rfl (nN (nI_inc _ 1) (by omega)) (by decide) rfl ?_
                                    refine x_goto ok 101 dX5_lords_193 (by decide) ?_
                                    refine x_loc ok [0, 2, 1, 5, 6, 7, 8, 9, 10] (lv' := [(8, .int (nI (w + 1))), (7, .int (nI v174_1)), (6, .int (nI v188_1)), (5, .int (nI i)), (4, .int (nI (t - 1))), (3, .int (nI fj)), (0, .ref y), (1, .int (nI j)), (2, .int (nI q))]) rfl ?_
                                    have em := lord_s ht1 hmo e_vv e_b158_1 e_v174_1 e_v188_1 hmv
                                    rw [em.1]
                                    exact ih_101 (w + 1) v174_1 (by omega) (by first | assumption | omega) (em.2)
                                  refine x_if_eqB ok 186 dX5_lords_178 (by decide) (fun c_178 => ?_) (fun c_178 => ?_)
                                  · skip
                                    refine x_iload ok 4 dX5_lords_186 rfl ?_
                                    exact J_188 (lwF most wv i w) (by first | rfl | (simp only [if_neg c_178]; done) | (simp [c_178]; done))
                                  · skip
                                    refine x_iload ok 2 dX5_lords_181 rfl ?_
                                    refine x_goto ok 188 dX5_lords_183 (by decide) ?_
                                    exact J_188 vv (by first | rfl | (simp only [if_pos c_178]; done) | (simp [c_178]; done))
                                refine x_if_eqB ok 172 dX5_lords_162 (by decide) (fun c_162 => ?_) (fun c_162 => ?_)
                                · skip
                                  refine x_iload ok 3 dX5_lords_172 rfl ?_
                                  exact J_174 mv (by first | rfl | (simp only [if_neg c_162]; done) | (simp [c_162]; done))
                                · skip
                                  refine x_iconst ok (nI 1) dX5_lords_165 (by decide) ?_
                                  refine x_iload ok 2 dX5_lords_166 rfl ?_
                                  refine x_iadd ok (nI (w + 1)) dX5_lords_168 (nN (nI_add _ _) (by omega)) ?_
                                  refine x_goto ok 174 dX5_lords_169 (by decide) ?_
                                  exact J_174 (w + 1) (by first | rfl | (simp only [if_pos c_162]; done) | (simp [c_162]; done))
                              refine x_if_neN ok 146 dX5_lords_128 (by decide) (by omega) (fun c_128 => ?_) (fun c_128 => ?_)
                              · skip
                                refine x_iload ok 0 dX5_lords_146 rfl ?_
                                refine x_iload ok 3 dX5_lords_148 rfl ?_
                                refine x_icmp_geN ok 157 dX5_lords_150 (by decide) (by omega) (by omega) (fun c_150 => ?_) (fun c_150 => ?_)
                                · skip
                                  refine x_iconst ok (nI 0) dX5_lords_157 (by decide) ?_
                                  exact J_158 false (by first | rfl | (simp only [if_neg c_128, if_pos c_150]; done) | (simp [c_128, c_150]; done))
                                · skip
                                  refine x_iconst ok (nI 1) dX5_lords_153 (by decide) ?_
                                  refine x_goto ok 158 dX5_lords_154 (by decide) ?_
                                  exact J_158 true (by first | rfl | (simp only [if_neg c_128, if_neg c_150]; done) | (simp [c_128, c_150]; done))
                              · skip
                                refine x_iload ok 0 dX5_lords_131 rfl ?_
                                refine x_iload ok 3 dX5_lords_133 rfl ?_
                                refine x_icmp_leN ok 142 dX5_lords_135 (by decide) (by omega) (by omega) (fun c_135 => ?_) (fun c_135 => ?_)
                                · skip
                                  refine x_iconst ok (nI 0) dX5_lords_142 (by decide) ?_
                                  refine x_goto ok 158 dX5_lords_143 (by decide) ?_
                                  exact J_158 false (by first | rfl | (simp only [if_pos c_128, if_pos c_135]; done) | (simp [c_128, c_135]; done))
                                · skip
                                  refine x_iconst ok (nI 1) dX5_lords_138 (by decide) ?_
                                  refine x_goto ok 158 dX5_lords_139 (by decide) ?_
                                  exact J_158 true (by first | rfl | (simp only [if_pos c_128, if_neg c_135]; done) | (simp [c_128, c_135]; done))
                        exact L_101 _ 0 0 (Nat.lt_succ_self _) (by first | assumption | omega) (fun _ => lmv_1)
                  exact L_75 _ 0 fi n8 (Nat.lt_succ_self _) (by first | assumption | omega) (fun q hq => absurd hq (Nat.not_lt_zero q)) (fun _ h => absurd h (Nat.not_lt_zero li))
            exact L_67 _ j (lw0 ll st W L) 0 w9 nf (Nat.lt_succ_self _) (by first | assumption | omega) (hw9) (fun _ => lw0_le hv) (Or.inl ⟨by omega, fun _ => rfl⟩)
          · skip
            refine x_aload_n ok 1 dX5_lords_42 rfl rfl ?_
            refine gX5_56 ok dX5_lords_43 0 rfl rfl ?_
            refine x_iload_n ok 0 dX5_lords_46 rfl rfl ?_
            refine x_aload_n ok 1 dX5_lords_47 rfl rfl ?_
            refine x_iload_n ok 0 dX5_lords_48 rfl rfl ?_
            refine x_iconst ok (nI 4) dX5_lords_49 (by decide) ?_
            refine qX5_182 ok (As := [.int (nI i), .int (nI 4)]) (st := [.int (nI i), .ref mw]) 0 rfl (d_hadBy l D cI cZ cS y (nI 0) mt ts pl W ll md ms rW mrd mrs mrp mp mb na mk mi sd m1 m2 m3 ml mf mw mn sf st g L li ye br A f9 l9 i 4 (by first | assumption | omega) (by first | assumption | omega) (by first | assumption | omega) (by first | assumption | omega) (by first | assumption | omega) (by first | assumption | omega) (by first | assumption | omega) (by first | assumption | omega)) rfl (Nat.le_of_ble_eq_true rfl) (Nat.le_of_ble_eq_true rfl) (Nat.le_of_ble_eq_true rfl) dX5_lords_50 [0, 1, 2, 3, 4] (by decide) rfl (ws' := fun u => [(y, .inr (5, [.int (nI 0), .ref mt, .int (nI ts), .int (nI pl), .int (nI W), .int (nI ll), .ref md, .ref ms, .int (nI rW), .ref mrd, .ref mrs, .ref mrp, .ref mp, .ref mb, .int (nI na), .ref mk, .ref mi, .long sd, .ref m1, .ref m2, .ref m3, .ref ml, .ref mf, .ref mw, .ref mn])), (ms, .inl (cI, 4, .inl sf)), (mp, .inl (cI, 52, .inl g)), (m3, .inl (cI, 52, .inl u.1)), (ml, .inl (cI, 8, .inl u.2)), (mw, .inl (cI, 16, .inl w9)), (mn, .inl (cI, 16, .inl nf))]) (st' := fun u => [.int (nI (llN ll (yearsL st i 4 L))), .int (nI i), .ref mw]) (fun _ => rfl) (fun _ => rfl) (fun _ => rfl) (fun u50 hu50 => ?_)
            obtain ⟨o250, lf250⟩ := u50
            show XX K [(y, .inr (5, [.int (nI 0), .ref mt, .int (nI ts), .int (nI pl), .int (nI W), .int (nI ll), .ref md, .ref ms, .int (nI rW), .ref mrd, .ref mrs, .ref mrp, .ref mp, .ref mb, .int (nI na), .ref mk, .ref mi, .long sd, .ref m1, .ref m2, .ref m3, .ref ml, .ref mf, .ref mw, .ref mn])), (ms, .inl (cI, 4, .inl sf)), (mp, .inl (cI, 52, .inl g)), (m3, .inl (cI, 52, .inl o250)), (ml, .inl (cI, 8, .inl lf250)), (mw, .inl (cI, 16, .inl w9)), (mn, .inl (cI, 16, .inl nf))] [(3, .int (nI i)), (0, .ref y), (1, .int (nI j)), (2, .int (nI q))] 53 [.int (nI (llN ll (yearsL st i 4 L))), .int (nI i), .ref mw]
            refine x_iast ok 5 0 i (ws' := [(y, .inr (5, [.int (nI 0), .ref mt, .int (nI ts), .int (nI pl), .int (nI W), .int (nI ll), .ref md, .ref ms, .int (nI rW), .ref mrd, .ref mrs, .ref mrp, .ref mp, .ref mb, .int (nI na), .ref mk, .ref mi, .long sd, .ref m1, .ref m2, .ref m3, .ref ml, .ref mf, .ref mw, .ref mn])), (ms, .inl (cI, 4, .inl sf)), (mp, .inl (cI, 52, .inl g)), (m3, .inl (cI, 52, .inl o250)), (ml, .inl (cI, 8, .inl lf250)), (mw, .inl (cI, 16, .inl (upd w9 i (nI (llN ll (yearsL st i 4 L)))))), (mn, .inl (cI, 16, .inl nf))]) dX5_lords_53 rfl rfl (rfl) (by omega) (by decide) (rfl) rfl ?_
            refine x_iinc ok (v := nI (i + 1)) (lv' := [(3, .int (nI (i + 1))), (0, .ref y), (1, .int (nI j)), (2, .int (nI q))]) dX5_lords_54 0 rfl (nN (nI_inc _ 1) (by omega)) (by decide) rfl ?_
            refine x_goto ok 32 dX5_lords_57 (by decide) ?_
            exact ih_32 (i + 1) o250 lf250 (upd w9 i (nI (llN ll (yearsL st i 4 L)))) (by omega) (by first | assumption | omega) (fun q hq => by rcases Nat.lt_or_ge q i with c | c; (rw [upd_n (by omega)]; exact hw9 q c); (rw [show q = i by omega, upd_s, lw0, if_pos (by omega)]))
      exact L_32 _ 0 tf3 lf wf (Nat.lt_succ_self _) (by first | assumption | omega) (fun q hq => absurd hq (Nat.not_lt_zero q))
    · skip
      refine x_bipush ok ((-2)) dX5_lords_27 (by decide) ?_
      exact ret (tf3, lf, wf, nf) _ _ _ ((-2)) dX5_lords_29 (rfl) (by rw [lordsI, if_neg (fun x => c_24 x.2)]) (trivial)
