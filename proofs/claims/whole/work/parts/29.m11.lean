set_option maxHeartbeats 4000000 in
set_option maxRecDepth 100000 in
theorem p_lords (l : Launch) (D : va_G) (cI cZ cS : ClassId) (x : Nat) (ax : Nat) (aw : Nat) (an : Nat) (aa : Nat) (a0 : Nat) (a1 : Nat) (sk : Nat) (ll : Nat) (ar : Nat) (aq : Nat) (al : Nat) (am : Nat) (sd : Int64) (wd : Nat) (wt : Nat) (W : Nat) (df : Nat → Int32) (tf : Nat → Int32) (dp : Nat → Nat) (st : Nat → Nat) (A : Nat) (nc : Nat) (L : List Sg) (li : Nat) (ye : Int32) (br : Int32) (f : Nat → Int32) (rc : Nat) (rn : Nat) (rl : Nat) (ry : Int32) (rb : Int32) (rf : Nat → Int32) (wf : Nat → Int32) (hf : Nat → Int32) (z : Int32) (z2 : Int32) (hfn : hs f L) (hv : okL W A L) (hW : W ≤ 4) (hst : ∀ w, w < W → tf w = nI (st w)) (hst2 : ∀ w, w < W → st w ≤ 2) (hl16 : li < 16) : CO l D (TY cI cZ cS) yX4_lords cX4_lords 7 (some .int) 7 159 0 0 [.ref x, .int z, .int z2] [(x, .inr (4, [.ref ax, .ref aw, .ref an, .ref aa, .ref a0, .ref a1, .int (nI sk), .int (nI ll), .long sd, .ref ar, .ref aq, .ref al, .ref am])), (aw, .inr (3, [.ref wd, .ref wt, .int (nI W)])), (wt, .inl (cI, 4, .inl tf)), (an, .inr (1, [.ref nc, .int (nI L.length), .int (nI li), .int ye, .int br])), (nc, .inl (cI, 48, .inl f)), (ar, .inr (1, [.ref rc, .int (nI rn), .int (nI rl), .int ry, .int rb])), (rc, .inl (cI, 48, .inl rf)), (al, .inl (cI, 16, .inl wf)), (am, .inl (cI, 16, .inl hf))] (σ := (Nat) × (Nat) × (Int32) × (Int32) × (Nat → Int32) × (Nat → Int32) × (Nat → Int32)) (fun u => some (.int (lordsI ll st W li L z z2))) (fun u => [(x, .inr (4, [.ref ax, .ref aw, .ref an, .ref aa, .ref a0, .ref a1, .int (nI sk), .int (nI ll), .long sd, .ref ar, .ref aq, .ref al, .ref am])), (aw, .inr (3, [.ref wd, .ref wt, .int (nI W)])), (wt, .inl (cI, 4, .inl tf)), (an, .inr (1, [.ref nc, .int (nI L.length), .int (nI li), .int ye, .int br])), (nc, .inl (cI, 48, .inl f)), (ar, .inr (1, [.ref rc, .int (nI u.1), .int (nI u.2.1), .int u.2.2.1, .int u.2.2.2.1])), (rc, .inl (cI, 48, .inl u.2.2.2.2.1)), (al, .inl (cI, 16, .inl u.2.2.2.2.2.1)), (am, .inl (cI, 16, .inl u.2.2.2.2.2.2))]) (fun u => True) := by
  refine CO_mki (by decide +kernel) (Nat.le_of_ble_eq_true rfl) (fun K ok ret => ?_)
  show XX K [(x, .inr (4, [.ref ax, .ref aw, .ref an, .ref aa, .ref a0, .ref a1, .int (nI sk), .int (nI ll), .long sd, .ref ar, .ref aq, .ref al, .ref am])), (aw, .inr (3, [.ref wd, .ref wt, .int (nI W)])), (wt, .inl (cI, 4, .inl tf)), (an, .inr (1, [.ref nc, .int (nI L.length), .int (nI li), .int ye, .int br])), (nc, .inl (cI, 48, .inl f)), (ar, .inr (1, [.ref rc, .int (nI rn), .int (nI rl), .int ry, .int rb])), (rc, .inl (cI, 48, .inl rf)), (al, .inl (cI, 16, .inl wf)), (am, .inl (cI, 16, .inl hf))] [(0, .ref x), (1, .int z), (2, .int z2)] 0 []
  have h8 := hv.1
  refine x_iload_n ok 1 dX4_lords_0 rfl rfl ?_
  refine x_iconst ok (nI 1) dX4_lords_1 (by decide) ?_
  refine x_iconst ok (nI 3) dX4_lords_2 (by decide) ?_
  refine qX4_128 ok (As := [.int z, .int (nI 1), .int (nI 3)]) (st := []) (c4_isWithin l D cI cZ cS z (nI 1) (nI 3) ) rfl (Nat.le_of_ble_eq_true rfl) (Nat.le_of_ble_eq_true rfl) (Nat.le_of_ble_eq_true rfl) dX4_lords_3 [] (by decide) rfl (ws' := fun u => [(x, .inr (4, [.ref ax, .ref aw, .ref an, .ref aa, .ref a0, .ref a1, .int (nI sk), .int (nI ll), .long sd, .ref ar, .ref aq, .ref al, .ref am])), (aw, .inr (3, [.ref wd, .ref wt, .int (nI W)])), (wt, .inl (cI, 4, .inl tf)), (an, .inr (1, [.ref nc, .int (nI L.length), .int (nI li), .int ye, .int br])), (nc, .inl (cI, 48, .inl f)), (ar, .inr (1, [.ref rc, .int (nI rn), .int (nI rl), .int ry, .int rb])), (rc, .inl (cI, 48, .inl rf)), (al, .inl (cI, 16, .inl wf)), (am, .inl (cI, 16, .inl hf))]) (st' := fun u => [.int (bz (inB z (nI 1) (nI 3)))]) (fun _ => rfl) (fun _ => rfl) (fun _ => rfl) (fun _ _ => ?_)
  refine x_if_eqB ok 18 dX4_lords_6 (by decide) (fun c_6 => ?_) (fun c_6 => ?_)
  · skip
    refine x_bipush ok ((-2)) dX4_lords_18 (by decide) ?_
    exact ret (rn, rl, ry, rb, rf, wf, hf) _ _ _ ((-2)) dX4_lords_20 (rfl) (by rw [lordsI, if_neg (fun z => c_6 z.1)]) (trivial)
  · skip
    obtain ⟨j, hj0, hj, e_z⟩ := inB_t (by omega) (by omega) c_6
    subst e_z
    have ej := cl_n (show j < 2 ^ 31 by omega)
    refine x_iload_n ok 2 dX4_lords_9 rfl rfl ?_
    refine x_iconst ok (nI 0) dX4_lords_10 (by decide) ?_
    refine x_iconst ok (nI 1) dX4_lords_11 (by decide) ?_
    refine qX4_128 ok (As := [.int z2, .int (nI 0), .int (nI 1)]) (st := []) (c4_isWithin l D cI cZ cS z2 (nI 0) (nI 1) ) rfl (Nat.le_of_ble_eq_true rfl) (Nat.le_of_ble_eq_true rfl) (Nat.le_of_ble_eq_true rfl) dX4_lords_12 [] (by decide) rfl (ws' := fun u => [(x, .inr (4, [.ref ax, .ref aw, .ref an, .ref aa, .ref a0, .ref a1, .int (nI sk), .int (nI ll), .long sd, .ref ar, .ref aq, .ref al, .ref am])), (aw, .inr (3, [.ref wd, .ref wt, .int (nI W)])), (wt, .inl (cI, 4, .inl tf)), (an, .inr (1, [.ref nc, .int (nI L.length), .int (nI li), .int ye, .int br])), (nc, .inl (cI, 48, .inl f)), (ar, .inr (1, [.ref rc, .int (nI rn), .int (nI rl), .int ry, .int rb])), (rc, .inl (cI, 48, .inl rf)), (al, .inl (cI, 16, .inl wf)), (am, .inl (cI, 16, .inl hf))]) (st' := fun u => [.int (bz (inB z2 (nI 0) (nI 1)))]) (fun _ => rfl) (fun _ => rfl) (fun _ => rfl) (fun _ _ => ?_)
    refine x_if_neB ok 21 dX4_lords_15 (by decide) (fun c_15 => ?_) (fun c_15 => ?_)
    · skip
      obtain ⟨q, hq0, hq, e_z2⟩ := inB_t (by omega) (by omega) c_15
      subst e_z2
      have eq := cl_n (show q < 2 ^ 31 by omega)
      refine x_aload_n ok 0 dX4_lords_21 rfl rfl ?_
      refine qX4_241 ok (As := []) (st := []) 0 rfl (c4_weighLids l D cI cZ cS x ax aw an aa a0 a1 sk ll ar aq al am sd wd wt W df tf dp st A nc L li ye br f rc rn rl ry rb rf wf (hfn) (by first | assumption | omega) (by first | assumption | omega) (by first | assumption | omega) (by first | assumption | omega)) rfl (Nat.le_of_ble_eq_true rfl) (Nat.le_of_ble_eq_true rfl) (Nat.le_of_ble_eq_true rfl) dX4_lords_22 [0, 1, 2, 3, 4, 5, 6, 7] (by decide) rfl (ws' := fun u => [(x, .inr (4, [.ref ax, .ref aw, .ref an, .ref aa, .ref a0, .ref a1, .int (nI sk), .int (nI ll), .long sd, .ref ar, .ref aq, .ref al, .ref am])), (aw, .inr (3, [.ref wd, .ref wt, .int (nI W)])), (wt, .inl (cI, 4, .inl tf)), (an, .inr (1, [.ref nc, .int (nI L.length), .int (nI li), .int ye, .int br])), (nc, .inl (cI, 48, .inl f)), (ar, .inr (1, [.ref rc, .int (nI u.1), .int (nI u.2.1), .int u.2.2.1, .int u.2.2.2.1])), (rc, .inl (cI, 48, .inl u.2.2.2.2.1)), (al, .inl (cI, 16, .inl u.2.2.2.2.2)), (am, .inl (cI, 16, .inl hf))]) (st' := fun u => []) (fun _ => rfl) (fun _ => rfl) (fun _ => rfl) (fun u22 hu22 => ?_)
      obtain ⟨un22, ul22, uy22, ub22, uf22, g22⟩ := u22
      have hg22 := hu22
      have hg22 : ∀ j, j < 16 → g22 j = nI (lw0 ll st W L j) := hg22
      show XX K [(x, .inr (4, [.ref ax, .ref aw, .ref an, .ref aa, .ref a0, .ref a1, .int (nI sk), .int (nI ll), .long sd, .ref ar, .ref aq, .ref al, .ref am])), (aw, .inr (3, [.ref wd, .ref wt, .int (nI W)])), (wt, .inl (cI, 4, .inl tf)), (an, .inr (1, [.ref nc, .int (nI L.length), .int (nI li), .int ye, .int br])), (nc, .inl (cI, 48, .inl f)), (ar, .inr (1, [.ref rc, .int (nI un22), .int (nI ul22), .int uy22, .int ub22])), (rc, .inl (cI, 48, .inl uf22)), (al, .inl (cI, 16, .inl g22)), (am, .inl (cI, 16, .inl hf))] [(0, .ref x), (1, .int (nI j)), (2, .int (nI q))] 25 []
      refine x_iload_n ok 1 dX4_lords_25 rfl rfl ?_
      refine x_istore_n ok (lv' := [(3, .int (nI j)), (0, .ref x), (1, .int (nI j)), (2, .int (nI q))]) dX4_lords_26 rfl (by decide) rfl ?_
      have L_27 : ∀ (n_27 : Nat) (t : Nat) (wv : Nat → Nat) (g9 : Nat → Int32) (h9 : Nat → Int32), t < n_27 → (1 ≤ t) → (t ≤ 3) → (∀ j, j < 16 → g9 j = nI (wv j)) → (∀ j, wv j ≤ 6) → (∀ q, lrT W wv t q = lrT W (lw0 ll st W L) j q) → XX K [(x, .inr (4, [.ref ax, .ref aw, .ref an, .ref aa, .ref a0, .ref a1, .int (nI sk), .int (nI ll), .long sd, .ref ar, .ref aq, .ref al, .ref am])), (aw, .inr (3, [.ref wd, .ref wt, .int (nI W)])), (wt, .inl (cI, 4, .inl tf)), (an, .inr (1, [.ref nc, .int (nI L.length), .int (nI li), .int ye, .int br])), (nc, .inl (cI, 48, .inl f)), (ar, .inr (1, [.ref rc, .int (nI un22), .int (nI ul22), .int uy22, .int ub22])), (rc, .inl (cI, 48, .inl uf22)), (al, .inl (cI, 16, .inl g9)), (am, .inl (cI, 16, .inl h9))] [(3, .int (nI t)), (0, .ref x), (1, .int (nI j)), (2, .int (nI q))] 27 [] := by
        intro n_27
        induction n_27 with
        | zero => intro t wv g9 h9 hm; exact absurd hm (Nat.not_lt_zero _)
        | succ n_27 ih_27 =>
          intro t wv g9 h9 hm_27 ht1 ht hg9 hwv hlr
          refine x_iload_n ok 0 dX4_lords_27 rfl rfl ?_
          refine x_iconst ok (nI 1) dX4_lords_28 (by decide) ?_
          refine x_icmp_leN ok 54 dX4_lords_29 (by decide) (by omega) (by omega) (fun c_29 => ?_) (fun c_29 => ?_)
          · skip
            have et : t = 1 := by omega
            have hfin : ∀ q, wv q = lrT W (lw0 ll st W L) j q := fun q => by rw [← hlr q, et, lrT]
            have hlb := fun m => lmv_b (q := li) hwv m
            have hpow : 1 ≤ 1 := Nat.le_refl 1
            refine x_bipush ok ((-100)) dX4_lords_54 (by decide) ?_
            refine x_eq (st' := [.int (zI ((lmvF wv li 0).1))]) rfl rfl (congrArg (fun q => [Value.int q]) zI_100.symm) ?_
            refine x_istore_n ok (lv' := [(3, .int (zI ((lmvF wv li 0).1))), (0, .ref x), (1, .int (nI j)), (2, .int (nI q))]) dX4_lords_56 rfl (by decide) rfl ?_
            refine x_iconst ok (nI 0) dX4_lords_57 (by decide) ?_
            refine x_eq (st' := [.int (nI ((lmvF wv li 0).2))]) rfl rfl (rfl) ?_
            refine x_istore ok (lv' := [(4, .int (nI ((lmvF wv li 0).2))), (3, .int (zI ((lmvF wv li 0).1))), (0, .ref x), (1, .int (nI j)), (2, .int (nI q))]) dX4_lords_58 (by decide) rfl ?_
            refine x_iconst ok (nI 0) dX4_lords_60 (by decide) ?_
            refine x_istore ok (lv' := [(5, .int (nI 0)), (4, .int (nI ((lmvF wv li 0).2))), (3, .int (zI ((lmvF wv li 0).1))), (0, .ref x), (1, .int (nI j)), (2, .int (nI q))]) dX4_lords_61 (by decide) rfl ?_
            have L_63 : ∀ (n_63 : Nat) (m : Nat), W + 1 - m < n_63 → (m ≤ W + 1) → XX K [(x, .inr (4, [.ref ax, .ref aw, .ref an, .ref aa, .ref a0, .ref a1, .int (nI sk), .int (nI ll), .long sd, .ref ar, .ref aq, .ref al, .ref am])), (aw, .inr (3, [.ref wd, .ref wt, .int (nI W)])), (wt, .inl (cI, 4, .inl tf)), (an, .inr (1, [.ref nc, .int (nI L.length), .int (nI li), .int ye, .int br])), (nc, .inl (cI, 48, .inl f)), (ar, .inr (1, [.ref rc, .int (nI un22), .int (nI ul22), .int uy22, .int ub22])), (rc, .inl (cI, 48, .inl uf22)), (al, .inl (cI, 16, .inl g9)), (am, .inl (cI, 16, .inl h9))] [(5, .int (nI m)), (4, .int (nI ((lmvF wv li m).2))), (3, .int (zI ((lmvF wv li m).1))), (0, .ref x), (1, .int (nI j)), (2, .int (nI q))] 63 [] := by
              intro n_63
              induction n_63 with
              | zero => intro m hm; exact absurd hm (Nat.not_lt_zero _)
              | succ n_63 ih_63 =>
                intro m hm_63 hm
                refine x_iload ok 0 dX4_lords_63 rfl ?_
                refine x_aload_n ok 3 dX4_lords_65 rfl rfl ?_
                refine gX4_19 ok dX4_lords_66 0 rfl rfl ?_
                refine gX4_68 ok dX4_lords_69 1 rfl rfl ?_
                refine x_icmp_gtN ok 112 dX4_lords_72 (by decide) (by omega) (by omega) (fun c_72 => ?_) (fun c_72 => ?_)
                · skip
                  have e_m : W + 1 = m := by omega
                  subst e_m
                  have hlw := hlb (W + 1)
                  refine x_iload_n ok 5 dX4_lords_112 rfl rfl ?_
                  refine x_if_neN ok 120 dX4_lords_113 (by decide) (by omega) (fun c_113 => ?_) (fun c_113 => ?_)
                  · skip
                    refine x_iload ok 1 dX4_lords_120 rfl ?_
                    exact ret (un22, ul22, uy22, ub22, uf22, g9, h9) _ _ _ (nI ((lmvF wv li (W + 1)).2)) dX4_lords_122 (rfl) (by rw [lordsI, if_pos ⟨c_6, c_15⟩, ej, show lrT W (lw0 ll st W L) j = wv from funext fun q => (hfin q).symm]; simp only; rw [if_neg (fun z => c_113 ((nI_eq (by omega) (by omega)).mp z))]) (trivial)
                  · skip
                    refine x_iload_n ok 2 dX4_lords_116 rfl rfl ?_
                    refine x_goto ok 122 dX4_lords_117 (by decide) ?_
                    exact ret (un22, ul22, uy22, ub22, uf22, g9, h9) _ _ _ ((zI ((lmvF wv li (W + 1)).1))) dX4_lords_122 (rfl) (by rw [lordsI, if_pos ⟨c_6, c_15⟩, ej, c_113, show lrT W (lw0 ll st W L) j = wv from funext fun q => (hfin q).symm]; rfl) (trivial)
                · skip
                  have hlm := hlb m
                  have hmv := mv_lt (q := li) (m := m) hl16 (by omega)
                  have hwm := hwv (mvN li m)
                  refine x_aload_n ok 3 dX4_lords_75 rfl rfl ?_
                  refine x_aload_n ok 3 dX4_lords_76 rfl rfl ?_
                  refine gX4_26 ok dX4_lords_77 0 rfl rfl ?_
                  refine gX4_109 ok dX4_lords_80 3 rfl rfl ?_
                  refine x_iload ok 0 dX4_lords_83 rfl ?_
                  refine qX4_248 ok (As := [.int (nI li), .int (nI m)]) (st := [.ref x]) (c4_lidsBehind l D cI cZ cS li m (by first | assumption | omega)) rfl (Nat.le_of_ble_eq_true rfl) (Nat.le_of_ble_eq_true rfl) (Nat.le_of_ble_eq_true rfl) dX4_lords_85 [] (by decide) rfl (ws' := fun u => [(x, .inr (4, [.ref ax, .ref aw, .ref an, .ref aa, .ref a0, .ref a1, .int (nI sk), .int (nI ll), .long sd, .ref ar, .ref aq, .ref al, .ref am])), (aw, .inr (3, [.ref wd, .ref wt, .int (nI W)])), (wt, .inl (cI, 4, .inl tf)), (an, .inr (1, [.ref nc, .int (nI L.length), .int (nI li), .int ye, .int br])), (nc, .inl (cI, 48, .inl f)), (ar, .inr (1, [.ref rc, .int (nI un22), .int (nI ul22), .int uy22, .int ub22])), (rc, .inl (cI, 48, .inl uf22)), (al, .inl (cI, 16, .inl g9)), (am, .inl (cI, 16, .inl h9))]) (st' := fun u => [.int (nI (mvN li m)), .ref x]) (fun _ => rfl) (fun _ => rfl) (fun _ => rfl) (fun _ _ => ?_)
                  refine qX4_251 ok (As := [.int (nI (mvN li m))]) (st := []) 0 rfl (c4_worthOfLids l D cI cZ cS x ax aw an aa a0 a1 sk ll ar aq al am sd g9 wv (mvN li m) (by first | assumption | omega) (hg9)) rfl (Nat.le_of_ble_eq_true rfl) (Nat.le_of_ble_eq_true rfl) (Nat.le_of_ble_eq_true rfl) dX4_lords_88 [0, 7] (by decide) rfl (ws' := fun u => [(x, .inr (4, [.ref ax, .ref aw, .ref an, .ref aa, .ref a0, .ref a1, .int (nI sk), .int (nI ll), .long sd, .ref ar, .ref aq, .ref al, .ref am])), (aw, .inr (3, [.ref wd, .ref wt, .int (nI W)])), (wt, .inl (cI, 4, .inl tf)), (an, .inr (1, [.ref nc, .int (nI L.length), .int (nI li), .int ye, .int br])), (nc, .inl (cI, 48, .inl f)), (ar, .inr (1, [.ref rc, .int (nI un22), .int (nI ul22), .int uy22, .int ub22])), (rc, .inl (cI, 48, .inl uf22)), (al, .inl (cI, 16, .inl g9)), (am, .inl (cI, 16, .inl h9))]) (st' := fun u => [.int (nI (wv (mvN li m)))]) (fun _ => rfl) (fun _ => rfl) (fun _ => rfl) (fun _ _ => ?_)
                  refine x_eq (st' := [.int (zI (wv (mvN li m) : Int))]) rfl rfl (rfl) ?_
                  refine x_istore ok (lv' := [(6, .int (zI (wv (mvN li m) : Int))), (5, .int (nI m)), (4, .int (nI ((lmvF wv li m).2))), (3, .int (zI ((lmvF wv li m).1))), (0, .ref x), (1, .int (nI j)), (2, .int (nI q))]) dX4_lords_91 (by decide) rfl ?_
                  refine x_iload ok 0 dX4_lords_93 rfl ?_
                  refine x_iload_n ok 3 dX4_lords_95 rfl rfl ?_
                  refine x_icmp_le ok 106 dX4_lords_96 (by decide) (fun c_96 => ?_) (fun c_96 => ?_)
                  · skip
                    have nle : ¬ (lmvF wv li m).1 < (wv (mvN li m) : Int) := fun z => by have := (zI_le (by omega) (by omega) (by omega) (by omega)).mp c_96; omega
                    refine x_iinc ok (v := nI (m + 1)) (lv' := [(5, .int (nI (m + 1))), (6, .int (zI (wv (mvN li m) : Int))), (4, .int (nI ((lmvF wv li m).2))), (3, .int (zI ((lmvF wv li m).1))), (0, .ref x), (1, .int (nI j)), (2, .int (nI q))]) dX4_lords_106 1 rfl (nN (nI_inc _ 1) (by omega)) (by decide) rfl ?_
                    refine x_goto ok 63 dX4_lords_109 (by decide) ?_
                    refine x_loc ok [0, 2, 3, 4, 5, 6] (lv' := [(5, .int (nI (m + 1))), (4, .int (nI ((lmvF wv li m).2))), (3, .int (zI ((lmvF wv li m).1))), (0, .ref x), (1, .int (nI j)), (2, .int (nI q))]) rfl ?_
                    have em : lmvF wv li (m + 1) = lmvF wv li m := by simp only [lmvF]; rw [if_neg nle]
                    refine x_eq (lv' := [(5, .int (nI (m + 1))), (4, .int (nI ((lmvF wv li (m + 1)).2))), (3, .int (zI ((lmvF wv li (m + 1)).1))), (0, .ref x), (1, .int (nI j)), (2, .int (nI q))]) rfl (by rw [em]) rfl ?_
                    exact ih_63 (m + 1) (by omega) (by first | assumption | omega)
                  · skip
                    have yle : (lmvF wv li m).1 < (wv (mvN li m) : Int) := Classical.byContradiction fun z => c_96 ((zI_le (by omega) (by omega) (by omega) (by omega)).mpr (by omega))
                    refine x_iload ok 0 dX4_lords_99 rfl ?_
                    refine x_istore_n ok (lv' := [(3, .int (zI (wv (mvN li m) : Int))), (6, .int (zI (wv (mvN li m) : Int))), (5, .int (nI m)), (4, .int (nI ((lmvF wv li m).2))), (0, .ref x), (1, .int (nI j)), (2, .int (nI q))]) dX4_lords_101 rfl (by decide) rfl ?_
                    refine x_iload ok 2 dX4_lords_102 rfl ?_
                    refine x_istore ok (lv' := [(4, .int (nI m)), (3, .int (zI (wv (mvN li m) : Int))), (6, .int (zI (wv (mvN li m) : Int))), (5, .int (nI m)), (0, .ref x), (1, .int (nI j)), (2, .int (nI q))]) dX4_lords_104 (by decide) rfl ?_
                    refine x_iinc ok (v := nI (m + 1)) (lv' := [(5, .int (nI (m + 1))), (4, .int (nI m)), (3, .int (zI (wv (mvN li m) : Int))), (6, .int (zI (wv (mvN li m) : Int))), (0, .ref x), (1, .int (nI j)), (2, .int (nI q))]) dX4_lords_106 3 rfl (nN (nI_inc _ 1) (by omega)) (by decide) rfl ?_
                    refine x_goto ok 63 dX4_lords_109 (by decide) ?_
                    refine x_loc ok [0, 1, 2, 4, 5, 6] (lv' := [(5, .int (nI (m + 1))), (4, .int (nI m)), (3, .int (zI (wv (mvN li m) : Int))), (0, .ref x), (1, .int (nI j)), (2, .int (nI q))]) rfl ?_
                    have em : lmvF wv li (m + 1) = ((wv (mvN li m) : Int), m) := by simp only [lmvF]; rw [if_pos yle]
                    refine x_eq (lv' := [(5, .int (nI (m + 1))), (4, .int (nI ((lmvF wv li (m + 1)).2))), (3, .int (zI ((lmvF wv li (m + 1)).1))), (0, .ref x), (1, .int (nI j)), (2, .int (nI q))]) rfl (by rw [em]) rfl ?_
                    exact ih_63 (m + 1) (by omega) (by first | assumption | omega)
            exact L_63 _ 0 (Nat.lt_succ_self _) (by first | assumption | omega)
          · skip
            refine x_aload_n ok 1 dX4_lords_32 rfl rfl ?_
            refine x_iload_n ok 0 dX4_lords_33 rfl rfl ?_
            refine x_iconst ok (nI 2) dX4_lords_34 (by decide) ?_
            refine x_irem ok (nI (t % 2)) dX4_lords_35 (by decide) (pk_rem (by omega) (by omega) (by omega)) ?_
            refine x_iconst ok (nI 1) dX4_lords_36 (by decide) ?_
            have J_45 : ∀ (b45_1 : Bool), b45_1 = (if (t % 2) = 1 then true else false) → XX K [(x, .inr (4, [.ref ax, .ref aw, .ref an, .ref aa, .ref a0, .ref a1, .int (nI sk), .int (nI ll), .long sd, .ref ar, .ref aq, .ref al, .ref am])), (aw, .inr (3, [.ref wd, .ref wt, .int (nI W)])), (wt, .inl (cI, 4, .inl tf)), (an, .inr (1, [.ref nc, .int (nI L.length), .int (nI li), .int ye, .int br])), (nc, .inl (cI, 48, .inl f)), (ar, .inr (1, [.ref rc, .int (nI un22), .int (nI ul22), .int uy22, .int ub22])), (rc, .inl (cI, 48, .inl uf22)), (al, .inl (cI, 16, .inl g9)), (am, .inl (cI, 16, .inl h9))] [(3, .int (nI t)), (0, .ref x), (1, .int (nI j)), (2, .int (nI q))] 45 [.int (bz b45_1), .ref x] := by
              intro b45_1 e_b45_1
              refine qX4_244 ok (As := [.int (bz b45_1)]) (st := []) 0 rfl (c4_weighTurn l D cI cZ cS x ax aw an aa a0 a1 sk ll ar aq al am sd wd wt W g9 h9 wv b45_1 (by first | assumption | omega) (hg9) (hwv)) rfl (Nat.le_of_ble_eq_true rfl) (Nat.le_of_ble_eq_true rfl) (Nat.le_of_ble_eq_true rfl) dX4_lords_45 [0, 1, 7, 8] (by decide) rfl (ws' := fun u => [(x, .inr (4, [.ref ax, .ref aw, .ref an, .ref aa, .ref a0, .ref a1, .int (nI sk), .int (nI ll), .long sd, .ref ar, .ref aq, .ref al, .ref am])), (aw, .inr (3, [.ref wd, .ref wt, .int (nI W)])), (wt, .inl (cI, 4, .inl tf)), (an, .inr (1, [.ref nc, .int (nI L.length), .int (nI li), .int ye, .int br])), (nc, .inl (cI, 48, .inl f)), (ar, .inr (1, [.ref rc, .int (nI un22), .int (nI ul22), .int uy22, .int ub22])), (rc, .inl (cI, 48, .inl uf22)), (al, .inl (cI, 16, .inl u.1)), (am, .inl (cI, 16, .inl u.2))]) (st' := fun u => []) (fun _ => rfl) (fun _ => rfl) (fun _ => rfl) (fun u45 hu45 => ?_)
              obtain ⟨g45, g245⟩ := u45
              have hg45 := hu45
              have hg45 : ∀ j, j < 16 → g45 j = nI (lwT b45_1 W wv j) := hg45
              show XX K [(x, .inr (4, [.ref ax, .ref aw, .ref an, .ref aa, .ref a0, .ref a1, .int (nI sk), .int (nI ll), .long sd, .ref ar, .ref aq, .ref al, .ref am])), (aw, .inr (3, [.ref wd, .ref wt, .int (nI W)])), (wt, .inl (cI, 4, .inl tf)), (an, .inr (1, [.ref nc, .int (nI L.length), .int (nI li), .int ye, .int br])), (nc, .inl (cI, 48, .inl f)), (ar, .inr (1, [.ref rc, .int (nI un22), .int (nI ul22), .int uy22, .int ub22])), (rc, .inl (cI, 48, .inl uf22)), (al, .inl (cI, 16, .inl g45)), (am, .inl (cI, 16, .inl g245))] [(3, .int (nI t)), (0, .ref x), (1, .int (nI j)), (2, .int (nI q))] 48 []
              refine x_iinc ok (v := nI (t - 1)) (lv' := [(3, .int (nI (t - 1))), (0, .ref x), (1, .int (nI j)), (2, .int (nI q))]) dX4_lords_48 0 rfl (nI_dec (by omega)) (by decide) rfl ?_
              refine x_goto ok 27 dX4_lords_51 (by decide) ?_
              exact ih_27 (t - 1) (lwT b45_1 W wv) g45 g245 (by omega) (by first | assumption | omega) (by first | assumption | omega) (hg45) (fun q => lwT_le hwv q) (fun q => (by rw [show b45_1 = decide (t % 2 = 1) from by rw [e_b45_1]; by_cases c : t % 2 = 1 <;> simp [c]]; exact (lrT_s (by omega) q).symm : lrT W (lwT b45_1 W wv) (t - 1) q = lrT W wv t q).trans (hlr q))
            refine x_icmp_neN ok 44 dX4_lords_37 (by decide) (by omega) (by omega) (fun c_37 => ?_) (fun c_37 => ?_)
            · skip
              refine x_iconst ok (nI 0) dX4_lords_44 (by decide) ?_
              exact J_45 false (by first | rfl | (simp only [if_neg c_37]; done) | (simp [c_37]; done))
            · skip
              refine x_iconst ok (nI 1) dX4_lords_40 (by decide) ?_
              refine x_goto ok 45 dX4_lords_41 (by decide) ?_
              exact J_45 true (by first | rfl | (simp only [if_pos c_37]; done) | (simp [c_37]; done))
      exact L_27 _ j (lw0 ll st W L) g22 hf (Nat.lt_succ_self _) (by first | assumption | omega) (by first | assumption | omega) (hg22) (fun _ => lw0_le hv) (fun _ => rfl)
    · skip
      refine x_bipush ok ((-2)) dX4_lords_18 (by decide) ?_
      exact ret (rn, rl, ry, rb, rf, wf, hf) _ _ _ ((-2)) dX4_lords_20 (rfl) (by rw [lordsI, if_neg (fun z => c_15 z.2)]) (trivial)

set_option maxHeartbeats 4000000 in
set_option maxRecDepth 100000 in
theorem p_rain (l : Launch) (D : va_G) (cI cZ cS : ClassId) (x : Nat) (ax : Nat) (aw : Nat) (an : Nat) (aa : Nat) (a0 : Nat) (a1 : Nat) (sk : Nat) (ll : Nat) (ar : Nat) (aq : Nat) (al : Nat) (am : Nat) (sd : Int64) (nc : Nat) (L : List Sg) (li : Nat) (ye : Int32) (br : Int32) (f : Nat → Int32) (wd : Nat) (wt : Nat) (W : Nat) (A : Nat) (z : Int32) (z2 : Int32) (up : Bool) (hf : hs f L) (hv : okL W A L) (hW : W ≤ 4) (hl : li < 256) : CO l D (TY cI cZ cS) yX4_rain cX4_rain 8 (some .int) 3 68 0 0 [.ref x, .int z, .int z2, .int (bz up)] [(x, .inr (4, [.ref ax, .ref aw, .ref an, .ref aa, .ref a0, .ref a1, .int (nI sk), .int (nI ll), .long sd, .ref ar, .ref aq, .ref al, .ref am])), (aw, .inr (3, [.ref wd, .ref wt, .int (nI W)])), (an, .inr (1, [.ref nc, .int (nI L.length), .int (nI li), .int ye, .int br])), (nc, .inl (cI, 48, .inl f))] (σ := Unit) (fun u => some (.int (rainI W li L z z2 up))) (fun u => [(x, .inr (4, [.ref ax, .ref aw, .ref an, .ref aa, .ref a0, .ref a1, .int (nI sk), .int (nI ll), .long sd, .ref ar, .ref aq, .ref al, .ref am])), (aw, .inr (3, [.ref wd, .ref wt, .int (nI W)])), (an, .inr (1, [.ref nc, .int (nI L.length), .int (nI li), .int ye, .int br])), (nc, .inl (cI, 48, .inl f))]) (fun u => True) := by
  refine CO_mki (by decide +kernel) (Nat.le_of_ble_eq_true rfl) (fun K ok ret => ?_)
  show XX K [(x, .inr (4, [.ref ax, .ref aw, .ref an, .ref aa, .ref a0, .ref a1, .int (nI sk), .int (nI ll), .long sd, .ref ar, .ref aq, .ref al, .ref am])), (aw, .inr (3, [.ref wd, .ref wt, .int (nI W)])), (an, .inr (1, [.ref nc, .int (nI L.length), .int (nI li), .int ye, .int br])), (nc, .inl (cI, 48, .inl f))] [(0, .ref x), (1, .int z), (2, .int z2), (3, .int (bz up))] 0 []
  have h8 := hv.1
  refine x_iload_n ok 1 dX4_rain_0 rfl rfl ?_
  refine x_iconst ok (nI 0) dX4_rain_1 (by decide) ?_
  refine x_iconst ok (nI 5) dX4_rain_2 (by decide) ?_
  refine qX4_128 ok (As := [.int z, .int (nI 0), .int (nI 5)]) (st := []) (c4_isWithin l D cI cZ cS z (nI 0) (nI 5) ) rfl (Nat.le_of_ble_eq_true rfl) (Nat.le_of_ble_eq_true rfl) (Nat.le_of_ble_eq_true rfl) dX4_rain_3 [] (by decide) rfl (ws' := fun u => [(x, .inr (4, [.ref ax, .ref aw, .ref an, .ref aa, .ref a0, .ref a1, .int (nI sk), .int (nI ll), .long sd, .ref ar, .ref aq, .ref al, .ref am])), (aw, .inr (3, [.ref wd, .ref wt, .int (nI W)])), (an, .inr (1, [.ref nc, .int (nI L.length), .int (nI li), .int ye, .int br])), (nc, .inl (cI, 48, .inl f))]) (st' := fun u => [.int (bz (inB z (nI 0) (nI 5)))]) (fun _ => rfl) (fun _ => rfl) (fun _ => rfl) (fun _ _ => ?_)
  refine x_if_eqB ok 19 dX4_rain_6 (by decide) (fun c_6 => ?_) (fun c_6 => ?_)
  · skip
    refine x_bipush ok ((-2)) dX4_rain_19 (by decide) ?_
    exact ret () _ _ _ ((-2)) dX4_rain_21 (rfl) (by rw [rainI, if_neg (fun z => c_6 z.1)]) (trivial)
  · skip
    obtain ⟨j, hj0, hj, e_z⟩ := inB_t (by omega) (by omega) c_6
    subst e_z
    have ej := cl_n (show j < 2 ^ 31 by omega)
    refine x_iload_n ok 2 dX4_rain_9 rfl rfl ?_
    refine x_iconst ok (nI 0) dX4_rain_10 (by decide) ?_
    refine x_bipush ok (nI 10) dX4_rain_11 (by decide) ?_
    refine qX4_128 ok (As := [.int z2, .int (nI 0), .int (nI 10)]) (st := []) (c4_isWithin l D cI cZ cS z2 (nI 0) (nI 10) ) rfl (Nat.le_of_ble_eq_true rfl) (Nat.le_of_ble_eq_true rfl) (Nat.le_of_ble_eq_true rfl) dX4_rain_13 [] (by decide) rfl (ws' := fun u => [(x, .inr (4, [.ref ax, .ref aw, .ref an, .ref aa, .ref a0, .ref a1, .int (nI sk), .int (nI ll), .long sd, .ref ar, .ref aq, .ref al, .ref am])), (aw, .inr (3, [.ref wd, .ref wt, .int (nI W)])), (an, .inr (1, [.ref nc, .int (nI L.length), .int (nI li), .int ye, .int br])), (nc, .inl (cI, 48, .inl f))]) (st' := fun u => [.int (bz (inB z2 (nI 0) (nI 10)))]) (fun _ => rfl) (fun _ => rfl) (fun _ => rfl) (fun _ _ => ?_)
    refine x_if_neB ok 22 dX4_rain_16 (by decide) (fun c_16 => ?_) (fun c_16 => ?_)
    · skip
      obtain ⟨q, hq0, hq, e_z2⟩ := inB_t (by omega) (by omega) c_16
      subst e_z2
      have eq := cl_n (show q < 2 ^ 31 by omega)
      refine x_aload_n ok 0 dX4_rain_22 rfl rfl ?_
      refine gX4_26 ok dX4_rain_23 0 rfl rfl ?_
      refine x_iload_n ok 1 dX4_rain_26 rfl rfl ?_
      refine qX4_254 ok (As := [.int (nI j)]) (st := []) 2 rfl (c1_isSafe l D cI cZ cS an nc L li ye br f W A j (by first | assumption | omega) (by first | assumption | omega) (by first | assumption | omega) (by first | assumption | omega) (by first | assumption | omega)) rfl (Nat.le_of_ble_eq_true rfl) (Nat.le_of_ble_eq_true rfl) (Nat.le_of_ble_eq_true rfl) dX4_rain_27 [2, 3] (by decide) rfl (ws' := fun u => [(x, .inr (4, [.ref ax, .ref aw, .ref an, .ref aa, .ref a0, .ref a1, .int (nI sk), .int (nI ll), .long sd, .ref ar, .ref aq, .ref al, .ref am])), (aw, .inr (3, [.ref wd, .ref wt, .int (nI W)])), (an, .inr (1, [.ref nc, .int (nI L.length), .int (nI li), .int ye, .int br])), (nc, .inl (cI, 48, .inl f))]) (st' := fun u => [.int (bz (anyN (safeB L li j) L.length))]) (fun _ => rfl) (fun _ => rfl) (fun _ => rfl) (fun _ _ => ?_)
      refine x_if_eqB ok 35 dX4_rain_30 (by decide) (fun c_30 => ?_) (fun c_30 => ?_)
      · skip
        refine x_iconst ok (nI 1) dX4_rain_35 (by decide) ?_
        refine x_eq (st' := [.int (nI ((rnF L j q 0).1))]) rfl rfl (rfl) ?_
        refine x_istore ok (lv' := [(4, .int (nI ((rnF L j q 0).1))), (0, .ref x), (1, .int (nI j)), (2, .int (nI q)), (3, .int (bz up))]) dX4_rain_36 (by decide) rfl ?_
        refine x_iconst ok (nI 1) dX4_rain_38 (by decide) ?_
        refine x_eq (st' := [.int (nI ((rnF L j q 0).2))]) rfl rfl (rfl) ?_
        refine x_istore ok (lv' := [(5, .int (nI ((rnF L j q 0).2))), (4, .int (nI ((rnF L j q 0).1))), (0, .ref x), (1, .int (nI j)), (2, .int (nI q)), (3, .int (bz up))]) dX4_rain_39 (by decide) rfl ?_
        refine x_iconst ok (nI 0) dX4_rain_41 (by decide) ?_
        refine x_istore ok (lv' := [(6, .int (nI 0)), (5, .int (nI ((rnF L j q 0).2))), (4, .int (nI ((rnF L j q 0).1))), (0, .ref x), (1, .int (nI j)), (2, .int (nI q)), (3, .int (bz up))]) dX4_rain_42 (by decide) rfl ?_
        have L_44 : ∀ (n_44 : Nat) (i : Nat), W - i < n_44 → (i ≤ W) → XX K [(x, .inr (4, [.ref ax, .ref aw, .ref an, .ref aa, .ref a0, .ref a1, .int (nI sk), .int (nI ll), .long sd, .ref ar, .ref aq, .ref al, .ref am])), (aw, .inr (3, [.ref wd, .ref wt, .int (nI W)])), (an, .inr (1, [.ref nc, .int (nI L.length), .int (nI li), .int ye, .int br])), (nc, .inl (cI, 48, .inl f))] [(6, .int (nI i)), (5, .int (nI ((rnF L j q i).2))), (4, .int (nI ((rnF L j q i).1))), (0, .ref x), (1, .int (nI j)), (2, .int (nI q)), (3, .int (bz up))] 44 [] := by
          intro n_44
          induction n_44 with
          | zero => intro i hm; exact absurd hm (Nat.not_lt_zero _)
          | succ n_44 ih_44 =>
            intro i hm_44 hi
            refine x_iload ok 0 dX4_rain_44 rfl ?_
            refine x_aload_n ok 3 dX4_rain_46 rfl rfl ?_
            refine gX4_19 ok dX4_rain_47 0 rfl rfl ?_
            refine gX4_68 ok dX4_rain_50 1 rfl rfl ?_
            refine x_icmp_geN ok 88 dX4_rain_53 (by decide) (by omega) (by omega) (fun c_53 => ?_) (fun c_53 => ?_)
            · skip
              have e_i : W = i := by omega
              subst e_i
              have hrw := rnF_le (L := L) (a := j) hq W
              have hpw : 10 ^ W ≤ 10 ^ 4 := Nat.pow_le_pow_right (by omega) (by omega)
              have hgp := Nat.gcd_pos_of_pos_left ((rnF L j q W).1 - (rnF L j q W).2) hrw.2.2
              have hgl := Nat.gcd_le_left ((rnF L j q W).1 - (rnF L j q W).2) hrw.2.2
              refine x_iload ok 2 dX4_rain_88 rfl ?_
              refine x_iload ok 2 dX4_rain_90 rfl ?_
              refine x_iload ok 1 dX4_rain_92 rfl ?_
              refine x_isub ok (nI (((rnF L j q W).1) - ((rnF L j q W).2))) dX4_rain_94 (pk_sub (by omega)) ?_
              refine qX4_261 ok (As := [.int (nI ((rnF L j q W).1)), .int (nI (((rnF L j q W).1) - ((rnF L j q W).2)))]) (st := []) (c4_greatestDivisor l D cI cZ cS ((rnF L j q W).1) (((rnF L j q W).1) - ((rnF L j q W).2)) (by first | assumption | omega) (by first | assumption | omega)) rfl (Nat.le_of_ble_eq_true rfl) (Nat.le_of_ble_eq_true rfl) (Nat.le_of_ble_eq_true rfl) dX4_rain_95 [] (by decide) rfl (ws' := fun u => [(x, .inr (4, [.ref ax, .ref aw, .ref an, .ref aa, .ref a0, .ref a1, .int (nI sk), .int (nI ll), .long sd, .ref ar, .ref aq, .ref al, .ref am])), (aw, .inr (3, [.ref wd, .ref wt, .int (nI W)])), (an, .inr (1, [.ref nc, .int (nI L.length), .int (nI li), .int ye, .int br])), (nc, .inl (cI, 48, .inl f))]) (st' := fun u => [.int (nI (Nat.gcd ((rnF L j q W).1) (((rnF L j q W).1) - ((rnF L j q W).2))))]) (fun _ => rfl) (fun _ => rfl) (fun _ => rfl) (fun _ _ => ?_)
              refine x_istore ok (lv' := [(6, .int (nI (Nat.gcd ((rnF L j q W).1) (((rnF L j q W).1) - ((rnF L j q W).2))))), (5, .int (nI ((rnF L j q W).2))), (4, .int (nI ((rnF L j q W).1))), (0, .ref x), (1, .int (nI j)), (2, .int (nI q)), (3, .int (bz up))]) dX4_rain_98 (by decide) rfl ?_
              refine x_iload_n ok 6 dX4_rain_100 rfl rfl ?_
              have J_114 : ∀ (v114_1 : Nat), v114_1 = (if up = true then ((rnF L j q W).1) - ((rnF L j q W).2) else ((rnF L j q W).1)) → XX K [(x, .inr (4, [.ref ax, .ref aw, .ref an, .ref aa, .ref a0, .ref a1, .int (nI sk), .int (nI ll), .long sd, .ref ar, .ref aq, .ref al, .ref am])), (aw, .inr (3, [.ref wd, .ref wt, .int (nI W)])), (an, .inr (1, [.ref nc, .int (nI L.length), .int (nI li), .int ye, .int br])), (nc, .inl (cI, 48, .inl f))] [(6, .int (nI (Nat.gcd ((rnF L j q W).1) (((rnF L j q W).1) - ((rnF L j q W).2))))), (5, .int (nI ((rnF L j q W).2))), (4, .int (nI ((rnF L j q W).1))), (0, .ref x), (1, .int (nI j)), (2, .int (nI q)), (3, .int (bz up))] 114 [.int (nI v114_1)] := by
                intro v114_1 e_v114_1
                refine x_istore ok (lv' := [(7, .int (nI v114_1)), (6, .int (nI (Nat.gcd ((rnF L j q W).1) (((rnF L j q W).1) - ((rnF L j q W).2))))), (5, .int (nI ((rnF L j q W).2))), (4, .int (nI ((rnF L j q W).1))), (0, .ref x), (1, .int (nI j)), (2, .int (nI q)), (3, .int (bz up))]) dX4_rain_114 (by decide) rfl ?_
                refine x_iload ok 1 dX4_rain_116 rfl ?_
                refine x_if_leN ok 129 dX4_rain_118 (by decide) (by omega) (fun c_118 => absurd c_118 (Nat.ne_of_gt hgp)) (fun c_118 => ?_)
                refine x_iload ok 0 dX4_rain_121 rfl ?_
                refine x_iload ok 1 dX4_rain_123 rfl ?_
                refine x_idiv ok (nI ((v114_1) / (Nat.gcd ((rnF L j q W).1) (((rnF L j q W).1) - ((rnF L j q W).2))))) dX4_rain_125 (fun z => Nat.ne_of_gt hgp ((nI_eq0 _ (by omega)).mp z)) (pk_div (by rw [e_v114_1]; split <;> omega) hgp (by omega)) ?_
                refine x_goto ok 131 dX4_rain_126 (by decide) ?_
                exact ret () _ _ _ (nI ((v114_1) / (Nat.gcd ((rnF L j q W).1) (((rnF L j q W).1) - ((rnF L j q W).2))))) dX4_rain_131 (rfl) (by rw [rainI, if_pos ⟨c_6, c_16⟩, ej, eq, if_neg c_30, e_v114_1]) (trivial)
              refine x_if_eqB ok 112 dX4_rain_101 (by decide) (fun c_101 => ?_) (fun c_101 => ?_)
              · skip
                refine x_iload ok 2 dX4_rain_112 rfl ?_
                exact J_114 ((rnF L j q W).1) (by first | rfl | (simp only [if_neg c_101]; done) | (simp [c_101]; done))
              · skip
                refine x_iload ok 2 dX4_rain_104 rfl ?_
                refine x_iload ok 1 dX4_rain_106 rfl ?_
                refine x_isub ok (nI (((rnF L j q W).1) - ((rnF L j q W).2))) dX4_rain_108 (pk_sub (by omega)) ?_
                refine x_goto ok 114 dX4_rain_109 (by decide) ?_
                exact J_114 (((rnF L j q W).1) - ((rnF L j q W).2)) (by first | rfl | (simp only [if_pos c_101]; done) | (simp [c_101]; done))
            · skip
              have hri := rnF_le (L := L) (a := j) hq i
              have hpw : 10 ^ i ≤ 10 ^ 4 := Nat.pow_le_pow_right (by omega) (by omega)
              have hqm : (rnF L j q i).2 * q ≤ (rnF L j q i).2 * 10 := Nat.mul_le_mul_left _ hq
              refine x_aload_n ok 3 dX4_rain_56 rfl rfl ?_
              refine gX4_26 ok dX4_rain_57 0 rfl rfl ?_
              refine x_iload_n ok 4 dX4_rain_60 rfl rfl ?_
              refine x_iload ok 0 dX4_rain_61 rfl ?_
              refine qX4_257 ok (As := [.int (nI j), .int (nI i)]) (st := []) 2 rfl (c1_hasLawIn l D cI cZ cS an nc L li ye br f W A j i (by first | assumption | omega) (by first | assumption | omega) (by first | assumption | omega) (by first | assumption | omega) (by first | assumption | omega)) rfl (Nat.le_of_ble_eq_true rfl) (Nat.le_of_ble_eq_true rfl) (Nat.le_of_ble_eq_true rfl) dX4_rain_63 [2, 3] (by decide) rfl (ws' := fun u => [(x, .inr (4, [.ref ax, .ref aw, .ref an, .ref aa, .ref a0, .ref a1, .int (nI sk), .int (nI ll), .long sd, .ref ar, .ref aq, .ref al, .ref am])), (aw, .inr (3, [.ref wd, .ref wt, .int (nI W)])), (an, .inr (1, [.ref nc, .int (nI L.length), .int (nI li), .int ye, .int br])), (nc, .inl (cI, 48, .inl f))]) (st' := fun u => [.int (bz ((orN (bitN L (orN (sing1 L i) L.length)) L.length).testBit j))]) (fun _ => rfl) (fun _ => rfl) (fun _ => rfl) (fun _ _ => ?_)
              refine x_if_eqB ok 82 dX4_rain_66 (by decide) (fun c_66 => ?_) (fun c_66 => ?_)
              · skip
                refine x_iinc ok (v := nI (i + 1)) (lv' := [(6, .int (nI (i + 1))), (5, .int (nI ((rnF L j q i).2))), (4, .int (nI ((rnF L j q i).1))), (0, .ref x), (1, .int (nI j)), (2, .int (nI q)), (3, .int (bz up))]) dX4_rain_82 0 rfl (nN (nI_inc _ 1) (by omega)) (by decide) rfl ?_
                refine x_goto ok 44 dX4_rain_85 (by decide) ?_
                have em : rnF L j q (i + 1) = rnF L j q i := by simp only [rnF]; rw [if_neg c_66]
                refine x_eq (lv' := [(6, .int (nI (i + 1))), (5, .int (nI ((rnF L j q (i + 1)).2))), (4, .int (nI ((rnF L j q (i + 1)).1))), (0, .ref x), (1, .int (nI j)), (2, .int (nI q)), (3, .int (bz up))]) rfl (by rw [em]) rfl ?_
                exact ih_44 (i + 1) (by omega) (by first | assumption | omega)
              · skip
                refine x_iload ok 2 dX4_rain_69 rfl ?_
                refine x_bipush ok (nI 10) dX4_rain_71 (by decide) ?_
                refine x_imul ok (nI ((rnF L j q i).1 * 10)) dX4_rain_73 (pk_mul _ _) ?_
                refine x_istore ok (lv' := [(4, .int (nI ((rnF L j q i).1 * 10))), (6, .int (nI i)), (5, .int (nI ((rnF L j q i).2))), (0, .ref x), (1, .int (nI j)), (2, .int (nI q)), (3, .int (bz up))]) dX4_rain_74 (by decide) rfl ?_
                refine x_iload ok 2 dX4_rain_76 rfl ?_
                refine x_iload_n ok 5 dX4_rain_78 rfl rfl ?_
                refine x_imul ok (nI ((rnF L j q i).2 * q)) dX4_rain_79 (pk_mul _ _) ?_
                refine x_istore ok (lv' := [(5, .int (nI ((rnF L j q i).2 * q))), (4, .int (nI ((rnF L j q i).1 * 10))), (6, .int (nI i)), (0, .ref x), (1, .int (nI j)), (2, .int (nI q)), (3, .int (bz up))]) dX4_rain_80 (by decide) rfl ?_
                refine x_iinc ok (v := nI (i + 1)) (lv' := [(6, .int (nI (i + 1))), (5, .int (nI ((rnF L j q i).2 * q))), (4, .int (nI ((rnF L j q i).1 * 10))), (0, .ref x), (1, .int (nI j)), (2, .int (nI q)), (3, .int (bz up))]) dX4_rain_82 2 rfl (nN (nI_inc _ 1) (by omega)) (by decide) rfl ?_
                refine x_goto ok 44 dX4_rain_85 (by decide) ?_
                have em : rnF L j q (i + 1) = ((rnF L j q i).1 * 10, (rnF L j q i).2 * q) := by simp only [rnF]; rw [if_pos c_66]
                refine x_eq (lv' := [(6, .int (nI (i + 1))), (5, .int (nI ((rnF L j q (i + 1)).2))), (4, .int (nI ((rnF L j q (i + 1)).1))), (0, .ref x), (1, .int (nI j)), (2, .int (nI q)), (3, .int (bz up))]) rfl (by rw [em]) rfl ?_
                exact ih_44 (i + 1) (by omega) (by first | assumption | omega)
        exact L_44 _ 0 (Nat.lt_succ_self _) (by first | assumption | omega)
      · skip
        refine x_iconst ok (nI 1) dX4_rain_33 (by decide) ?_
        exact ret () _ _ _ (nI 1) dX4_rain_34 (rfl) (by rw [rainI, if_pos ⟨c_6, c_16⟩, ej, if_pos c_30]) (trivial)
    · skip
      refine x_bipush ok ((-2)) dX4_rain_19 (by decide) ?_
      exact ret () _ _ _ ((-2)) dX4_rain_21 (rfl) (by rw [rainI, if_neg (fun z => c_16 z.2)]) (trivial)

set_option maxHeartbeats 4000000 in
set_option maxRecDepth 100000 in
theorem p_rains (l : Launch) (D : va_G) (cI cZ cS : ClassId) (x : Nat) (ax : Nat) (aw : Nat) (an : Nat) (aa : Nat) (a0 : Nat) (a1 : Nat) (sk : Nat) (ll : Nat) (ar : Nat) (aq : Nat) (al : Nat) (am : Nat) (sd : Int64) (wd : Nat) (wt : Nat) (W : Nat) (df : Nat → Int32) (tf : Nat → Int32) (dp : Nat → Nat) (st : Nat → Nat) (A : Nat) (nc : Nat) (L : List Sg) (li : Nat) (ye : Int32) (br : Int32) (f : Nat → Int32) (rc : Nat) (rn : Nat) (rl : Nat) (ry : Int32) (rb : Int32) (rf : Nat → Int32) (z : Int32) (z2 : Int32) (hf : hs f L) (hv : okL W A L) (hW : W ≤ 4) (hst : ∀ w, w < W → tf w = nI (st w)) (hst2 : ∀ w, w < W → st w ≤ 2) (hl : li < 256) : CO l D (TY cI cZ cS) yX4_rains cX4_rains 5 (some .int) 4 93 0 0 [.ref x, .int z, .int z2] [(x, .inr (4, [.ref ax, .ref aw, .ref an, .ref aa, .ref a0, .ref a1, .int (nI sk), .int (nI ll), .long sd, .ref ar, .ref aq, .ref al, .ref am])), (aw, .inr (3, [.ref wd, .ref wt, .int (nI W)])), (wt, .inl (cI, 4, .inl tf)), (an, .inr (1, [.ref nc, .int (nI L.length), .int (nI li), .int ye, .int br])), (nc, .inl (cI, 48, .inl f)), (ar, .inr (1, [.ref rc, .int (nI rn), .int (nI rl), .int ry, .int rb])), (rc, .inl (cI, 48, .inl rf))] (σ := (Nat) × (Nat) × (Int32) × (Int32) × (Nat → Int32)) (fun u => some (.int ((rainsI st W li L sd z z2).1))) (fun u => [(x, .inr (4, [.ref ax, .ref aw, .ref an, .ref aa, .ref a0, .ref a1, .int (nI sk), .int (nI ll), .long ((rainsI st W li L sd z z2).2), .ref ar, .ref aq, .ref al, .ref am])), (aw, .inr (3, [.ref wd, .ref wt, .int (nI W)])), (wt, .inl (cI, 4, .inl tf)), (an, .inr (1, [.ref nc, .int (nI L.length), .int (nI li), .int ye, .int br])), (nc, .inl (cI, 48, .inl f)), (ar, .inr (1, [.ref rc, .int (nI u.1), .int (nI u.2.1), .int u.2.2.1, .int u.2.2.2.1])), (rc, .inl (cI, 48, .inl u.2.2.2.2))]) (fun u => True) := by
  refine CO_mki (by decide +kernel) (Nat.le_of_ble_eq_true rfl) (fun K ok ret => ?_)
  show XX K [(x, .inr (4, [.ref ax, .ref aw, .ref an, .ref aa, .ref a0, .ref a1, .int (nI sk), .int (nI ll), .long sd, .ref ar, .ref aq, .ref al, .ref am])), (aw, .inr (3, [.ref wd, .ref wt, .int (nI W)])), (wt, .inl (cI, 4, .inl tf)), (an, .inr (1, [.ref nc, .int (nI L.length), .int (nI li), .int ye, .int br])), (nc, .inl (cI, 48, .inl f)), (ar, .inr (1, [.ref rc, .int (nI rn), .int (nI rl), .int ry, .int rb])), (rc, .inl (cI, 48, .inl rf))] [(0, .ref x), (1, .int z), (2, .int z2)] 0 []
  have h8 := hv.1
  refine x_iload_n ok 1 dX4_rains_0 rfl rfl ?_
  refine x_iconst ok (nI 1) dX4_rains_1 (by decide) ?_
  refine x_bipush ok (nI 20) dX4_rains_2 (by decide) ?_
  refine qX4_128 ok (As := [.int z, .int (nI 1), .int (nI 20)]) (st := []) (c4_isWithin l D cI cZ cS z (nI 1) (nI 20) ) rfl (Nat.le_of_ble_eq_true rfl) (Nat.le_of_ble_eq_true rfl) (Nat.le_of_ble_eq_true rfl) dX4_rains_4 [] (by decide) rfl (ws' := fun u => [(x, .inr (4, [.ref ax, .ref aw, .ref an, .ref aa, .ref a0, .ref a1, .int (nI sk), .int (nI ll), .long sd, .ref ar, .ref aq, .ref al, .ref am])), (aw, .inr (3, [.ref wd, .ref wt, .int (nI W)])), (wt, .inl (cI, 4, .inl tf)), (an, .inr (1, [.ref nc, .int (nI L.length), .int (nI li), .int ye, .int br])), (nc, .inl (cI, 48, .inl f)), (ar, .inr (1, [.ref rc, .int (nI rn), .int (nI rl), .int ry, .int rb])), (rc, .inl (cI, 48, .inl rf))]) (st' := fun u => [.int (bz (inB z (nI 1) (nI 20)))]) (fun _ => rfl) (fun _ => rfl) (fun _ => rfl) (fun _ _ => ?_)
  refine x_if_eqB ok 20 dX4_rains_7 (by decide) (fun c_7 => ?_) (fun c_7 => ?_)
  · skip
    have er : rainsI st W li L sd z z2 = (-2, sd) := by rw [rainsI, if_neg (fun y => c_7 y.1)]
    refine x_bipush ok ((-2)) dX4_rains_20 (by decide) ?_
    exact ret (rn, rl, ry, rb, rf) _ _ _ ((-2)) dX4_rains_22 (by rw [er]) (by rw [er]) (trivial)
  · skip
    refine x_iload_n ok 2 dX4_rains_10 rfl rfl ?_
    refine x_iconst ok (nI 0) dX4_rains_11 (by decide) ?_
    refine x_bipush ok (nI 10) dX4_rains_12 (by decide) ?_
    refine qX4_128 ok (As := [.int z2, .int (nI 0), .int (nI 10)]) (st := []) (c4_isWithin l D cI cZ cS z2 (nI 0) (nI 10) ) rfl (Nat.le_of_ble_eq_true rfl) (Nat.le_of_ble_eq_true rfl) (Nat.le_of_ble_eq_true rfl) dX4_rains_14 [] (by decide) rfl (ws' := fun u => [(x, .inr (4, [.ref ax, .ref aw, .ref an, .ref aa, .ref a0, .ref a1, .int (nI sk), .int (nI ll), .long sd, .ref ar, .ref aq, .ref al, .ref am])), (aw, .inr (3, [.ref wd, .ref wt, .int (nI W)])), (wt, .inl (cI, 4, .inl tf)), (an, .inr (1, [.ref nc, .int (nI L.length), .int (nI li), .int ye, .int br])), (nc, .inl (cI, 48, .inl f)), (ar, .inr (1, [.ref rc, .int (nI rn), .int (nI rl), .int ry, .int rb])), (rc, .inl (cI, 48, .inl rf))]) (st' := fun u => [.int (bz (inB z2 (nI 0) (nI 10)))]) (fun _ => rfl) (fun _ => rfl) (fun _ => rfl) (fun _ _ => ?_)
    refine x_if_neB ok 23 dX4_rains_17 (by decide) (fun c_17 => ?_) (fun c_17 => ?_)
    · skip
      obtain ⟨j, hj0, hj, ej⟩ := inB_t (by omega) (by omega) c_7
      obtain ⟨q, hq0, hq, eq⟩ := inB_t (by omega) (by omega) c_17
      have er : rainsI st W li L sd z z2 = (nI (lawsN (ryF st W li q j (L, sd)).1), (ryF st W li q j (L, sd)).2) := by rw [rainsI, if_pos ⟨c_7, c_17⟩, ej, eq, cl_n (by omega), cl_n (by omega)]
      refine x_eq (lv' := [(0, .ref x), (1, .int (nI j)), (2, .int (nI q))]) rfl (by rw [ej, eq]) rfl ?_
      refine x_aload_n ok 0 dX4_rains_23 rfl rfl ?_
      refine gX4_43 ok dX4_rains_24 0 rfl rfl ?_
      refine x_aload_n ok 0 dX4_rains_27 rfl rfl ?_
      refine gX4_26 ok dX4_rains_28 0 rfl rfl ?_
      refine qX4_168 ok (As := [.ref an]) (st := []) 5 rfl (c1_take l D cI cZ cS ar rc rn rl ry rb rf an nc L li ye br f (by first | assumption | omega) (by first | assumption | omega)) rfl (Nat.le_of_ble_eq_true rfl) (Nat.le_of_ble_eq_true rfl) (Nat.le_of_ble_eq_true rfl) dX4_rains_31 [5, 6, 3, 4] (by decide) rfl (ws' := fun u => [(x, .inr (4, [.ref ax, .ref aw, .ref an, .ref aa, .ref a0, .ref a1, .int (nI sk), .int (nI ll), .long sd, .ref ar, .ref aq, .ref al, .ref am])), (aw, .inr (3, [.ref wd, .ref wt, .int (nI W)])), (wt, .inl (cI, 4, .inl tf)), (an, .inr (1, [.ref nc, .int (nI L.length), .int (nI li), .int ye, .int br])), (nc, .inl (cI, 48, .inl f)), (ar, .inr (1, [.ref rc, .int (nI L.length), .int (nI li), .int ye, .int br])), (rc, .inl (cI, 48, .inl u))]) (st' := fun u => []) (fun _ => rfl) (fun _ => rfl) (fun _ => rfl) (fun u31 hu31 => ?_)
      obtain ⟨g31, rfl⟩ : ∃ z, z = u31 := ⟨_, rfl⟩
      have hg31 := hu31
      have hg31 : hs g31 L := hg31
      show XX K [(x, .inr (4, [.ref ax, .ref aw, .ref an, .ref aa, .ref a0, .ref a1, .int (nI sk), .int (nI ll), .long sd, .ref ar, .ref aq, .ref al, .ref am])), (aw, .inr (3, [.ref wd, .ref wt, .int (nI W)])), (wt, .inl (cI, 4, .inl tf)), (an, .inr (1, [.ref nc, .int (nI L.length), .int (nI li), .int ye, .int br])), (nc, .inl (cI, 48, .inl f)), (ar, .inr (1, [.ref rc, .int (nI L.length), .int (nI li), .int ye, .int br])), (rc, .inl (cI, 48, .inl g31))] [(0, .ref x), (1, .int (nI j)), (2, .int (nI q))] 34 []
      refine x_iconst ok (nI 0) dX4_rains_34 (by decide) ?_
      refine x_istore_n ok (lv' := [(3, .int (nI 0)), (0, .ref x), (1, .int (nI j)), (2, .int (nI q))]) dX4_rains_35 rfl (by decide) rfl ?_
      have L_36 : ∀ (n_36 : Nat) (n : Nat) (g9 : Nat → Int32) (y9 : Int32) (s9 : Int64), j - n < n_36 → (n ≤ j) → (hs g9 (ryF st W li q n (L, sd)).1) → (s9 = (ryF st W li q n (L, sd)).2) → XX K [(x, .inr (4, [.ref ax, .ref aw, .ref an, .ref aa, .ref a0, .ref a1, .int (nI sk), .int (nI ll), .long s9, .ref ar, .ref aq, .ref al, .ref am])), (aw, .inr (3, [.ref wd, .ref wt, .int (nI W)])), (wt, .inl (cI, 4, .inl tf)), (an, .inr (1, [.ref nc, .int (nI L.length), .int (nI li), .int ye, .int br])), (nc, .inl (cI, 48, .inl f)), (ar, .inr (1, [.ref rc, .int (nI ((ryF st W li q n (L, sd)).1.length)), .int (nI li), .int y9, .int br])), (rc, .inl (cI, 48, .inl g9))] [(3, .int (nI n)), (0, .ref x), (1, .int (nI j)), (2, .int (nI q))] 36 [] := by
        intro n_36
        induction n_36 with
        | zero => intro n g9 y9 s9 hm; exact absurd hm (Nat.not_lt_zero _)
        | succ n_36 ih_36 =>
          intro n g9 y9 s9 hm_36 hn hg9 hs9
          refine x_iload_n ok 0 dX4_rains_36 rfl rfl ?_
          refine x_iload_n ok 2 dX4_rains_37 rfl rfl ?_
          refine x_icmp_geN ok 109 dX4_rains_38 (by decide) (by omega) (by omega) (fun c_38 => ?_) (fun c_38 => ?_)
          · skip
            have e_n : j = n := by omega
            subst e_n
            refine x_aload_n ok 1 dX4_rains_109 rfl rfl ?_
            refine gX4_43 ok dX4_rains_110 0 rfl rfl ?_
            refine qX4_82 ok (As := []) (st := []) 5 rfl (c1_lawsHad l D cI cZ cS ar rc ((ryF st W li q j (L, sd)).1) li y9 br g9 W (A + j) (hg9) (ryF_ok hv j)) rfl (Nat.le_of_ble_eq_true rfl) (Nat.le_of_ble_eq_true rfl) (Nat.le_of_ble_eq_true rfl) dX4_rains_113 [5, 6] (by decide) rfl (ws' := fun u => [(x, .inr (4, [.ref ax, .ref aw, .ref an, .ref aa, .ref a0, .ref a1, .int (nI sk), .int (nI ll), .long s9, .ref ar, .ref aq, .ref al, .ref am])), (aw, .inr (3, [.ref wd, .ref wt, .int (nI W)])), (wt, .inl (cI, 4, .inl tf)), (an, .inr (1, [.ref nc, .int (nI L.length), .int (nI li), .int ye, .int br])), (nc, .inl (cI, 48, .inl f)), (ar, .inr (1, [.ref rc, .int (nI (((ryF st W li q j (L, sd)).1).length)), .int (nI li), .int y9, .int br])), (rc, .inl (cI, 48, .inl g9))]) (st' := fun u => [.int (nI (lawsN ((ryF st W li q j (L, sd)).1)))]) (fun _ => rfl) (fun _ => rfl) (fun _ => rfl) (fun _ _ => ?_)
            exact ret (((ryF st W li q j (L, sd)).1).length, li, y9, br, g9) _ _ _ (nI (lawsN ((ryF st W li q j (L, sd)).1))) dX4_rains_116 (by rw [er, hs9]) (by rw [er]) (trivial)
          · skip
            have hvy := ryF_ok (li := li) (r := q) (st := st) (z := (L, sd)) hv n
            refine x_aload_n ok 1 dX4_rains_41 rfl rfl ?_
            refine gX4_43 ok dX4_rains_42 0 rfl rfl ?_
            refine x_aload_n ok 1 dX4_rains_45 rfl rfl ?_
            refine gX4_19 ok dX4_rains_46 0 rfl rfl ?_
            refine qX4_140 ok (As := [.ref aw]) (st := []) 5 rfl (c1_goYear l D cI cZ cS ar rc ((ryF st W li q n (L, sd)).1) li y9 br g9 aw wd wt W tf st (A + n) (hg9) (hvy) (by first | assumption | omega) (by first | assumption | omega) (by first | assumption | omega) (by first | assumption | omega)) rfl (Nat.le_of_ble_eq_true rfl) (Nat.le_of_ble_eq_true rfl) (Nat.le_of_ble_eq_true rfl) dX4_rains_49 [5, 6, 1, 2] (by decide) rfl (ws' := fun u => [(x, .inr (4, [.ref ax, .ref aw, .ref an, .ref aa, .ref a0, .ref a1, .int (nI sk), .int (nI ll), .long s9, .ref ar, .ref aq, .ref al, .ref am])), (aw, .inr (3, [.ref wd, .ref wt, .int (nI W)])), (wt, .inl (cI, 4, .inl tf)), (an, .inr (1, [.ref nc, .int (nI L.length), .int (nI li), .int ye, .int br])), (nc, .inl (cI, 48, .inl f)), (ar, .inr (1, [.ref rc, .int (nI ((yearL st li ((ryF st W li q n (L, sd)).1)).length)), .int (nI li), .int (y9 + nI 1), .int br])), (rc, .inl (cI, 48, .inl u))]) (st' := fun u => [.int (nI (((ryF st W li q n (L, sd)).1).length - (yearL st li ((ryF st W li q n (L, sd)).1)).length))]) (fun _ => rfl) (fun _ => rfl) (fun _ => rfl) (fun u49 hu49 => ?_)
            obtain ⟨g49, rfl⟩ : ∃ z, z = u49 := ⟨_, rfl⟩
            have hg49 := hu49
            have hg49 : hs g49 (yearL st li ((ryF st W li q n (L, sd)).1)) := hg49
            show XX K [(x, .inr (4, [.ref ax, .ref aw, .ref an, .ref aa, .ref a0, .ref a1, .int (nI sk), .int (nI ll), .long s9, .ref ar, .ref aq, .ref al, .ref am])), (aw, .inr (3, [.ref wd, .ref wt, .int (nI W)])), (wt, .inl (cI, 4, .inl tf)), (an, .inr (1, [.ref nc, .int (nI L.length), .int (nI li), .int ye, .int br])), (nc, .inl (cI, 48, .inl f)), (ar, .inr (1, [.ref rc, .int (nI ((yearL st li ((ryF st W li q n (L, sd)).1)).length)), .int (nI li), .int (y9 + nI 1), .int br])), (rc, .inl (cI, 48, .inl g49))] [(3, .int (nI n)), (0, .ref x), (1, .int (nI j)), (2, .int (nI q))] 52 [.int (nI (((ryF st W li q n (L, sd)).1).length - (yearL st li ((ryF st W li q n (L, sd)).1)).length))]
            refine x_pop ok dX4_rains_52 rfl ?_
            refine x_iconst ok (nI 0) dX4_rains_53 (by decide) ?_
            refine x_istore ok (lv' := [(4, .int (nI 0)), (3, .int (nI n)), (0, .ref x), (1, .int (nI j)), (2, .int (nI q))]) dX4_rains_54 (by decide) rfl ?_
            have L_56 : ∀ (n_56 : Nat) (w : Nat) (g8 : Nat → Int32) (s8 : Int64), W - w < n_56 → (w ≤ W) → (hs g8 (rwF li q w (yearL st li (ryF st W li q n (L, sd)).1, (ryF st W li q n (L, sd)).2)).1) → (s8 = (rwF li q w (yearL st li (ryF st W li q n (L, sd)).1, (ryF st W li q n (L, sd)).2)).2) → XX K [(x, .inr (4, [.ref ax, .ref aw, .ref an, .ref aa, .ref a0, .ref a1, .int (nI sk), .int (nI ll), .long s8, .ref ar, .ref aq, .ref al, .ref am])), (aw, .inr (3, [.ref wd, .ref wt, .int (nI W)])), (wt, .inl (cI, 4, .inl tf)), (an, .inr (1, [.ref nc, .int (nI L.length), .int (nI li), .int ye, .int br])), (nc, .inl (cI, 48, .inl f)), (ar, .inr (1, [.ref rc, .int (nI ((rwF li q w (yearL st li (ryF st W li q n (L, sd)).1, (ryF st W li q n (L, sd)).2)).1.length)), .int (nI li), .int (y9 + nI 1), .int br])), (rc, .inl (cI, 48, .inl g8))] [(4, .int (nI w)), (3, .int (nI n)), (0, .ref x), (1, .int (nI j)), (2, .int (nI q))] 56 [] := by
              intro n_56
              induction n_56 with
              | zero => intro w g8 s8 hm; exact absurd hm (Nat.not_lt_zero _)
              | succ n_56 ih_56 =>
                intro w g8 s8 hm_56 hw hg8 hs8
                refine x_iload ok 0 dX4_rains_56 rfl ?_
                refine x_aload_n ok 2 dX4_rains_58 rfl rfl ?_
                refine gX4_19 ok dX4_rains_59 0 rfl rfl ?_
                refine gX4_68 ok dX4_rains_62 1 rfl rfl ?_
                refine x_icmp_geN ok 103 dX4_rains_65 (by decide) (by omega) (by omega) (fun c_65 => ?_) (fun c_65 => ?_)
                · skip
                  have e_w : W = w := by omega
                  subst e_w
                  refine x_iinc ok (v := nI (n + 1)) (lv' := [(3, .int (nI (n + 1))), (4, .int (nI W)), (0, .ref x), (1, .int (nI j)), (2, .int (nI q))]) dX4_rains_103 1 rfl (nN (nI_inc _ 1) (by omega)) (by decide) rfl ?_
                  refine x_goto ok 36 dX4_rains_106 (by decide) ?_
                  refine x_loc ok [0, 2, 3, 4] (lv' := [(3, .int (nI (n + 1))), (0, .ref x), (1, .int (nI j)), (2, .int (nI q))]) rfl ?_
                  exact ih_36 (n + 1) g8 (y9 + nI 1) s8 (by omega) (by first | assumption | omega) (hg8) (hs8)
                · skip
                  have hvw := rwF_ok (li := li) (r := q) (z := (yearL st li (ryF st W li q n (L, sd)).1, (ryF st W li q n (L, sd)).2)) (year_ok (st := st) (li := li) hvy) w
                  have h8w := hvw.1
                  refine x_aload_n ok 2 dX4_rains_68 rfl rfl ?_
                  refine gX4_43 ok dX4_rains_69 0 rfl rfl ?_
                  refine x_iload ok 0 dX4_rains_72 rfl ?_
                  refine qX4_121 ok (As := [.int (nI w)]) (st := []) 5 rfl (c1_hasLid l D cI cZ cS ar rc ((rwF li q w (yearL st li (ryF st W li q n (L, sd)).1, (ryF st W li q n (L, sd)).2)).1.length) li (y9 + nI 1) br w (by first | assumption | omega) (by first | assumption | omega)) rfl (Nat.le_of_ble_eq_true rfl) (Nat.le_of_ble_eq_true rfl) (Nat.le_of_ble_eq_true rfl) dX4_rains_74 [5] (by decide) rfl (ws' := fun u => [(x, .inr (4, [.ref ax, .ref aw, .ref an, .ref aa, .ref a0, .ref a1, .int (nI sk), .int (nI ll), .long s8, .ref ar, .ref aq, .ref al, .ref am])), (aw, .inr (3, [.ref wd, .ref wt, .int (nI W)])), (wt, .inl (cI, 4, .inl tf)), (an, .inr (1, [.ref nc, .int (nI L.length), .int (nI li), .int ye, .int br])), (nc, .inl (cI, 48, .inl f)), (ar, .inr (1, [.ref rc, .int (nI ((rwF li q w (yearL st li (ryF st W li q n (L, sd)).1, (ryF st W li q n (L, sd)).2)).1.length)), .int (nI li), .int (y9 + nI 1), .int br])), (rc, .inl (cI, 48, .inl g8))]) (st' := fun u => [.int (bz (li.testBit w))]) (fun _ => rfl) (fun _ => rfl) (fun _ => rfl) (fun _ _ => ?_)
                  refine x_if_neB ok 97 dX4_rains_77 (by decide) (fun c_77 => ?_) (fun c_77 => ?_)
                  · skip
                    refine x_iinc ok (v := nI (w + 1)) (lv' := [(4, .int (nI (w + 1))), (3, .int (nI n)), (0, .ref x), (1, .int (nI j)), (2, .int (nI q))]) dX4_rains_97 0 rfl (nN (nI_inc _ 1) (by omega)) (by decide) rfl ?_
                    refine x_goto ok 56 dX4_rains_100 (by decide) ?_
                    have em : (rwF li q (w + 1) (yearL st li (ryF st W li q n (L, sd)).1, (ryF st W li q n (L, sd)).2)) = (rwF li q w (yearL st li (ryF st W li q n (L, sd)).1, (ryF st W li q n (L, sd)).2)) := by simp only [rwF]; rw [if_pos c_77]
                    rw [show ((rwF li q w (yearL st li (ryF st W li q n (L, sd)).1, (ryF st W li q n (L, sd)).2)).1.length) = (rwF li q (w + 1) (yearL st li (ryF st W li q n (L, sd)).1, (ryF st W li q n (L, sd)).2)).1.length from by rw [em]]
                    exact ih_56 (w + 1) g8 s8 (by omega) (by first | assumption | omega) (by rw [em]; exact hg8) (by rw [em]; exact hs8)
                  · skip
                    refine x_aload_n ok 2 dX4_rains_80 rfl rfl ?_
                    refine x_iload_n ok 4 dX4_rains_81 rfl rfl ?_
                    refine qX4_268 ok (As := [.int (nI q)]) (st := []) 0 rfl (c4_isFloodedBySeed l D cI cZ cS x ax aw an aa a0 a1 sk ll ar aq al am s8 q ) rfl (Nat.le_of_ble_eq_true rfl) (Nat.le_of_ble_eq_true rfl) (Nat.le_of_ble_eq_true rfl) dX4_rains_82 [0] (by decide) rfl (ws' := fun u => [(x, .inr (4, [.ref ax, .ref aw, .ref an, .ref aa, .ref a0, .ref a1, .int (nI sk), .int (nI ll), .long (seedN s8), .ref ar, .ref aq, .ref al, .ref am])), (aw, .inr (3, [.ref wd, .ref wt, .int (nI W)])), (wt, .inl (cI, 4, .inl tf)), (an, .inr (1, [.ref nc, .int (nI L.length), .int (nI li), .int ye, .int br])), (nc, .inl (cI, 48, .inl f)), (ar, .inr (1, [.ref rc, .int (nI ((rwF li q w (yearL st li (ryF st W li q n (L, sd)).1, (ryF st W li q n (L, sd)).2)).1.length)), .int (nI li), .int (y9 + nI 1), .int br])), (rc, .inl (cI, 48, .inl g8))]) (st' := fun u => [.int (bz (flB (seedN s8) q))]) (fun _ => by simp only [List.map_cons, List.map_nil]) (fun _ => rfl) (fun _ => rfl) (fun _ _ => ?_)
                    refine x_if_eqB ok 97 dX4_rains_85 (by decide) (fun c_85 => ?_) (fun c_85 => ?_)
                    · skip
                      refine x_iinc ok (v := nI (w + 1)) (lv' := [(4, .int (nI (w + 1))), (3, .int (nI n)), (0, .ref x), (1, .int (nI j)), (2, .int (nI q))]) dX4_rains_97 0 rfl (nN (nI_inc _ 1) (by omega)) (by decide) rfl ?_
                      refine x_goto ok 56 dX4_rains_100 (by decide) ?_
                      have em : (rwF li q (w + 1) (yearL st li (ryF st W li q n (L, sd)).1, (ryF st W li q n (L, sd)).2)) = ((rwF li q w (yearL st li (ryF st W li q n (L, sd)).1, (ryF st W li q n (L, sd)).2)).1, seedN (rwF li q w (yearL st li (ryF st W li q n (L, sd)).1, (ryF st W li q n (L, sd)).2)).2) := by simp only [rwF]; rw [if_neg c_77, if_neg (by rw [← hs8]; exact c_85)]
                      rw [show ((rwF li q w (yearL st li (ryF st W li q n (L, sd)).1, (ryF st W li q n (L, sd)).2)).1.length) = (rwF li q (w + 1) (yearL st li (ryF st W li q n (L, sd)).1, (ryF st W li q n (L, sd)).2)).1.length from by rw [em]]
                      exact ih_56 (w + 1) g8 (seedN s8) (by omega) (by first | assumption | omega) (by rw [em]; exact hg8) (by rw [em, hs8])
                    · skip
                      refine x_aload_n ok 2 dX4_rains_88 rfl rfl ?_
                      refine gX4_43 ok dX4_rains_89 0 rfl rfl ?_
                      refine x_iload ok 0 dX4_rains_92 rfl ?_
                      refine qX4_271 ok (As := [.int (nI w)]) (st := []) 5 rfl (c1_flood l D cI cZ cS ar rc ((rwF li q w (yearL st li (ryF st W li q n (L, sd)).1, (ryF st W li q n (L, sd)).2)).1) li (y9 + nI 1) br g8 W (A + n + 1) w (hg8) (hvw) (by first | assumption | omega) (by first | assumption | omega)) rfl (Nat.le_of_ble_eq_true rfl) (Nat.le_of_ble_eq_true rfl) (Nat.le_of_ble_eq_true rfl) dX4_rains_94 [5, 6] (by decide) rfl (ws' := fun u => [(x, .inr (4, [.ref ax, .ref aw, .ref an, .ref aa, .ref a0, .ref a1, .int (nI sk), .int (nI ll), .long (seedN s8), .ref ar, .ref aq, .ref al, .ref am])), (aw, .inr (3, [.ref wd, .ref wt, .int (nI W)])), (wt, .inl (cI, 4, .inl tf)), (an, .inr (1, [.ref nc, .int (nI L.length), .int (nI li), .int ye, .int br])), (nc, .inl (cI, 48, .inl f)), (ar, .inr (1, [.ref rc, .int (nI ((low (fl1 ((rwF li q w (yearL st li (ryF st W li q n (L, sd)).1, (ryF st W li q n (L, sd)).2)).1) w) 0 ((rwF li q w (yearL st li (ryF st W li q n (L, sd)).1, (ryF st W li q n (L, sd)).2)).1) ((rwF li q w (yearL st li (ryF st W li q n (L, sd)).1, (ryF st W li q n (L, sd)).2)).1).length).length)), .int (nI li), .int (y9 + nI 1), .int br])), (rc, .inl (cI, 48, .inl u))]) (st' := fun u => []) (fun _ => rfl) (fun _ => rfl) (fun _ => rfl) (fun u94 hu94 => ?_)
                      obtain ⟨g94, rfl⟩ : ∃ z, z = u94 := ⟨_, rfl⟩
                      have hg94 := hu94
                      have hg94 : hs g94 (low (fl1 ((rwF li q w (yearL st li (ryF st W li q n (L, sd)).1, (ryF st W li q n (L, sd)).2)).1) w) 0 ((rwF li q w (yearL st li (ryF st W li q n (L, sd)).1, (ryF st W li q n (L, sd)).2)).1) ((rwF li q w (yearL st li (ryF st W li q n (L, sd)).1, (ryF st W li q n (L, sd)).2)).1).length) := hg94
                      show XX K [(x, .inr (4, [.ref ax, .ref aw, .ref an, .ref aa, .ref a0, .ref a1, .int (nI sk), .int (nI ll), .long (seedN s8), .ref ar, .ref aq, .ref al, .ref am])), (aw, .inr (3, [.ref wd, .ref wt, .int (nI W)])), (wt, .inl (cI, 4, .inl tf)), (an, .inr (1, [.ref nc, .int (nI L.length), .int (nI li), .int ye, .int br])), (nc, .inl (cI, 48, .inl f)), (ar, .inr (1, [.ref rc, .int (nI ((low (fl1 ((rwF li q w (yearL st li (ryF st W li q n (L, sd)).1, (ryF st W li q n (L, sd)).2)).1) w) 0 ((rwF li q w (yearL st li (ryF st W li q n (L, sd)).1, (ryF st W li q n (L, sd)).2)).1) ((rwF li q w (yearL st li (ryF st W li q n (L, sd)).1, (ryF st W li q n (L, sd)).2)).1).length).length)), .int (nI li), .int (y9 + nI 1), .int br])), (rc, .inl (cI, 48, .inl g94))] [(4, .int (nI w)), (3, .int (nI n)), (0, .ref x), (1, .int (nI j)), (2, .int (nI q))] 97 []
                      refine x_iinc ok (v := nI (w + 1)) (lv' := [(4, .int (nI (w + 1))), (3, .int (nI n)), (0, .ref x), (1, .int (nI j)), (2, .int (nI q))]) dX4_rains_97 0 rfl (nN (nI_inc _ 1) (by omega)) (by decide) rfl ?_
                      refine x_goto ok 56 dX4_rains_100 (by decide) ?_
                      have em : (rwF li q (w + 1) (yearL st li (ryF st W li q n (L, sd)).1, (ryF st W li q n (L, sd)).2)) = (low (fl1 (rwF li q w (yearL st li (ryF st W li q n (L, sd)).1, (ryF st W li q n (L, sd)).2)).1 w) 0 (rwF li q w (yearL st li (ryF st W li q n (L, sd)).1, (ryF st W li q n (L, sd)).2)).1 (rwF li q w (yearL st li (ryF st W li q n (L, sd)).1, (ryF st W li q n (L, sd)).2)).1.length, seedN (rwF li q w (yearL st li (ryF st W li q n (L, sd)).1, (ryF st W li q n (L, sd)).2)).2) := by simp only [rwF]; rw [if_neg c_77, if_pos (by rw [← hs8]; exact c_85)]
                      rw [show (low (fl1 ((rwF li q w (yearL st li (ryF st W li q n (L, sd)).1, (ryF st W li q n (L, sd)).2)).1) w) 0 ((rwF li q w (yearL st li (ryF st W li q n (L, sd)).1, (ryF st W li q n (L, sd)).2)).1) ((rwF li q w (yearL st li (ryF st W li q n (L, sd)).1, (ryF st W li q n (L, sd)).2)).1).length).length = (rwF li q (w + 1) (yearL st li (ryF st W li q n (L, sd)).1, (ryF st W li q n (L, sd)).2)).1.length from by rw [em]]
                      exact ih_56 (w + 1) g94 (seedN s8) (by omega) (by first | assumption | omega) (by rw [em]; exact hg94) (by rw [em, hs8])
            exact L_56 _ 0 g49 s9 (Nat.lt_succ_self _) (by first | assumption | omega) (hg49) (hs9)
      exact L_36 _ 0 g31 ye sd (Nat.lt_succ_self _) (by first | assumption | omega) (hg31) (rfl)
    · skip
      have er : rainsI st W li L sd z z2 = (-2, sd) := by rw [rainsI, if_neg (fun y => c_17 y.2)]
      refine x_bipush ok ((-2)) dX4_rains_20 (by decide) ?_
      exact ret (rn, rl, ry, rb, rf) _ _ _ ((-2)) dX4_rains_22 (by rw [er]) (by rw [er]) (trivial)
