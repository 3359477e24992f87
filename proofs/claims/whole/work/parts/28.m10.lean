set_option maxHeartbeats 4000000 in
set_option maxRecDepth 100000 in
theorem p_plan (l : Launch) (D : va_G) (cI cZ cS : ClassId) (x : Nat) (ax : Nat) (aw : Nat) (an : Nat) (aa : Nat) (a0 : Nat) (a1 : Nat) (sk : Nat) (ll : Nat) (ar : Nat) (aq : Nat) (al : Nat) (am : Nat) (sd : Int64) (wd : Nat) (wt : Nat) (W : Nat) (df : Nat → Int32) (tf : Nat → Int32) (dp : Nat → Nat) (st : Nat → Nat) (A : Nat) (nc : Nat) (L : List Sg) (li : Nat) (ye : Int32) (br : Int32) (f : Nat → Int32) (rc : Nat) (rn : Nat) (rl : Nat) (ry : Int32) (rb : Int32) (rf : Nat → Int32) (qc : Nat) (qn : Nat) (ql : Nat) (qy : Int32) (qb : Int32) (qf : Nat → Int32) (z : Int32) (z2 : Int32) (hf : hs f L) (hv : okL W A L) (hW : W ≤ 4) (hst : ∀ w, w < W → tf w = nI (st w)) (hst2 : ∀ w, w < W → st w ≤ 2) (hl : li < 256) : CO l D (TY cI cZ cS) yX4_plan cX4_plan 8 (some .int) 7 160 0 0 [.ref x, .int z, .int z2] [(x, .inr (4, [.ref ax, .ref aw, .ref an, .ref aa, .ref a0, .ref a1, .int (nI sk), .int (nI ll), .long sd, .ref ar, .ref aq, .ref al, .ref am])), (aw, .inr (3, [.ref wd, .ref wt, .int (nI W)])), (wt, .inl (cI, 4, .inl tf)), (an, .inr (1, [.ref nc, .int (nI L.length), .int (nI li), .int ye, .int br])), (nc, .inl (cI, 48, .inl f)), (ar, .inr (1, [.ref rc, .int (nI rn), .int (nI rl), .int ry, .int rb])), (rc, .inl (cI, 48, .inl rf)), (aq, .inr (1, [.ref qc, .int (nI qn), .int (nI ql), .int qy, .int qb])), (qc, .inl (cI, 48, .inl qf))] (σ := (Nat) × (Nat) × (Int32) × (Int32) × (Nat → Int32) × (Nat) × (Nat) × (Int32) × (Int32) × (Nat → Int32)) (fun u => some (.int (planI ll st W li L z z2))) (fun u => [(x, .inr (4, [.ref ax, .ref aw, .ref an, .ref aa, .ref a0, .ref a1, .int (nI sk), .int (nI ll), .long sd, .ref ar, .ref aq, .ref al, .ref am])), (aw, .inr (3, [.ref wd, .ref wt, .int (nI W)])), (wt, .inl (cI, 4, .inl tf)), (an, .inr (1, [.ref nc, .int (nI L.length), .int (nI li), .int ye, .int br])), (nc, .inl (cI, 48, .inl f)), (ar, .inr (1, [.ref rc, .int (nI u.1), .int (nI u.2.1), .int u.2.2.1, .int u.2.2.2.1])), (rc, .inl (cI, 48, .inl u.2.2.2.2.1)), (aq, .inr (1, [.ref qc, .int (nI u.2.2.2.2.2.1), .int (nI u.2.2.2.2.2.2.1), .int u.2.2.2.2.2.2.2.1, .int u.2.2.2.2.2.2.2.2.1])), (qc, .inl (cI, 48, .inl u.2.2.2.2.2.2.2.2.2))]) (fun u => True) := by
  refine CO_mki (by decide +kernel) (Nat.le_of_ble_eq_true rfl) (fun K ok ret => ?_)
  show XX K [(x, .inr (4, [.ref ax, .ref aw, .ref an, .ref aa, .ref a0, .ref a1, .int (nI sk), .int (nI ll), .long sd, .ref ar, .ref aq, .ref al, .ref am])), (aw, .inr (3, [.ref wd, .ref wt, .int (nI W)])), (wt, .inl (cI, 4, .inl tf)), (an, .inr (1, [.ref nc, .int (nI L.length), .int (nI li), .int ye, .int br])), (nc, .inl (cI, 48, .inl f)), (ar, .inr (1, [.ref rc, .int (nI rn), .int (nI rl), .int ry, .int rb])), (rc, .inl (cI, 48, .inl rf)), (aq, .inr (1, [.ref qc, .int (nI qn), .int (nI ql), .int qy, .int qb])), (qc, .inl (cI, 48, .inl qf))] [(0, .ref x), (1, .int z), (2, .int z2)] 0 []
  have h8 := hv.1
  have hpb := fun n => plF_b (ll := ll) (li := li) (n := n) (st := st) hW hv
  refine x_iload_n ok 1 dX4_plan_0 rfl rfl ?_
  refine x_iconst ok (nI 1) dX4_plan_1 (by decide) ?_
  refine x_iconst ok (nI 2) dX4_plan_2 (by decide) ?_
  refine qX4_128 ok (As := [.int z, .int (nI 1), .int (nI 2)]) (st := []) (c4_isWithin l D cI cZ cS z (nI 1) (nI 2) ) rfl (Nat.le_of_ble_eq_true rfl) (Nat.le_of_ble_eq_true rfl) (Nat.le_of_ble_eq_true rfl) dX4_plan_3 [] (by decide) rfl (ws' := fun u => [(x, .inr (4, [.ref ax, .ref aw, .ref an, .ref aa, .ref a0, .ref a1, .int (nI sk), .int (nI ll), .long sd, .ref ar, .ref aq, .ref al, .ref am])), (aw, .inr (3, [.ref wd, .ref wt, .int (nI W)])), (wt, .inl (cI, 4, .inl tf)), (an, .inr (1, [.ref nc, .int (nI L.length), .int (nI li), .int ye, .int br])), (nc, .inl (cI, 48, .inl f)), (ar, .inr (1, [.ref rc, .int (nI rn), .int (nI rl), .int ry, .int rb])), (rc, .inl (cI, 48, .inl rf)), (aq, .inr (1, [.ref qc, .int (nI qn), .int (nI ql), .int qy, .int qb])), (qc, .inl (cI, 48, .inl qf))]) (st' := fun u => [.int (bz (inB z (nI 1) (nI 2)))]) (fun _ => rfl) (fun _ => rfl) (fun _ => rfl) (fun _ _ => ?_)
  refine x_if_eqB ok 18 dX4_plan_6 (by decide) (fun c_6 => ?_) (fun c_6 => ?_)
  · skip
    refine x_bipush ok ((-2)) dX4_plan_18 (by decide) ?_
    exact ret (rn, rl, ry, rb, rf, qn, ql, qy, qb, qf) _ _ _ ((-2)) dX4_plan_20 (rfl) (by rw [planI, if_neg (fun z => c_6 z.1)]) (trivial)
  · skip
    obtain ⟨j, hj0, hj, e_z⟩ := inB_t (by omega) (by omega) c_6
    subst e_z
    have ej := cl_n (show j < 2 ^ 31 by omega)
    refine x_iload_n ok 2 dX4_plan_9 rfl rfl ?_
    refine x_iconst ok (nI 0) dX4_plan_10 (by decide) ?_
    refine x_iconst ok (nI 1) dX4_plan_11 (by decide) ?_
    refine qX4_128 ok (As := [.int z2, .int (nI 0), .int (nI 1)]) (st := []) (c4_isWithin l D cI cZ cS z2 (nI 0) (nI 1) ) rfl (Nat.le_of_ble_eq_true rfl) (Nat.le_of_ble_eq_true rfl) (Nat.le_of_ble_eq_true rfl) dX4_plan_12 [] (by decide) rfl (ws' := fun u => [(x, .inr (4, [.ref ax, .ref aw, .ref an, .ref aa, .ref a0, .ref a1, .int (nI sk), .int (nI ll), .long sd, .ref ar, .ref aq, .ref al, .ref am])), (aw, .inr (3, [.ref wd, .ref wt, .int (nI W)])), (wt, .inl (cI, 4, .inl tf)), (an, .inr (1, [.ref nc, .int (nI L.length), .int (nI li), .int ye, .int br])), (nc, .inl (cI, 48, .inl f)), (ar, .inr (1, [.ref rc, .int (nI rn), .int (nI rl), .int ry, .int rb])), (rc, .inl (cI, 48, .inl rf)), (aq, .inr (1, [.ref qc, .int (nI qn), .int (nI ql), .int qy, .int qb])), (qc, .inl (cI, 48, .inl qf))]) (st' := fun u => [.int (bz (inB z2 (nI 0) (nI 1)))]) (fun _ => rfl) (fun _ => rfl) (fun _ => rfl) (fun _ _ => ?_)
    refine x_if_neB ok 21 dX4_plan_15 (by decide) (fun c_15 => ?_) (fun c_15 => ?_)
    · skip
      obtain ⟨q, hq0, hq, e_z2⟩ := inB_t (by omega) (by omega) c_15
      subst e_z2
      have eq := cl_n (show q < 2 ^ 31 by omega)
      refine x_bipush ok ((-100)) dX4_plan_21 (by decide) ?_
      refine x_eq (st' := [.int (zI ((plF ll st W li j L 0).1))]) rfl rfl (by rw [plF]; exact congrArg (fun q => [Value.int q]) zI_100.symm) ?_
      refine x_istore_n ok (lv' := [(3, .int (zI ((plF ll st W li j L 0).1))), (0, .ref x), (1, .int (nI j)), (2, .int (nI q))]) dX4_plan_23 rfl (by decide) rfl ?_
      refine x_iconst ok (nI 0) dX4_plan_24 (by decide) ?_
      refine x_eq (st' := [.int (nI ((plF ll st W li j L 0).2))]) rfl rfl (rfl) ?_
      refine x_istore ok (lv' := [(4, .int (nI ((plF ll st W li j L 0).2))), (3, .int (zI ((plF ll st W li j L 0).1))), (0, .ref x), (1, .int (nI j)), (2, .int (nI q))]) dX4_plan_25 (by decide) rfl ?_
      refine x_aload_n ok 2 dX4_plan_27 rfl rfl ?_
      refine gX4_26 ok dX4_plan_28 0 rfl rfl ?_
      refine qX4_185 ok (As := [.ref an]) (st := []) (c4_deedsOf l D cI cZ cS an nc L.length li ye br (by first | assumption | omega)) rfl (Nat.le_of_ble_eq_true rfl) (Nat.le_of_ble_eq_true rfl) (Nat.le_of_ble_eq_true rfl) dX4_plan_31 [3] (by decide) rfl (ws' := fun u => [(x, .inr (4, [.ref ax, .ref aw, .ref an, .ref aa, .ref a0, .ref a1, .int (nI sk), .int (nI ll), .long sd, .ref ar, .ref aq, .ref al, .ref am])), (aw, .inr (3, [.ref wd, .ref wt, .int (nI W)])), (wt, .inl (cI, 4, .inl tf)), (an, .inr (1, [.ref nc, .int (nI L.length), .int (nI li), .int ye, .int br])), (nc, .inl (cI, 48, .inl f)), (ar, .inr (1, [.ref rc, .int (nI rn), .int (nI rl), .int ry, .int rb])), (rc, .inl (cI, 48, .inl rf)), (aq, .inr (1, [.ref qc, .int (nI qn), .int (nI ql), .int qy, .int qb])), (qc, .inl (cI, 48, .inl qf))]) (st' := fun u => [.int (nI (L.length * 2 + 1))]) (fun _ => rfl) (fun _ => rfl) (fun _ => rfl) (fun _ _ => ?_)
      refine x_istore ok (lv' := [(5, .int (nI (L.length * 2 + 1))), (4, .int (nI ((plF ll st W li j L 0).2))), (3, .int (zI ((plF ll st W li j L 0).1))), (0, .ref x), (1, .int (nI j)), (2, .int (nI q))]) dX4_plan_34 (by decide) rfl ?_
      refine x_iconst ok (nI 0) dX4_plan_36 (by decide) ?_
      refine x_istore ok (lv' := [(6, .int (nI 0)), (5, .int (nI (L.length * 2 + 1))), (4, .int (nI ((plF ll st W li j L 0).2))), (3, .int (zI ((plF ll st W li j L 0).1))), (0, .ref x), (1, .int (nI j)), (2, .int (nI q))]) dX4_plan_37 (by decide) rfl ?_
      have L_39 : ∀ (n_39 : Nat) (a : Nat) (n9 : Nat) (l9 : Nat) (y9 : Int32) (b9 : Int32) (f9 : Nat → Int32) (m9 : Nat) (k9 : Nat) (w9 : Int32) (c9 : Int32) (e9 : Nat → Int32), L.length * 2 + 1 - a < n_39 → (a ≤ L.length * 2 + 1) → XX K [(x, .inr (4, [.ref ax, .ref aw, .ref an, .ref aa, .ref a0, .ref a1, .int (nI sk), .int (nI ll), .long sd, .ref ar, .ref aq, .ref al, .ref am])), (aw, .inr (3, [.ref wd, .ref wt, .int (nI W)])), (wt, .inl (cI, 4, .inl tf)), (an, .inr (1, [.ref nc, .int (nI L.length), .int (nI li), .int ye, .int br])), (nc, .inl (cI, 48, .inl f)), (ar, .inr (1, [.ref rc, .int (nI n9), .int (nI l9), .int y9, .int b9])), (rc, .inl (cI, 48, .inl f9)), (aq, .inr (1, [.ref qc, .int (nI m9), .int (nI k9), .int w9, .int c9])), (qc, .inl (cI, 48, .inl e9))] [(6, .int (nI a)), (5, .int (nI (L.length * 2 + 1))), (4, .int (nI ((plF ll st W li j L a).2))), (3, .int (zI ((plF ll st W li j L a).1))), (0, .ref x), (1, .int (nI j)), (2, .int (nI q))] 39 [] := by
        intro n_39
        induction n_39 with
        | zero => intro a n9 l9 y9 b9 f9 m9 k9 w9 c9 e9 hm; exact absurd hm (Nat.not_lt_zero _)
        | succ n_39 ih_39 =>
          intro a n9 l9 y9 b9 f9 m9 k9 w9 c9 e9 hm_39 ha
          refine x_iload ok 0 dX4_plan_39 rfl ?_
          refine x_iload ok 1 dX4_plan_41 rfl ?_
          refine x_icmp_geN ok 129 dX4_plan_43 (by decide) (by omega) (by omega) (fun c_43 => ?_) (fun c_43 => ?_)
          · skip
            have e_a : L.length * 2 + 1 = a := by omega
            subst e_a
            refine x_iload_n ok 6 dX4_plan_129 rfl rfl ?_
            refine x_if_neN ok 140 dX4_plan_130 (by decide) (by omega) (fun c_130 => ?_) (fun c_130 => ?_)
            · skip
              refine x_iload ok 2 dX4_plan_140 rfl ?_
              exact ret (n9, l9, y9, b9, f9, m9, k9, w9, c9, e9) _ _ _ (nI ((plF ll st W li j L (L.length * 2 + 1)).2)) dX4_plan_142 (rfl) (by rw [planI, if_pos ⟨c_6, c_15⟩, ej]; simp only; rw [if_neg (fun z => c_130 ((nI_eq (by omega) (by omega)).mp z))]) (trivial)
            · skip
              refine x_iload_n ok 3 dX4_plan_133 rfl rfl ?_
              refine x_eq (st' := [.int (zI ((((plF ll st W li j L (L.length * 2 + 1)).1 + 2).toNat : Int) - 2))]) rfl rfl (by have hb9 := hpb j (L.length * 2 + 1); rw [show ((((plF ll st W li j L (L.length * 2 + 1)).1 + 2).toNat : Int) - 2) = (plF ll st W li j L (L.length * 2 + 1)).1 by omega]) ?_
              refine qX4_202 ok (As := [.int (zI ((((plF ll st W li j L (L.length * 2 + 1)).1 + 2).toNat : Int) - 2))]) (st := []) (c4_lawsOfWorth l D cI cZ cS (((plF ll st W li j L (L.length * 2 + 1)).1 + 2).toNat) (by have hb9 := hpb j (L.length * 2 + 1); omega)) rfl (Nat.le_of_ble_eq_true rfl) (Nat.le_of_ble_eq_true rfl) (Nat.le_of_ble_eq_true rfl) dX4_plan_134 [] (by decide) rfl (ws' := fun u => [(x, .inr (4, [.ref ax, .ref aw, .ref an, .ref aa, .ref a0, .ref a1, .int (nI sk), .int (nI ll), .long sd, .ref ar, .ref aq, .ref al, .ref am])), (aw, .inr (3, [.ref wd, .ref wt, .int (nI W)])), (wt, .inl (cI, 4, .inl tf)), (an, .inr (1, [.ref nc, .int (nI L.length), .int (nI li), .int ye, .int br])), (nc, .inl (cI, 48, .inl f)), (ar, .inr (1, [.ref rc, .int (nI n9), .int (nI l9), .int y9, .int b9])), (rc, .inl (cI, 48, .inl f9)), (aq, .inr (1, [.ref qc, .int (nI m9), .int (nI k9), .int w9, .int c9])), (qc, .inl (cI, 48, .inl e9))]) (st' := fun u => [.int (nI ((((plF ll st W li j L (L.length * 2 + 1)).1 + 2).toNat) / 3))]) (fun _ => rfl) (fun _ => rfl) (fun _ => rfl) (fun _ _ => ?_)
              refine x_goto ok 142 dX4_plan_137 (by decide) ?_
              exact ret (n9, l9, y9, b9, f9, m9, k9, w9, c9, e9) _ _ _ (nI ((((plF ll st W li j L (L.length * 2 + 1)).1 + 2).toNat) / 3)) dX4_plan_142 (rfl) (by rw [planI, if_pos ⟨c_6, c_15⟩, ej, c_130]; rfl) (trivial)
          · skip
            have hpa := hpb j a
            refine x_aload_n ok 4 dX4_plan_46 rfl rfl ?_
            refine gX4_43 ok dX4_plan_47 0 rfl rfl ?_
            refine x_aload_n ok 4 dX4_plan_50 rfl rfl ?_
            refine gX4_26 ok dX4_plan_51 0 rfl rfl ?_
            refine qX4_168 ok (As := [.ref an]) (st := []) 5 rfl (c1_take l D cI cZ cS ar rc n9 l9 y9 b9 f9 an nc L li ye br f (by first | assumption | omega) (by first | assumption | omega)) rfl (Nat.le_of_ble_eq_true rfl) (Nat.le_of_ble_eq_true rfl) (Nat.le_of_ble_eq_true rfl) dX4_plan_54 [5, 6, 3, 4] (by decide) rfl (ws' := fun u => [(x, .inr (4, [.ref ax, .ref aw, .ref an, .ref aa, .ref a0, .ref a1, .int (nI sk), .int (nI ll), .long sd, .ref ar, .ref aq, .ref al, .ref am])), (aw, .inr (3, [.ref wd, .ref wt, .int (nI W)])), (wt, .inl (cI, 4, .inl tf)), (an, .inr (1, [.ref nc, .int (nI L.length), .int (nI li), .int ye, .int br])), (nc, .inl (cI, 48, .inl f)), (ar, .inr (1, [.ref rc, .int (nI L.length), .int (nI li), .int ye, .int br])), (rc, .inl (cI, 48, .inl u)), (aq, .inr (1, [.ref qc, .int (nI m9), .int (nI k9), .int w9, .int c9])), (qc, .inl (cI, 48, .inl e9))]) (st' := fun u => []) (fun _ => rfl) (fun _ => rfl) (fun _ => rfl) (fun u54 hu54 => ?_)
            obtain ⟨g54, rfl⟩ : ∃ z, z = u54 := ⟨_, rfl⟩
            have hg54 := hu54
            have hg54 : hs g54 L := hg54
            show XX K [(x, .inr (4, [.ref ax, .ref aw, .ref an, .ref aa, .ref a0, .ref a1, .int (nI sk), .int (nI ll), .long sd, .ref ar, .ref aq, .ref al, .ref am])), (aw, .inr (3, [.ref wd, .ref wt, .int (nI W)])), (wt, .inl (cI, 4, .inl tf)), (an, .inr (1, [.ref nc, .int (nI L.length), .int (nI li), .int ye, .int br])), (nc, .inl (cI, 48, .inl f)), (ar, .inr (1, [.ref rc, .int (nI L.length), .int (nI li), .int ye, .int br])), (rc, .inl (cI, 48, .inl g54)), (aq, .inr (1, [.ref qc, .int (nI m9), .int (nI k9), .int w9, .int c9])), (qc, .inl (cI, 48, .inl e9))] [(6, .int (nI a)), (5, .int (nI (L.length * 2 + 1))), (4, .int (nI ((plF ll st W li j L a).2))), (3, .int (zI ((plF ll st W li j L a).1))), (0, .ref x), (1, .int (nI j)), (2, .int (nI q))] 57 []
            refine x_aload_n ok 4 dX4_plan_57 rfl rfl ?_
            refine x_aload_n ok 4 dX4_plan_58 rfl rfl ?_
            refine gX4_43 ok dX4_plan_59 0 rfl rfl ?_
            refine x_iload ok 0 dX4_plan_62 rfl ?_
            refine qX4_189 ok (As := [.ref ar, .int (nI a)]) (st := []) 0 rfl (c4_isDone l D cI cZ cS x ax aw an aa a0 a1 sk ll ar aq al am sd wd wt W df tf dp st A ar rc L li ye br g54 a (by first | assumption | omega) (by first | assumption | omega) (by first | assumption | omega) (by first | assumption | omega) (by first | assumption | omega) (by first | assumption | omega) (by first | assumption | omega)) rfl (Nat.le_of_ble_eq_true rfl) (Nat.le_of_ble_eq_true rfl) (Nat.le_of_ble_eq_true rfl) dX4_plan_64 [0, 1, 2, 5, 6] (by decide) rfl (ws' := fun u => [(x, .inr (4, [.ref ax, .ref aw, .ref an, .ref aa, .ref a0, .ref a1, .int (nI sk), .int (nI ll), .long sd, .ref ar, .ref aq, .ref al, .ref am])), (aw, .inr (3, [.ref wd, .ref wt, .int (nI W)])), (wt, .inl (cI, 4, .inl tf)), (an, .inr (1, [.ref nc, .int (nI L.length), .int (nI li), .int ye, .int br])), (nc, .inl (cI, 48, .inl f)), (ar, .inr (1, [.ref rc, .int (nI ((afterL st W li L a).length)), .int (nI li), .int ye, .int u.2])), (rc, .inl (cI, 48, .inl u.1)), (aq, .inr (1, [.ref qc, .int (nI m9), .int (nI k9), .int w9, .int c9])), (qc, .inl (cI, 48, .inl e9))]) (st' := fun u => [.int (bz (canB W li L a))]) (fun _ => rfl) (fun _ => rfl) (fun _ => rfl) (fun u64 hu64 => ?_)
            obtain ⟨g64, b64⟩ := u64
            have hg64 := hu64
            have hg64 : hs g64 (afterL st W li L a) := hg64
            show XX K [(x, .inr (4, [.ref ax, .ref aw, .ref an, .ref aa, .ref a0, .ref a1, .int (nI sk), .int (nI ll), .long sd, .ref ar, .ref aq, .ref al, .ref am])), (aw, .inr (3, [.ref wd, .ref wt, .int (nI W)])), (wt, .inl (cI, 4, .inl tf)), (an, .inr (1, [.ref nc, .int (nI L.length), .int (nI li), .int ye, .int br])), (nc, .inl (cI, 48, .inl f)), (ar, .inr (1, [.ref rc, .int (nI ((afterL st W li L a).length)), .int (nI li), .int ye, .int b64])), (rc, .inl (cI, 48, .inl g64)), (aq, .inr (1, [.ref qc, .int (nI m9), .int (nI k9), .int w9, .int c9])), (qc, .inl (cI, 48, .inl e9))] [(6, .int (nI a)), (5, .int (nI (L.length * 2 + 1))), (4, .int (nI ((plF ll st W li j L a).2))), (3, .int (zI ((plF ll st W li j L a).1))), (0, .ref x), (1, .int (nI j)), (2, .int (nI q))] 67 [.int (bz (canB W li L a))]
            refine x_if_eqB ok 123 dX4_plan_67 (by decide) (fun c_67 => ?_) (fun c_67 => ?_)
            · skip
              refine x_iinc ok (v := nI (a + 1)) (lv' := [(6, .int (nI (a + 1))), (5, .int (nI (L.length * 2 + 1))), (4, .int (nI ((plF ll st W li j L a).2))), (3, .int (zI ((plF ll st W li j L a).1))), (0, .ref x), (1, .int (nI j)), (2, .int (nI q))]) dX4_plan_123 0 rfl (nN (nI_inc _ 1) (by omega)) (by decide) rfl ?_
              refine x_goto ok 39 dX4_plan_126 (by decide) ?_
              have em : plF ll st W li j L (a + 1) = plF ll st W li j L a := by simp only [plF]; rw [if_neg (fun z => c_67 z.1)]
              refine x_eq (lv' := [(6, .int (nI (a + 1))), (5, .int (nI (L.length * 2 + 1))), (4, .int (nI ((plF ll st W li j L (a + 1)).2))), (3, .int (zI ((plF ll st W li j L (a + 1)).1))), (0, .ref x), (1, .int (nI j)), (2, .int (nI q))]) rfl (by rw [em]) rfl ?_
              exact ih_39 (a + 1) ((afterL st W li L a).length) li ye b64 g64 m9 k9 w9 c9 e9 (by omega) (by first | assumption | omega)
            · skip
              have ea : afterL st W li L a = doL st L a := by rw [afterL, if_pos c_67]
              rw [show afterL st W li L a = doL st L a from ea]
              rw [ea] at hg64
              have hdo := do_ok (st := st) hW hv c_67
              have hpw := plW_b (ll := ll) (n := j) (st := st) hW hv c_67
              refine x_aload_n ok 4 dX4_plan_70 rfl rfl ?_
              refine gX4_43 ok dX4_plan_71 0 rfl rfl ?_
              refine x_aload_n ok 4 dX4_plan_74 rfl rfl ?_
              refine gX4_19 ok dX4_plan_75 0 rfl rfl ?_
              refine qX4_140 ok (As := [.ref aw]) (st := []) 5 rfl (c1_goYear l D cI cZ cS ar rc (doL st L a) li ye b64 g64 aw wd wt W tf st A (hg64) (hdo) (by first | assumption | omega) (by first | assumption | omega) (by first | assumption | omega) (by first | assumption | omega)) rfl (Nat.le_of_ble_eq_true rfl) (Nat.le_of_ble_eq_true rfl) (Nat.le_of_ble_eq_true rfl) dX4_plan_78 [5, 6, 1, 2] (by decide) rfl (ws' := fun u => [(x, .inr (4, [.ref ax, .ref aw, .ref an, .ref aa, .ref a0, .ref a1, .int (nI sk), .int (nI ll), .long sd, .ref ar, .ref aq, .ref al, .ref am])), (aw, .inr (3, [.ref wd, .ref wt, .int (nI W)])), (wt, .inl (cI, 4, .inl tf)), (an, .inr (1, [.ref nc, .int (nI L.length), .int (nI li), .int ye, .int br])), (nc, .inl (cI, 48, .inl f)), (ar, .inr (1, [.ref rc, .int (nI ((yearL st li (doL st L a)).length)), .int (nI li), .int (ye + nI 1), .int b64])), (rc, .inl (cI, 48, .inl u)), (aq, .inr (1, [.ref qc, .int (nI m9), .int (nI k9), .int w9, .int c9])), (qc, .inl (cI, 48, .inl e9))]) (st' := fun u => [.int (nI ((doL st L a).length - (yearL st li (doL st L a)).length))]) (fun _ => rfl) (fun _ => rfl) (fun _ => rfl) (fun u78 hu78 => ?_)
              obtain ⟨g78, rfl⟩ : ∃ z, z = u78 := ⟨_, rfl⟩
              have hg78 := hu78
              have hg78 : hs g78 (yearL st li (doL st L a)) := hg78
              show XX K [(x, .inr (4, [.ref ax, .ref aw, .ref an, .ref aa, .ref a0, .ref a1, .int (nI sk), .int (nI ll), .long sd, .ref ar, .ref aq, .ref al, .ref am])), (aw, .inr (3, [.ref wd, .ref wt, .int (nI W)])), (wt, .inl (cI, 4, .inl tf)), (an, .inr (1, [.ref nc, .int (nI L.length), .int (nI li), .int ye, .int br])), (nc, .inl (cI, 48, .inl f)), (ar, .inr (1, [.ref rc, .int (nI ((yearL st li (doL st L a)).length)), .int (nI li), .int (ye + nI 1), .int b64])), (rc, .inl (cI, 48, .inl g78)), (aq, .inr (1, [.ref qc, .int (nI m9), .int (nI k9), .int w9, .int c9])), (qc, .inl (cI, 48, .inl e9))] [(6, .int (nI a)), (5, .int (nI (L.length * 2 + 1))), (4, .int (nI ((plF ll st W li j L a).2))), (3, .int (zI ((plF ll st W li j L a).1))), (0, .ref x), (1, .int (nI j)), (2, .int (nI q))] 81 [.int (nI ((doL st L a).length - (yearL st li (doL st L a)).length))]
              refine x_pop ok dX4_plan_81 rfl ?_
              refine x_iload ok 0 dX4_plan_82 rfl ?_
              refine qX4_193 ok (As := [.int (nI a)]) (st := []) (c4_worthOfDeed l D cI cZ cS a (by first | assumption | omega)) rfl (Nat.le_of_ble_eq_true rfl) (Nat.le_of_ble_eq_true rfl) (Nat.le_of_ble_eq_true rfl) dX4_plan_84 [] (by decide) rfl (ws' := fun u => [(x, .inr (4, [.ref ax, .ref aw, .ref an, .ref aa, .ref a0, .ref a1, .int (nI sk), .int (nI ll), .long sd, .ref ar, .ref aq, .ref al, .ref am])), (aw, .inr (3, [.ref wd, .ref wt, .int (nI W)])), (wt, .inl (cI, 4, .inl tf)), (an, .inr (1, [.ref nc, .int (nI L.length), .int (nI li), .int ye, .int br])), (nc, .inl (cI, 48, .inl f)), (ar, .inr (1, [.ref rc, .int (nI ((yearL st li (doL st L a)).length)), .int (nI li), .int (ye + nI 1), .int b64])), (rc, .inl (cI, 48, .inl g78)), (aq, .inr (1, [.ref qc, .int (nI m9), .int (nI k9), .int w9, .int c9])), (qc, .inl (cI, 48, .inl e9))]) (st' := fun u => [.int (zI (sgn1 a))]) (fun _ => rfl) (fun _ => rfl) (fun _ => rfl) (fun _ _ => ?_)
              refine x_iload_n ok 5 dX4_plan_87 rfl rfl ?_
              refine x_iconst ok (nI 1) dX4_plan_88 (by decide) ?_
              refine x_icmp_neN ok 103 dX4_plan_89 (by decide) (by omega) (by omega) (fun c_89 => ?_) (fun c_89 => ?_)
              · skip
                refine x_aload_n ok 4 dX4_plan_103 rfl rfl ?_
                refine qX4_199 ok (As := []) (st := [.int (zI (sgn1 a))]) 0 rfl (c4_bestSecondWorth l D cI cZ cS x ax aw an aa a0 a1 sk ll ar aq al am sd wd wt W df tf dp st (A + 1) rc (yearL st li (doL st L a)) li (ye + nI 1) b64 g78 qc m9 k9 w9 c9 e9 (hg78) (year_ok hdo) (by first | assumption | omega) (by first | assumption | omega) (by first | assumption | omega) (by first | assumption | omega)) rfl (Nat.le_of_ble_eq_true rfl) (Nat.le_of_ble_eq_true rfl) (Nat.le_of_ble_eq_true rfl) dX4_plan_104 [0, 1, 2, 5, 6, 7, 8] (by decide) rfl (ws' := fun u => [(x, .inr (4, [.ref ax, .ref aw, .ref an, .ref aa, .ref a0, .ref a1, .int (nI sk), .int (nI ll), .long sd, .ref ar, .ref aq, .ref al, .ref am])), (aw, .inr (3, [.ref wd, .ref wt, .int (nI W)])), (wt, .inl (cI, 4, .inl tf)), (an, .inr (1, [.ref nc, .int (nI L.length), .int (nI li), .int ye, .int br])), (nc, .inl (cI, 48, .inl f)), (ar, .inr (1, [.ref rc, .int (nI ((yearL st li (doL st L a)).length)), .int (nI li), .int (ye + nI 1), .int b64])), (rc, .inl (cI, 48, .inl g78)), (aq, .inr (1, [.ref qc, .int (nI u.1), .int (nI u.2.1), .int u.2.2.1, .int u.2.2.2.1])), (qc, .inl (cI, 48, .inl u.2.2.2.2))]) (st' := fun u => [.int (zI (bsw ll st W li (yearL st li (doL st L a)) ((yearL st li (doL st L a)).length * 2 + 1))), .int (zI (sgn1 a))]) (fun _ => rfl) (fun _ => rfl) (fun _ => rfl) (fun u104 hu104 => ?_)
                obtain ⟨un104, ul104, uy104, ub104, uf104⟩ := u104
                show XX K [(x, .inr (4, [.ref ax, .ref aw, .ref an, .ref aa, .ref a0, .ref a1, .int (nI sk), .int (nI ll), .long sd, .ref ar, .ref aq, .ref al, .ref am])), (aw, .inr (3, [.ref wd, .ref wt, .int (nI W)])), (wt, .inl (cI, 4, .inl tf)), (an, .inr (1, [.ref nc, .int (nI L.length), .int (nI li), .int ye, .int br])), (nc, .inl (cI, 48, .inl f)), (ar, .inr (1, [.ref rc, .int (nI ((yearL st li (doL st L a)).length)), .int (nI li), .int (ye + nI 1), .int b64])), (rc, .inl (cI, 48, .inl g78)), (aq, .inr (1, [.ref qc, .int (nI un104), .int (nI ul104), .int uy104, .int ub104])), (qc, .inl (cI, 48, .inl uf104))] [(6, .int (nI a)), (5, .int (nI (L.length * 2 + 1))), (4, .int (nI ((plF ll st W li j L a).2))), (3, .int (zI ((plF ll st W li j L a).1))), (0, .ref x), (1, .int (nI j)), (2, .int (nI q))] 107 [.int (zI (bsw ll st W li (yearL st li (doL st L a)) ((yearL st li (doL st L a)).length * 2 + 1))), .int (zI (sgn1 a))]
                refine x_iadd ok ((zI (plW ll st W li j L a))) dX4_plan_107 ((zI_add _ _).trans (by rw [plW, if_neg c_89])) ?_
                refine x_istore ok (lv' := [(7, .int (zI (plW ll st W li j L a))), (6, .int (nI a)), (5, .int (nI (L.length * 2 + 1))), (4, .int (nI ((plF ll st W li j L a).2))), (3, .int (zI ((plF ll st W li j L a).1))), (0, .ref x), (1, .int (nI j)), (2, .int (nI q))]) dX4_plan_108 (by decide) rfl ?_
                refine x_iload ok 0 dX4_plan_110 rfl ?_
                refine x_iload_n ok 4 dX4_plan_112 rfl rfl ?_
                refine x_icmp_le ok 123 dX4_plan_113 (by decide) (fun c_113 => ?_) (fun c_113 => ?_)
                · skip
                  have nle : ¬ (plF ll st W li j L a).1 < plW ll st W li j L a := fun z => by have := (zI_le (by omega) (by omega) (by omega) (by omega)).mp c_113; omega
                  refine x_iinc ok (v := nI (a + 1)) (lv' := [(6, .int (nI (a + 1))), (7, .int (zI (plW ll st W li j L a))), (5, .int (nI (L.length * 2 + 1))), (4, .int (nI ((plF ll st W li j L a).2))), (3, .int (zI ((plF ll st W li j L a).1))), (0, .ref x), (1, .int (nI j)), (2, .int (nI q))]) dX4_plan_123 1 rfl (nN (nI_inc _ 1) (by omega)) (by decide) rfl ?_
                  refine x_goto ok 39 dX4_plan_126 (by decide) ?_
                  refine x_loc ok [0, 2, 3, 4, 5, 6, 7] (lv' := [(6, .int (nI (a + 1))), (5, .int (nI (L.length * 2 + 1))), (4, .int (nI ((plF ll st W li j L a).2))), (3, .int (zI ((plF ll st W li j L a).1))), (0, .ref x), (1, .int (nI j)), (2, .int (nI q))]) rfl ?_
                  have em : plF ll st W li j L (a + 1) = plF ll st W li j L a := by simp only [plF]; rw [if_neg (fun z => nle z.2)]
                  refine x_eq (lv' := [(6, .int (nI (a + 1))), (5, .int (nI (L.length * 2 + 1))), (4, .int (nI ((plF ll st W li j L (a + 1)).2))), (3, .int (zI ((plF ll st W li j L (a + 1)).1))), (0, .ref x), (1, .int (nI j)), (2, .int (nI q))]) rfl (by rw [em]) rfl ?_
                  exact ih_39 (a + 1) ((yearL st li (doL st L a)).length) li (ye + nI 1) b64 g78 un104 ul104 uy104 ub104 uf104 (by omega) (by first | assumption | omega)
                · skip
                  have yle : (plF ll st W li j L a).1 < plW ll st W li j L a := Classical.byContradiction fun z => c_113 ((zI_le (by omega) (by omega) (by omega) (by omega)).mpr (by omega))
                  refine x_iload ok 0 dX4_plan_116 rfl ?_
                  refine x_istore_n ok (lv' := [(3, .int (zI (plW ll st W li j L a))), (7, .int (zI (plW ll st W li j L a))), (6, .int (nI a)), (5, .int (nI (L.length * 2 + 1))), (4, .int (nI ((plF ll st W li j L a).2))), (0, .ref x), (1, .int (nI j)), (2, .int (nI q))]) dX4_plan_118 rfl (by decide) rfl ?_
                  refine x_iload ok 2 dX4_plan_119 rfl ?_
                  refine x_istore ok (lv' := [(4, .int (nI a)), (3, .int (zI (plW ll st W li j L a))), (7, .int (zI (plW ll st W li j L a))), (6, .int (nI a)), (5, .int (nI (L.length * 2 + 1))), (0, .ref x), (1, .int (nI j)), (2, .int (nI q))]) dX4_plan_121 (by decide) rfl ?_
                  refine x_iinc ok (v := nI (a + 1)) (lv' := [(6, .int (nI (a + 1))), (4, .int (nI a)), (3, .int (zI (plW ll st W li j L a))), (7, .int (zI (plW ll st W li j L a))), (5, .int (nI (L.length * 2 + 1))), (0, .ref x), (1, .int (nI j)), (2, .int (nI q))]) dX4_plan_123 3 rfl (nN (nI_inc _ 1) (by omega)) (by decide) rfl ?_
                  refine x_goto ok 39 dX4_plan_126 (by decide) ?_
                  refine x_loc ok [0, 4, 1, 2, 5, 6, 7] (lv' := [(6, .int (nI (a + 1))), (5, .int (nI (L.length * 2 + 1))), (4, .int (nI a)), (3, .int (zI (plW ll st W li j L a))), (0, .ref x), (1, .int (nI j)), (2, .int (nI q))]) rfl ?_
                  have em : plF ll st W li j L (a + 1) = (plW ll st W li j L a, a) := by simp only [plF]; rw [if_pos ⟨c_67, yle⟩]
                  refine x_eq (lv' := [(6, .int (nI (a + 1))), (5, .int (nI (L.length * 2 + 1))), (4, .int (nI ((plF ll st W li j L (a + 1)).2))), (3, .int (zI ((plF ll st W li j L (a + 1)).1))), (0, .ref x), (1, .int (nI j)), (2, .int (nI q))]) rfl (by rw [em]) rfl ?_
                  exact ih_39 (a + 1) ((yearL st li (doL st L a)).length) li (ye + nI 1) b64 g78 un104 ul104 uy104 ub104 uf104 (by omega) (by first | assumption | omega)
              · skip
                refine x_aload_n ok 4 dX4_plan_92 rfl rfl ?_
                refine x_aload_n ok 4 dX4_plan_93 rfl rfl ?_
                refine gX4_43 ok dX4_plan_94 0 rfl rfl ?_
                refine qX4_196 ok (As := [.ref ar]) (st := [.int (zI (sgn1 a))]) 0 rfl (c4_worthBehindPlan l D cI cZ cS x ax aw an aa a0 a1 sk ll ar aq al am sd wd wt W df tf dp st (A + 1) ar rc (yearL st li (doL st L a)) li (ye + nI 1) b64 g78 (hg78) (year_ok hdo) (by first | assumption | omega) (by first | assumption | omega) (by first | assumption | omega) (by first | assumption | omega)) rfl (Nat.le_of_ble_eq_true rfl) (Nat.le_of_ble_eq_true rfl) (Nat.le_of_ble_eq_true rfl) dX4_plan_97 [0, 1, 2, 5, 6] (by decide) rfl (ws' := fun u => [(x, .inr (4, [.ref ax, .ref aw, .ref an, .ref aa, .ref a0, .ref a1, .int (nI sk), .int (nI ll), .long sd, .ref ar, .ref aq, .ref al, .ref am])), (aw, .inr (3, [.ref wd, .ref wt, .int (nI W)])), (wt, .inl (cI, 4, .inl tf)), (an, .inr (1, [.ref nc, .int (nI L.length), .int (nI li), .int ye, .int br])), (nc, .inl (cI, 48, .inl f)), (ar, .inr (1, [.ref rc, .int (nI ((yearsL st li 3 (yearL st li (doL st L a))).length)), .int (nI li), .int u.2, .int b64])), (rc, .inl (cI, 48, .inl u.1)), (aq, .inr (1, [.ref qc, .int (nI m9), .int (nI k9), .int w9, .int c9])), (qc, .inl (cI, 48, .inl e9))]) (st' := fun u => [.int (nI (llN ll (yearsL st li 3 (yearL st li (doL st L a))) * 3)), .int (zI (sgn1 a))]) (fun _ => rfl) (fun _ => rfl) (fun _ => rfl) (fun u97 hu97 => ?_)
                obtain ⟨g97, y97⟩ := u97
                show XX K [(x, .inr (4, [.ref ax, .ref aw, .ref an, .ref aa, .ref a0, .ref a1, .int (nI sk), .int (nI ll), .long sd, .ref ar, .ref aq, .ref al, .ref am])), (aw, .inr (3, [.ref wd, .ref wt, .int (nI W)])), (wt, .inl (cI, 4, .inl tf)), (an, .inr (1, [.ref nc, .int (nI L.length), .int (nI li), .int ye, .int br])), (nc, .inl (cI, 48, .inl f)), (ar, .inr (1, [.ref rc, .int (nI ((yearsL st li 3 (yearL st li (doL st L a))).length)), .int (nI li), .int y97, .int b64])), (rc, .inl (cI, 48, .inl g97)), (aq, .inr (1, [.ref qc, .int (nI m9), .int (nI k9), .int w9, .int c9])), (qc, .inl (cI, 48, .inl e9))] [(6, .int (nI a)), (5, .int (nI (L.length * 2 + 1))), (4, .int (nI ((plF ll st W li j L a).2))), (3, .int (zI ((plF ll st W li j L a).1))), (0, .ref x), (1, .int (nI j)), (2, .int (nI q))] 100 [.int (nI (llN ll (yearsL st li 3 (yearL st li (doL st L a))) * 3)), .int (zI (sgn1 a))]
                refine x_goto ok 107 dX4_plan_100 (by decide) ?_
                refine x_iadd ok ((zI (plW ll st W li j L a))) dX4_plan_107 ((zI_addn _ _).trans (by rw [plW, if_pos c_89]; congr 1; omega)) ?_
                refine x_istore ok (lv' := [(7, .int (zI (plW ll st W li j L a))), (6, .int (nI a)), (5, .int (nI (L.length * 2 + 1))), (4, .int (nI ((plF ll st W li j L a).2))), (3, .int (zI ((plF ll st W li j L a).1))), (0, .ref x), (1, .int (nI j)), (2, .int (nI q))]) dX4_plan_108 (by decide) rfl ?_
                refine x_iload ok 0 dX4_plan_110 rfl ?_
                refine x_iload_n ok 4 dX4_plan_112 rfl rfl ?_
                refine x_icmp_le ok 123 dX4_plan_113 (by decide) (fun c_113 => ?_) (fun c_113 => ?_)
                · skip
                  have nle : ¬ (plF ll st W li j L a).1 < plW ll st W li j L a := fun z => by have := (zI_le (by omega) (by omega) (by omega) (by omega)).mp c_113; omega
                  refine x_iinc ok (v := nI (a + 1)) (lv' := [(6, .int (nI (a + 1))), (7, .int (zI (plW ll st W li j L a))), (5, .int (nI (L.length * 2 + 1))), (4, .int (nI ((plF ll st W li j L a).2))), (3, .int (zI ((plF ll st W li j L a).1))), (0, .ref x), (1, .int (nI j)), (2, .int (nI q))]) dX4_plan_123 1 rfl (nN (nI_inc _ 1) (by omega)) (by decide) rfl ?_
                  refine x_goto ok 39 dX4_plan_126 (by decide) ?_
                  refine x_loc ok [0, 2, 3, 4, 5, 6, 7] (lv' := [(6, .int (nI (a + 1))), (5, .int (nI (L.length * 2 + 1))), (4, .int (nI ((plF ll st W li j L a).2))), (3, .int (zI ((plF ll st W li j L a).1))), (0, .ref x), (1, .int (nI j)), (2, .int (nI q))]) rfl ?_
                  have em : plF ll st W li j L (a + 1) = plF ll st W li j L a := by simp only [plF]; rw [if_neg (fun z => nle z.2)]
                  refine x_eq (lv' := [(6, .int (nI (a + 1))), (5, .int (nI (L.length * 2 + 1))), (4, .int (nI ((plF ll st W li j L (a + 1)).2))), (3, .int (zI ((plF ll st W li j L (a + 1)).1))), (0, .ref x), (1, .int (nI j)), (2, .int (nI q))]) rfl (by rw [em]) rfl ?_
                  exact ih_39 (a + 1) ((yearsL st li 3 (yearL st li (doL st L a))).length) li y97 b64 g97 m9 k9 w9 c9 e9 (by omega) (by first | assumption | omega)
                · skip
                  have yle : (plF ll st W li j L a).1 < plW ll st W li j L a := Classical.byContradiction fun z => c_113 ((zI_le (by omega) (by omega) (by omega) (by omega)).mpr (by omega))
                  refine x_iload ok 0 dX4_plan_116 rfl ?_
                  refine x_istore_n ok (lv' := [(3, .int (zI (plW ll st W li j L a))), (7, .int (zI (plW ll st W li j L a))), (6, .int (nI a)), (5, .int (nI (L.length * 2 + 1))), (4, .int (nI ((plF ll st W li j L a).2))), (0, .ref x), (1, .int (nI j)), (2, .int (nI q))]) dX4_plan_118 rfl (by decide) rfl ?_
                  refine x_iload ok 2 dX4_plan_119 rfl ?_
                  refine x_istore ok (lv' := [(4, .int (nI a)), (3, .int (zI (plW ll st W li j L a))), (7, .int (zI (plW ll st W li j L a))), (6, .int (nI a)), (5, .int (nI (L.length * 2 + 1))), (0, .ref x), (1, .int (nI j)), (2, .int (nI q))]) dX4_plan_121 (by decide) rfl ?_
                  refine x_iinc ok (v := nI (a + 1)) (lv' := [(6, .int (nI (a + 1))), (4, .int (nI a)), (3, .int (zI (plW ll st W li j L a))), (7, .int (zI (plW ll st W li j L a))), (5, .int (nI (L.length * 2 + 1))), (0, .ref x), (1, .int (nI j)), (2, .int (nI q))]) dX4_plan_123 3 rfl (nN (nI_inc _ 1) (by omega)) (by decide) rfl ?_
                  refine x_goto ok 39 dX4_plan_126 (by decide) ?_
                  refine x_loc ok [0, 4, 1, 2, 5, 6, 7] (lv' := [(6, .int (nI (a + 1))), (5, .int (nI (L.length * 2 + 1))), (4, .int (nI a)), (3, .int (zI (plW ll st W li j L a))), (0, .ref x), (1, .int (nI j)), (2, .int (nI q))]) rfl ?_
                  have em : plF ll st W li j L (a + 1) = (plW ll st W li j L a, a) := by simp only [plF]; rw [if_pos ⟨c_67, yle⟩]
                  refine x_eq (lv' := [(6, .int (nI (a + 1))), (5, .int (nI (L.length * 2 + 1))), (4, .int (nI ((plF ll st W li j L (a + 1)).2))), (3, .int (zI ((plF ll st W li j L (a + 1)).1))), (0, .ref x), (1, .int (nI j)), (2, .int (nI q))]) rfl (by rw [em]) rfl ?_
                  exact ih_39 (a + 1) ((yearsL st li 3 (yearL st li (doL st L a))).length) li y97 b64 g97 m9 k9 w9 c9 e9 (by omega) (by first | assumption | omega)
      exact L_39 _ 0 rn rl ry rb rf qn ql qy qb qf (Nat.lt_succ_self _) (by first | assumption | omega)
    · skip
      refine x_bipush ok ((-2)) dX4_plan_18 (by decide) ?_
      exact ret (rn, rl, ry, rb, rf, qn, ql, qy, qb, qf) _ _ _ ((-2)) dX4_plan_20 (rfl) (by rw [planI, if_neg (fun z => c_15 z.2)]) (trivial)

set_option maxHeartbeats 4000000 in
set_option maxRecDepth 100000 in
theorem p_lamps (l : Launch) (D : va_G) (cI cZ cS : ClassId) (x : Nat) (ax : Nat) (aw : Nat) (an : Nat) (aa : Nat) (a0 : Nat) (a1 : Nat) (sk : Nat) (ll : Nat) (ar : Nat) (aq : Nat) (al : Nat) (am : Nat) (sd : Int64) (wd : Nat) (wt : Nat) (W : Nat) (df : Nat → Int32) (tf : Nat → Int32) (dp : Nat → Nat) (st : Nat → Nat) (A : Nat) (nc : Nat) (L : List Sg) (li : Nat) (ye : Int32) (br : Int32) (f : Nat → Int32) (hf : hs f L) (hv : okL W A L) (hW : W ≤ 4) (hdp : ∀ w, w < W → df w = nI (dp w)) (hdp2 : ∀ w, w < W → 1 ≤ dp w ∧ dp w ≤ 9) (hl : li < 256) (hA : A < 1000000) : CO l D (TY cI cZ cS) yX4_lamps cX4_lamps 7 (some .int) 3 76 0 0 [.ref x] [(x, .inr (4, [.ref ax, .ref aw, .ref an, .ref aa, .ref a0, .ref a1, .int (nI sk), .int (nI ll), .long sd, .ref ar, .ref aq, .ref al, .ref am])), (aw, .inr (3, [.ref wd, .ref wt, .int (nI W)])), (wd, .inl (cI, 4, .inl df)), (an, .inr (1, [.ref nc, .int (nI L.length), .int (nI li), .int ye, .int br])), (nc, .inl (cI, 48, .inl f))] (σ := Unit) (fun u => some (.int (lampsI L li dp W))) (fun u => [(x, .inr (4, [.ref ax, .ref aw, .ref an, .ref aa, .ref a0, .ref a1, .int (nI sk), .int (nI ll), .long sd, .ref ar, .ref aq, .ref al, .ref am])), (aw, .inr (3, [.ref wd, .ref wt, .int (nI W)])), (wd, .inl (cI, 4, .inl df)), (an, .inr (1, [.ref nc, .int (nI L.length), .int (nI li), .int ye, .int br])), (nc, .inl (cI, 48, .inl f))]) (fun u => True) := by
  refine CO_mki (by decide +kernel) (Nat.le_of_ble_eq_true rfl) (fun K ok ret => ?_)
  show XX K [(x, .inr (4, [.ref ax, .ref aw, .ref an, .ref aa, .ref a0, .ref a1, .int (nI sk), .int (nI ll), .long sd, .ref ar, .ref aq, .ref al, .ref am])), (aw, .inr (3, [.ref wd, .ref wt, .int (nI W)])), (wd, .inl (cI, 4, .inl df)), (an, .inr (1, [.ref nc, .int (nI L.length), .int (nI li), .int ye, .int br])), (nc, .inl (cI, 48, .inl f))] [(0, .ref x)] 0 []
  have h8 := hv.1
  have hl6 := lawsN_lt hv
  have hone := lamp_lt (li := li) (n := W) (dp := dp) hv
  refine x_aload_n ok 0 dX4_lamps_0 rfl rfl ?_
  refine gX4_26 ok dX4_lamps_1 0 rfl rfl ?_
  refine qX4_82 ok (As := []) (st := []) 3 rfl (c1_lawsHad l D cI cZ cS an nc L li ye br f W A (by first | assumption | omega) (by first | assumption | omega)) rfl (Nat.le_of_ble_eq_true rfl) (Nat.le_of_ble_eq_true rfl) (Nat.le_of_ble_eq_true rfl) dX4_lamps_4 [3, 4] (by decide) rfl (ws' := fun u => [(x, .inr (4, [.ref ax, .ref aw, .ref an, .ref aa, .ref a0, .ref a1, .int (nI sk), .int (nI ll), .long sd, .ref ar, .ref aq, .ref al, .ref am])), (aw, .inr (3, [.ref wd, .ref wt, .int (nI W)])), (wd, .inl (cI, 4, .inl df)), (an, .inr (1, [.ref nc, .int (nI L.length), .int (nI li), .int ye, .int br])), (nc, .inl (cI, 48, .inl f))]) (st' := fun u => [.int (nI (lawsN L))]) (fun _ => rfl) (fun _ => rfl) (fun _ => rfl) (fun _ _ => ?_)
  refine x_istore_n ok (lv' := [(1, .int (nI (lawsN L))), (0, .ref x)]) dX4_lamps_7 rfl (by decide) rfl ?_
  refine x_aload_n ok 1 dX4_lamps_8 rfl rfl ?_
  refine qX4_219 ok (As := []) (st := []) 0 rfl (c4_lawsByOneLamp l D cI cZ cS x ax aw an aa a0 a1 sk ll ar aq al am sd wd wt W df tf dp st A nc L li ye br f (by first | assumption | omega) (by first | assumption | omega) (by first | assumption | omega) (by first | assumption | omega) (by first | assumption | omega) (by first | assumption | omega) (by first | assumption | omega)) rfl (Nat.le_of_ble_eq_true rfl) (Nat.le_of_ble_eq_true rfl) (Nat.le_of_ble_eq_true rfl) dX4_lamps_9 [0, 1, 2, 3, 4] (by decide) rfl (ws' := fun u => [(x, .inr (4, [.ref ax, .ref aw, .ref an, .ref aa, .ref a0, .ref a1, .int (nI sk), .int (nI ll), .long sd, .ref ar, .ref aq, .ref al, .ref am])), (aw, .inr (3, [.ref wd, .ref wt, .int (nI W)])), (wd, .inl (cI, 4, .inl df)), (an, .inr (1, [.ref nc, .int (nI L.length), .int (nI li), .int ye, .int br])), (nc, .inl (cI, 48, .inl f))]) (st' := fun u => [.long (lN (lampN L li dp W))]) (fun _ => rfl) (fun _ => rfl) (fun _ => rfl) (fun _ _ => ?_)
  refine x_lstore_n ok (lv' := [(2, .long (lN (lampN L li dp W))), (1, .int (nI (lawsN L))), (0, .ref x)]) dX4_lamps_12 rfl (by decide) rfl ?_
  refine x_lconst ok ((nI 1).toInt64) dX4_lamps_13 (by decide) ?_
  refine x_eq (st' := [.long (lN 1)]) rfl rfl (rfl) ?_
  refine x_lstore ok (lv' := [(4, .long (lN 1)), (2, .long (lN (lampN L li dp W))), (1, .int (nI (lawsN L))), (0, .ref x)]) dX4_lamps_14 (by decide) rfl ?_
  refine x_iconst ok (nI 0) dX4_lamps_16 (by decide) ?_
  refine x_istore ok (lv' := [(6, .int (nI 0)), (4, .long (lN 1)), (2, .long (lN (lampN L li dp W))), (1, .int (nI (lawsN L))), (0, .ref x)]) dX4_lamps_17 (by decide) rfl ?_
  have L_19 : ∀ (n_19 : Nat) (k : Nat) (v : Nat), 7 - k < n_19 → (k ≤ 7) → (v < 2 ^ 64) → (lmF (lampN L li dp W) (lawsN L) (7 - k) k v = lampsI L li dp W) → XX K [(x, .inr (4, [.ref ax, .ref aw, .ref an, .ref aa, .ref a0, .ref a1, .int (nI sk), .int (nI ll), .long sd, .ref ar, .ref aq, .ref al, .ref am])), (aw, .inr (3, [.ref wd, .ref wt, .int (nI W)])), (wd, .inl (cI, 4, .inl df)), (an, .inr (1, [.ref nc, .int (nI L.length), .int (nI li), .int ye, .int br])), (nc, .inl (cI, 48, .inl f))] [(6, .int (nI k)), (4, .long (lN v)), (2, .long (lN (lampN L li dp W))), (1, .int (nI (lawsN L))), (0, .ref x)] 19 [] := by
    intro n_19
    induction n_19 with
    | zero => intro k v hm; exact absurd hm (Nat.not_lt_zero _)
    | succ n_19 ih_19 =>
      intro k v hm_19 hk hvl ha
      refine x_iload ok 0 dX4_lamps_19 rfl ?_
      refine x_bipush ok (nI 6) dX4_lamps_21 (by decide) ?_
      refine x_icmp_gtN ok 54 dX4_lamps_23 (by decide) (by omega) (by omega) (fun c_23 => ?_) (fun c_23 => ?_)
      · skip
        refine x_bipush ok ((-9)) dX4_lamps_54 (by decide) ?_
        exact ret () _ _ _ ((-9)) dX4_lamps_56 (rfl) (by rw [← ha, show 7 - k = 0 by omega, lmF]) (trivial)
      · skip
        refine x_lload ok 1 dX4_lamps_26 rfl ?_
        refine x_iload_n ok 3 dX4_lamps_28 rfl rfl ?_
        refine x_lushr ok (lN (v / 2 ^ lawsN L)) dX4_lamps_29 (wb_shr hvl (by omega)) ?_
        refine x_lconst ok ((nI 1).toInt64) dX4_lamps_30 (by decide) ?_
        refine x_eq (st' := [.long (lN 1), .long (lN (v / 2 ^ lawsN L))]) rfl rfl (rfl) ?_
        refine x_land ok (lN ((v.testBit (lawsN L)).toNat)) dX4_lamps_31 (by have q := lwb_bit (n := v) (k := lawsN L) hvl (by omega); rw [wb_shr hvl (by omega)] at q; exact q) ?_
        refine x_lconst ok ((nI 1).toInt64) dX4_lamps_32 (by decide) ?_
        refine x_eq (st' := [.long (lN 1), .long (lN ((v.testBit (lawsN L)).toNat))]) rfl rfl (rfl) ?_
        refine x_lcmp ok dX4_lamps_33 ?_
        refine x_if_ne ok 40 dX4_lamps_34 (by decide) (fun c_34 => ?_) (fun c_34 => ?_)
        · skip
          have hbt : ¬ v.testBit (lawsN L) = true := fun q => c_34 ((lgc_b _).mpr q)
          refine x_lload ok 1 dX4_lamps_40 rfl ?_
          refine x_lload_n ok 2 dX4_lamps_42 rfl rfl ?_
          refine qX4_223 ok (As := [.long (lN v), .long (lN (lampN L li dp W))]) (st := []) (c4_joined l D cI cZ cS v (lampN L li dp W) (by first | assumption | omega) (by first | assumption | omega)) rfl (Nat.le_of_ble_eq_true rfl) (Nat.le_of_ble_eq_true rfl) (Nat.le_of_ble_eq_true rfl) dX4_lamps_43 [] (by decide) rfl (ws' := fun u => [(x, .inr (4, [.ref ax, .ref aw, .ref an, .ref aa, .ref a0, .ref a1, .int (nI sk), .int (nI ll), .long sd, .ref ar, .ref aq, .ref al, .ref am])), (aw, .inr (3, [.ref wd, .ref wt, .int (nI W)])), (wd, .inl (cI, 4, .inl df)), (an, .inr (1, [.ref nc, .int (nI L.length), .int (nI li), .int ye, .int br])), (nc, .inl (cI, 48, .inl f))]) (st' := fun u => [.long (lN (joiN v (lampN L li dp W) 64))]) (fun _ => rfl) (fun _ => rfl) (fun _ => rfl) (fun _ _ => ?_)
          refine x_lstore ok (lv' := [(4, .long (lN (joiN v (lampN L li dp W) 64))), (6, .int (nI k)), (2, .long (lN (lampN L li dp W))), (1, .int (nI (lawsN L))), (0, .ref x)]) dX4_lamps_46 (by decide) rfl ?_
          refine x_iinc ok (v := nI (k + 1)) (lv' := [(6, .int (nI (k + 1))), (4, .long (lN (joiN v (lampN L li dp W) 64))), (2, .long (lN (lampN L li dp W))), (1, .int (nI (lawsN L))), (0, .ref x)]) dX4_lamps_48 1 rfl (nN (nI_inc _ 1) (by omega)) (by decide) rfl ?_
          refine x_goto ok 19 dX4_lamps_51 (by decide) ?_
          exact ih_19 (k + 1) (joiN v (lampN L li dp W) 64) (by omega) (by first | assumption | omega) (joi_lt (Nat.le_refl 64)) (by rw [← ha, show 7 - k = (7 - (k + 1)) + 1 by omega, lmF, if_neg hbt])
        · skip
          have hbt : v.testBit (lawsN L) = true := (lgc_b _).mp c_34
          refine x_iload ok 0 dX4_lamps_37 rfl ?_
          exact ret () _ _ _ (nI k) dX4_lamps_39 (rfl) (by rw [← ha, show 7 - k = (7 - (k + 1)) + 1 by omega, lmF, if_pos hbt]) (trivial)
  exact L_19 _ 0 1 (Nat.lt_succ_self _) (by first | assumption | omega) (by decide) (rfl)

set_option maxHeartbeats 4000000 in
set_option maxRecDepth 100000 in
theorem p_truest (l : Launch) (D : va_G) (cI cZ cS : ClassId) (x : Nat) (ax : Nat) (aw : Nat) (an : Nat) (aa : Nat) (a0 : Nat) (a1 : Nat) (sk : Nat) (ll : Nat) (ar : Nat) (aq : Nat) (al : Nat) (am : Nat) (sd : Int64) (nc : Nat) (L : List Sg) (li : Nat) (ye : Int32) (br : Int32) (f : Nat → Int32) (W : Nat) (A : Nat) (z : Int32) (hf : hs f L) (hv : okL W A L) : CO l D (TY cI cZ cS) yX4_truest cX4_truest 5 (some .int) 1 23 0 0 [.ref x, .int z] [(x, .inr (4, [.ref ax, .ref aw, .ref an, .ref aa, .ref a0, .ref a1, .int (nI sk), .int (nI ll), .long sd, .ref ar, .ref aq, .ref al, .ref am])), (an, .inr (1, [.ref nc, .int (nI L.length), .int (nI li), .int ye, .int br])), (nc, .inl (cI, 48, .inl f))] (σ := Unit) (fun u => some (.int (truestI L z))) (fun u => [(x, .inr (4, [.ref ax, .ref aw, .ref an, .ref aa, .ref a0, .ref a1, .int (nI sk), .int (nI ll), .long sd, .ref ar, .ref aq, .ref al, .ref am])), (an, .inr (1, [.ref nc, .int (nI L.length), .int (nI li), .int ye, .int br])), (nc, .inl (cI, 48, .inl f))]) (fun u => True) := by
  refine CO_mki (by decide +kernel) (Nat.le_of_ble_eq_true rfl) (fun K ok ret => ?_)
  show XX K [(x, .inr (4, [.ref ax, .ref aw, .ref an, .ref aa, .ref a0, .ref a1, .int (nI sk), .int (nI ll), .long sd, .ref ar, .ref aq, .ref al, .ref am])), (an, .inr (1, [.ref nc, .int (nI L.length), .int (nI li), .int ye, .int br])), (nc, .inl (cI, 48, .inl f))] [(0, .ref x), (1, .int z)] 0 []
  have h8 := hv.1
  refine x_iload_n ok 1 dX4_truest_0 rfl rfl ?_
  refine x_iconst ok (nI 0) dX4_truest_1 (by decide) ?_
  refine x_iconst ok (nI 5) dX4_truest_2 (by decide) ?_
  refine qX4_128 ok (As := [.int z, .int (nI 0), .int (nI 5)]) (st := []) (c4_isWithin l D cI cZ cS z (nI 0) (nI 5) ) rfl (Nat.le_of_ble_eq_true rfl) (Nat.le_of_ble_eq_true rfl) (Nat.le_of_ble_eq_true rfl) dX4_truest_3 [] (by decide) rfl (ws' := fun u => [(x, .inr (4, [.ref ax, .ref aw, .ref an, .ref aa, .ref a0, .ref a1, .int (nI sk), .int (nI ll), .long sd, .ref ar, .ref aq, .ref al, .ref am])), (an, .inr (1, [.ref nc, .int (nI L.length), .int (nI li), .int ye, .int br])), (nc, .inl (cI, 48, .inl f))]) (st' := fun u => [.int (bz (inB z (nI 0) (nI 5)))]) (fun _ => rfl) (fun _ => rfl) (fun _ => rfl) (fun _ _ => ?_)
  refine x_if_neB ok 12 dX4_truest_6 (by decide) (fun c_6 => ?_) (fun c_6 => ?_)
  · skip
    obtain ⟨j, hj0, hj, e_z⟩ := inB_t (by omega) (by omega) c_6
    subst e_z
    have ej := cl_n (show j < 2 ^ 31 by omega)
    refine x_bipush ok ((-9)) dX4_truest_12 (by decide) ?_
    refine x_eq (st' := [.int (n9 (trF L j 0))]) rfl rfl (rfl) ?_
    refine x_istore_n ok (lv' := [(2, .int (n9 (trF L j 0))), (0, .ref x), (1, .int (nI j))]) dX4_truest_14 rfl (by decide) rfl ?_
    refine x_iconst ok (nI 0) dX4_truest_15 (by decide) ?_
    refine x_istore_n ok (lv' := [(3, .int (nI 0)), (2, .int (n9 (trF L j 0))), (0, .ref x), (1, .int (nI j))]) dX4_truest_16 rfl (by decide) rfl ?_
    have L_17 : ∀ (n_17 : Nat) (i : Nat), L.length - i < n_17 → (i ≤ L.length) → XX K [(x, .inr (4, [.ref ax, .ref aw, .ref an, .ref aa, .ref a0, .ref a1, .int (nI sk), .int (nI ll), .long sd, .ref ar, .ref aq, .ref al, .ref am])), (an, .inr (1, [.ref nc, .int (nI L.length), .int (nI li), .int ye, .int br])), (nc, .inl (cI, 48, .inl f))] [(3, .int (nI i)), (2, .int (n9 (trF L j i))), (0, .ref x), (1, .int (nI j))] 17 [] := by
      intro n_17
      induction n_17 with
      | zero => intro i hm; exact absurd hm (Nat.not_lt_zero _)
      | succ n_17 ih_17 =>
        intro i hm_17 hi
        refine x_iload_n ok 0 dX4_truest_17 rfl rfl ?_
        refine x_aload_n ok 2 dX4_truest_18 rfl rfl ?_
        refine gX4_26 ok dX4_truest_19 0 rfl rfl ?_
        refine gX4_88 ok dX4_truest_22 1 rfl rfl ?_
        refine x_icmp_geN ok 88 dX4_truest_25 (by decide) (by omega) (by omega) (fun c_25 => ?_) (fun c_25 => ?_)
        · skip
          have e_i : L.length = i := by omega
          subst e_i
          refine x_iload_n ok 1 dX4_truest_88 rfl rfl ?_
          exact ret () _ _ _ ((n9 (trF L j L.length))) dX4_truest_89 (rfl) (by rw [truestI, if_pos c_6, ej]) (trivial)
        · skip
          obtain ⟨v0, v1, v2, v2b, v3, v4, v5⟩ := hv.2 i (by omega)
          have htr := trF_le (L := L) (a := j) i
          refine x_aload_n ok 2 dX4_truest_28 rfl rfl ?_
          refine gX4_26 ok dX4_truest_29 0 rfl rfl ?_
          refine x_iload_n ok 0 dX4_truest_32 rfl rfl ?_
          refine x_iconst ok (nI 0) dX4_truest_33 (by decide) ?_
          refine qX4_132 ok (As := [.int (nI i), .int (nI 0)]) (st := []) 1 rfl (c1_getL l D cI cZ cS an nc L li ye br f i 0 (by first | assumption | omega) (by first | assumption | omega) (by first | assumption | omega) (by first | assumption | omega)) rfl (Nat.le_of_ble_eq_true rfl) (Nat.le_of_ble_eq_true rfl) (Nat.le_of_ble_eq_true rfl) dX4_truest_34 [1, 2] (by decide) rfl (ws' := fun u => [(x, .inr (4, [.ref ax, .ref aw, .ref an, .ref aa, .ref a0, .ref a1, .int (nI sk), .int (nI ll), .long sd, .ref ar, .ref aq, .ref al, .ref am])), (an, .inr (1, [.ref nc, .int (nI L.length), .int (nI li), .int ye, .int br])), (nc, .inl (cI, 48, .inl f))]) (st' := fun u => [.int (nI (sg L i 0))]) (fun _ => rfl) (fun _ => rfl) (fun _ => rfl) (fun _ _ => ?_)
          refine x_iload_n ok 3 dX4_truest_37 rfl rfl ?_
          have J_46 : ∀ (b46_1 : Bool), b46_1 = (if (sg L i 0) = j then true else false) → XX K [(x, .inr (4, [.ref ax, .ref aw, .ref an, .ref aa, .ref a0, .ref a1, .int (nI sk), .int (nI ll), .long sd, .ref ar, .ref aq, .ref al, .ref am])), (an, .inr (1, [.ref nc, .int (nI L.length), .int (nI li), .int ye, .int br])), (nc, .inl (cI, 48, .inl f))] [(3, .int (nI i)), (2, .int (n9 (trF L j i))), (0, .ref x), (1, .int (nI j))] 46 [.int (bz b46_1)] := by
            intro b46_1 e_b46_1
            refine x_istore ok (lv' := [(4, .int (bz b46_1)), (3, .int (nI i)), (2, .int (n9 (trF L j i))), (0, .ref x), (1, .int (nI j))]) dX4_truest_46 (by decide) rfl ?_
            refine x_iload ok 0 dX4_truest_48 rfl ?_
            refine x_if_eqB ok 82 dX4_truest_50 (by decide) (fun c_50 => ?_) (fun c_50 => ?_)
            · skip
              refine x_iinc ok (v := nI (i + 1)) (lv' := [(3, .int (nI (i + 1))), (4, .int (bz b46_1)), (2, .int (n9 (trF L j i))), (0, .ref x), (1, .int (nI j))]) dX4_truest_82 1 rfl (nN (nI_inc _ 1) (by omega)) (by decide) rfl ?_
              refine x_goto ok 17 dX4_truest_85 (by decide) ?_
              refine x_loc ok [0, 2, 3, 4] (lv' := [(3, .int (nI (i + 1))), (2, .int (n9 (trF L j i))), (0, .ref x), (1, .int (nI j))]) rfl ?_
              have em : trF L j (i + 1) = trF L j i := by simp only [trF]; rw [if_neg (fun z => by rw [e_b46_1, if_pos z.1] at c_50; exact c_50 rfl)]
              refine x_eq (lv' := [(3, .int (nI (i + 1))), (2, .int (n9 (trF L j (i + 1)))), (0, .ref x), (1, .int (nI j))]) rfl (by rw [em]) rfl ?_
              exact ih_17 (i + 1) (by omega) (by first | assumption | omega)
            · skip
              have hlaw : sg L i 0 = j := Classical.byContradiction fun z => by rw [e_b46_1, if_neg z] at c_50; cases c_50
              refine x_iload_n ok 2 dX4_truest_53 rfl rfl ?_
              refine x_bipush ok ((-9)) dX4_truest_54 (by decide) ?_
              refine x_icmp_eq ok 80 dX4_truest_56 (by decide) (fun c_56 => ?_) (fun c_56 => ?_)
              · skip
                have hr0 : trF L j i = 0 := (n9_i _ (by omega)).mp c_56
                refine x_iload_n ok 1 dX4_truest_80 rfl rfl ?_
                refine x_istore_n ok (lv' := [(2, .int (nI i)), (4, .int (bz b46_1)), (3, .int (nI i)), (0, .ref x), (1, .int (nI j))]) dX4_truest_81 rfl (by decide) rfl ?_
                refine x_iinc ok (v := nI (i + 1)) (lv' := [(3, .int (nI (i + 1))), (2, .int (nI i)), (4, .int (bz b46_1)), (0, .ref x), (1, .int (nI j))]) dX4_truest_82 2 rfl (nN (nI_inc _ 1) (by omega)) (by decide) rfl ?_
                refine x_goto ok 17 dX4_truest_85 (by decide) ?_
                refine x_loc ok [0, 1, 3, 4] (lv' := [(3, .int (nI (i + 1))), (2, .int (nI i)), (0, .ref x), (1, .int (nI j))]) rfl ?_
                have em : trF L j (i + 1) = i + 1 := by simp only [trF]; rw [if_pos ⟨hlaw, Or.inl hr0⟩]
                refine x_eq (lv' := [(3, .int (nI (i + 1))), (2, .int (n9 (trF L j (i + 1)))), (0, .ref x), (1, .int (nI j))]) rfl (by rw [em, n9_p (by omega), Nat.add_sub_cancel]) rfl ?_
                exact ih_17 (i + 1) (by omega) (by first | assumption | omega)
              · skip
                have hr0 : trF L j i ≠ 0 := fun z => c_56 ((n9_i _ (by omega)).mpr z)
                rw [n9_p hr0]
                obtain ⟨u0, u1, u2, u2b, u3, u4, u5⟩ := hv.2 (trF L j i - 1) (by omega)
                refine x_aload_n ok 3 dX4_truest_59 rfl rfl ?_
                refine gX4_26 ok dX4_truest_60 0 rfl rfl ?_
                refine x_iload_n ok 1 dX4_truest_63 rfl rfl ?_
                refine x_iconst ok (nI 5) dX4_truest_64 (by decide) ?_
                refine qX4_132 ok (As := [.int (nI i), .int (nI 5)]) (st := []) 1 rfl (c1_getL l D cI cZ cS an nc L li ye br f i 5 (by first | assumption | omega) (by first | assumption | omega) (by first | assumption | omega) (by first | assumption | omega)) rfl (Nat.le_of_ble_eq_true rfl) (Nat.le_of_ble_eq_true rfl) (Nat.le_of_ble_eq_true rfl) dX4_truest_65 [1, 2] (by decide) rfl (ws' := fun u => [(x, .inr (4, [.ref ax, .ref aw, .ref an, .ref aa, .ref a0, .ref a1, .int (nI sk), .int (nI ll), .long sd, .ref ar, .ref aq, .ref al, .ref am])), (an, .inr (1, [.ref nc, .int (nI L.length), .int (nI li), .int ye, .int br])), (nc, .inl (cI, 48, .inl f))]) (st' := fun u => [.int (nI (sg L i 5))]) (fun _ => rfl) (fun _ => rfl) (fun _ => rfl) (fun _ _ => ?_)
                refine x_aload_n ok 3 dX4_truest_68 rfl rfl ?_
                refine gX4_26 ok dX4_truest_69 0 rfl rfl ?_
                refine x_iload_n ok 2 dX4_truest_72 rfl rfl ?_
                refine x_iconst ok (nI 5) dX4_truest_73 (by decide) ?_
                refine qX4_132 ok (As := [.int (nI (trF L j i - 1)), .int (nI 5)]) (st := [.int (nI (sg L i 5))]) 1 rfl (c1_getL l D cI cZ cS an nc L li ye br f (trF L j i - 1) 5 (by first | assumption | omega) (by first | assumption | omega) (by first | assumption | omega) (by first | assumption | omega)) rfl (Nat.le_of_ble_eq_true rfl) (Nat.le_of_ble_eq_true rfl) (Nat.le_of_ble_eq_true rfl) dX4_truest_74 [1, 2] (by decide) rfl (ws' := fun u => [(x, .inr (4, [.ref ax, .ref aw, .ref an, .ref aa, .ref a0, .ref a1, .int (nI sk), .int (nI ll), .long sd, .ref ar, .ref aq, .ref al, .ref am])), (an, .inr (1, [.ref nc, .int (nI L.length), .int (nI li), .int ye, .int br])), (nc, .inl (cI, 48, .inl f))]) (st' := fun u => [.int (nI (sg L (trF L j i - 1) 5)), .int (nI (sg L i 5))]) (fun _ => rfl) (fun _ => rfl) (fun _ => rfl) (fun _ _ => ?_)
                refine x_icmp_geN ok 82 dX4_truest_77 (by decide) (by omega) (by omega) (fun c_77 => ?_) (fun c_77 => ?_)
                · skip
                  refine x_iinc ok (v := nI (i + 1)) (lv' := [(3, .int (nI (i + 1))), (4, .int (bz b46_1)), (2, .int (nI (trF L j i - 1))), (0, .ref x), (1, .int (nI j))]) dX4_truest_82 1 rfl (nN (nI_inc _ 1) (by omega)) (by decide) rfl ?_
                  refine x_goto ok 17 dX4_truest_85 (by decide) ?_
                  refine x_loc ok [0, 2, 3, 4] (lv' := [(3, .int (nI (i + 1))), (2, .int (nI (trF L j i - 1))), (0, .ref x), (1, .int (nI j))]) rfl ?_
                  have em : trF L j (i + 1) = trF L j i := by simp only [trF]; rw [if_neg (fun z => by rcases z.2 with q | q <;> omega)]
                  refine x_eq (lv' := [(3, .int (nI (i + 1))), (2, .int (n9 (trF L j (i + 1)))), (0, .ref x), (1, .int (nI j))]) rfl (by rw [em, n9_p hr0]) rfl ?_
                  exact ih_17 (i + 1) (by omega) (by first | assumption | omega)
                · skip
                  refine x_iload_n ok 1 dX4_truest_80 rfl rfl ?_
                  refine x_istore_n ok (lv' := [(2, .int (nI i)), (4, .int (bz b46_1)), (3, .int (nI i)), (0, .ref x), (1, .int (nI j))]) dX4_truest_81 rfl (by decide) rfl ?_
                  refine x_iinc ok (v := nI (i + 1)) (lv' := [(3, .int (nI (i + 1))), (2, .int (nI i)), (4, .int (bz b46_1)), (0, .ref x), (1, .int (nI j))]) dX4_truest_82 2 rfl (nN (nI_inc _ 1) (by omega)) (by decide) rfl ?_
                  refine x_goto ok 17 dX4_truest_85 (by decide) ?_
                  refine x_loc ok [0, 1, 3, 4] (lv' := [(3, .int (nI (i + 1))), (2, .int (nI i)), (0, .ref x), (1, .int (nI j))]) rfl ?_
                  have em : trF L j (i + 1) = i + 1 := by simp only [trF]; rw [if_pos ⟨hlaw, Or.inr (by omega)⟩]
                  refine x_eq (lv' := [(3, .int (nI (i + 1))), (2, .int (n9 (trF L j (i + 1)))), (0, .ref x), (1, .int (nI j))]) rfl (by rw [em, n9_p (by omega), Nat.add_sub_cancel]) rfl ?_
                  exact ih_17 (i + 1) (by omega) (by first | assumption | omega)
          refine x_icmp_neN ok 45 dX4_truest_38 (by decide) (by omega) (by omega) (fun c_38 => ?_) (fun c_38 => ?_)
          · skip
            refine x_iconst ok (nI 0) dX4_truest_45 (by decide) ?_
            exact J_46 false (by first | rfl | (simp only [if_neg c_38]; done) | (simp [c_38]; done))
          · skip
            refine x_iconst ok (nI 1) dX4_truest_41 (by decide) ?_
            refine x_goto ok 46 dX4_truest_42 (by decide) ?_
            exact J_46 true (by first | rfl | (simp only [if_pos c_38]; done) | (simp [c_38]; done))
    exact L_17 _ 0 (Nat.lt_succ_self _) (by first | assumption | omega)
  · skip
    refine x_bipush ok ((-2)) dX4_truest_9 (by decide) ?_
    exact ret () _ _ _ ((-2)) dX4_truest_11 (rfl) (by rw [truestI, if_neg c_6]) (trivial)
