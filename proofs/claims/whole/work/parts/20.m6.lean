set_option maxHeartbeats 4000000 in
set_option maxRecDepth 100000 in
theorem c4_joined (l : Launch) (D : va_G) (cI cZ cS : ClassId) (a : Nat) (o : Nat) (ha : a < 2 ^ 64) (ho : o < 2 ^ 64) : CO l D (TY cI cZ cS) yX4_joined cX4_joined 7 (some .long) 1 25 0 0 [.long (lN a), .long (lN o)] [] (σ := Unit) (fun u => some (.long (lN (joiN a o 64)))) (fun u => []) (fun u => True) := by
  refine CO_mkl (by decide +kernel) (Nat.le_of_ble_eq_true rfl) (fun K ok ret => ?_)
  show XX K [] [(0, .long (lN a)), (2, .long (lN o))] 0 []
  refine x_lconst ok ((nI 0).toInt64) dX4_joined_0 (by decide) ?_
  refine x_eq (st' := [.long (lN 0)]) rfl rfl (rfl) ?_
  refine x_lstore ok (lv' := [(4, .long (lN 0)), (0, .long (lN a)), (2, .long (lN o))]) dX4_joined_1 (by decide) rfl ?_
  refine x_iconst ok (nI 0) dX4_joined_3 (by decide) ?_
  refine x_istore ok (lv' := [(6, .int (nI 0)), (4, .long (lN 0)), (0, .long (lN a)), (2, .long (lN o))]) dX4_joined_4 (by decide) rfl ?_
  have L_6 : ∀ (n_6 : Nat) (i : Nat), 64 - i < n_6 → (i ≤ 64) → XX K [] [(6, .int (nI i)), (4, .long (lN (joiN a o i))), (0, .long (lN a)), (2, .long (lN o))] 6 [] := by
    intro n_6
    induction n_6 with
    | zero => intro i hm; exact absurd hm (Nat.not_lt_zero _)
    | succ n_6 ih_6 =>
      intro i hm_6 hi
      refine x_iload ok 0 dX4_joined_6 rfl ?_
      refine x_bipush ok (nI 64) dX4_joined_8 (by decide) ?_
      refine x_icmp_geN ok 41 dX4_joined_10 (by decide) (by omega) (by omega) (fun c_10 => ?_) (fun c_10 => ?_)
      · skip
        have e_i : 64 = i := by omega
        subst e_i
        refine x_lload ok 1 dX4_joined_41 rfl ?_
        exact ret () _ _ _ (lN (joiN a o 64)) dX4_joined_43 (rfl) (by first | rfl | (simp [c_10]; done)) (trivial)
      · skip
        refine x_lload_n ok 2 dX4_joined_13 rfl rfl ?_
        refine x_iload ok 0 dX4_joined_14 rfl ?_
        refine x_lushr ok (lN (a / 2 ^ i)) dX4_joined_16 (wb_shr ha (by omega)) ?_
        refine x_lconst ok ((nI 1).toInt64) dX4_joined_17 (by decide) ?_
        refine x_eq (st' := [.long (lN 1), .long (lN (a / 2 ^ i))]) rfl rfl (rfl) ?_
        refine x_land ok (lN ((a.testBit i).toNat)) dX4_joined_18 (by have q := lwb_bit (n := a) (k := i) ha (by omega); rw [wb_shr ha (by omega)] at q; exact q) ?_
        refine x_lconst ok ((nI 1).toInt64) dX4_joined_19 (by decide) ?_
        refine x_eq (st' := [.long (lN 1), .long (lN ((a.testBit i).toNat))]) rfl rfl (rfl) ?_
        refine x_lcmp ok dX4_joined_20 ?_
        refine x_if_ne ok 35 dX4_joined_21 (by decide) (fun c_21 => ?_) (fun c_21 => ?_)
        · skip
          have hbt : ¬ a.testBit i = true := fun q => c_21 ((lgc_b _).mpr q)
          refine x_iinc ok (v := nI (i + 1)) (lv' := [(6, .int (nI (i + 1))), (4, .long (lN (joiN a o i))), (0, .long (lN a)), (2, .long (lN o))]) dX4_joined_35 0 rfl (nN (nI_inc _ 1) (by omega)) (by decide) rfl ?_
          refine x_goto ok 6 dX4_joined_38 (by decide) ?_
          rw [show joiN a o i = joiN a o (i + 1) from by rw [joiN, joiN, orN, if_neg hbt, Nat.or_zero]]
          exact ih_6 (i + 1) (by omega) (by first | assumption | omega)
        · skip
          have hbt : a.testBit i = true := (lgc_b _).mp c_21
          have jl := joi_lt (a := a) (o := o) (show i ≤ 64 by omega)
          have jl2 := jwe_lt (o := o) (show i < 64 by omega) (Nat.le_refl 64)
          refine x_lload ok 1 dX4_joined_24 rfl ?_
          refine x_iload ok 0 dX4_joined_26 rfl ?_
          refine x_lload_n ok 3 dX4_joined_28 rfl rfl ?_
          refine qX4_230 ok (As := [.int (nI i), .long (lN o)]) (st := [.long (lN (joiN a o i))]) (c4_joinedWithEach l D cI cZ cS i o (by first | assumption | omega) (by first | assumption | omega)) rfl (Nat.le_of_ble_eq_true rfl) (Nat.le_of_ble_eq_true rfl) (Nat.le_of_ble_eq_true rfl) dX4_joined_29 [] (by decide) rfl (ws' := fun u => []) (st' := fun u => [.long (lN (jweN i o 64)), .long (lN (joiN a o i))]) (fun _ => rfl) (fun _ => rfl) (fun _ => rfl) (fun _ _ => ?_)
          refine x_lor ok (lN (joiN a o (i + 1))) dX4_joined_32 ((wb_or jl jl2).trans (by rw [joiN, joiN, orN, if_pos hbt])) ?_
          refine x_lstore ok (lv' := [(4, .long (lN (joiN a o (i + 1)))), (6, .int (nI i)), (0, .long (lN a)), (2, .long (lN o))]) dX4_joined_33 (by decide) rfl ?_
          refine x_iinc ok (v := nI (i + 1)) (lv' := [(6, .int (nI (i + 1))), (4, .long (lN (joiN a o (i + 1)))), (0, .long (lN a)), (2, .long (lN o))]) dX4_joined_35 1 rfl (nN (nI_inc _ 1) (by omega)) (by decide) rfl ?_
          refine x_goto ok 6 dX4_joined_38 (by decide) ?_
          exact ih_6 (i + 1) (by omega) (by first | assumption | omega)
  exact L_6 _ 0 (Nat.lt_succ_self _) (by first | assumption | omega)

set_option maxHeartbeats 4000000 in
set_option maxRecDepth 100000 in
theorem c4_lawsByOneLamp (l : Launch) (D : va_G) (cI cZ cS : ClassId) (x : Nat) (ax : Nat) (aw : Nat) (an : Nat) (aa : Nat) (a0 : Nat) (a1 : Nat) (sk : Nat) (ll : Nat) (ar : Nat) (aq : Nat) (al : Nat) (am : Nat) (sd : Int64) (wd : Nat) (wt : Nat) (W : Nat) (df : Nat → Int32) (tf : Nat → Int32) (dp : Nat → Nat) (st : Nat → Nat) (A : Nat) (nc : Nat) (L : List Sg) (li : Nat) (ye : Int32) (br : Int32) (f : Nat → Int32) (hf : hs f L) (hv : okL W A L) (hW : W ≤ 4) (hdp : ∀ w, w < W → df w = nI (dp w)) (hdp2 : ∀ w, w < W → 1 ≤ dp w ∧ dp w ≤ 9) (hl : li < 256) (hA : A < 1000000) : CO l D (TY cI cZ cS) yX4_lawsByOneLamp cX4_lawsByOneLamp 5 (some .long) 2 52 0 0 [.ref x] [(x, .inr (4, [.ref ax, .ref aw, .ref an, .ref aa, .ref a0, .ref a1, .int (nI sk), .int (nI ll), .long sd, .ref ar, .ref aq, .ref al, .ref am])), (aw, .inr (3, [.ref wd, .ref wt, .int (nI W)])), (wd, .inl (cI, 4, .inl df)), (an, .inr (1, [.ref nc, .int (nI L.length), .int (nI li), .int ye, .int br])), (nc, .inl (cI, 48, .inl f))] (σ := Unit) (fun u => some (.long (lN (lampN L li dp W)))) (fun u => [(x, .inr (4, [.ref ax, .ref aw, .ref an, .ref aa, .ref a0, .ref a1, .int (nI sk), .int (nI ll), .long sd, .ref ar, .ref aq, .ref al, .ref am])), (aw, .inr (3, [.ref wd, .ref wt, .int (nI W)])), (wd, .inl (cI, 4, .inl df)), (an, .inr (1, [.ref nc, .int (nI L.length), .int (nI li), .int ye, .int br])), (nc, .inl (cI, 48, .inl f))]) (fun u => True) := by
  refine CO_mkl (by decide +kernel) (Nat.le_of_ble_eq_true rfl) (fun K ok ret => ?_)
  show XX K [(x, .inr (4, [.ref ax, .ref aw, .ref an, .ref aa, .ref a0, .ref a1, .int (nI sk), .int (nI ll), .long sd, .ref ar, .ref aq, .ref al, .ref am])), (aw, .inr (3, [.ref wd, .ref wt, .int (nI W)])), (wd, .inl (cI, 4, .inl df)), (an, .inr (1, [.ref nc, .int (nI L.length), .int (nI li), .int ye, .int br])), (nc, .inl (cI, 48, .inl f))] [(0, .ref x)] 0 []
  have h8 := hv.1
  refine x_lconst ok ((nI 0).toInt64) dX4_lawsByOneLamp_0 (by decide) ?_
  refine x_eq (st' := [.long (lN 0)]) rfl rfl (rfl) ?_
  refine x_lstore_n ok (lv' := [(1, .long (lN 0)), (0, .ref x)]) dX4_lawsByOneLamp_1 rfl (by decide) rfl ?_
  refine x_iconst ok (nI 0) dX4_lawsByOneLamp_2 (by decide) ?_
  refine x_istore_n ok (lv' := [(3, .int (nI 0)), (1, .long (lN 0)), (0, .ref x)]) dX4_lawsByOneLamp_3 rfl (by decide) rfl ?_
  have L_4 : ∀ (n_4 : Nat) (i : Nat), W - i < n_4 → (i ≤ W) → XX K [(x, .inr (4, [.ref ax, .ref aw, .ref an, .ref aa, .ref a0, .ref a1, .int (nI sk), .int (nI ll), .long sd, .ref ar, .ref aq, .ref al, .ref am])), (aw, .inr (3, [.ref wd, .ref wt, .int (nI W)])), (wd, .inl (cI, 4, .inl df)), (an, .inr (1, [.ref nc, .int (nI L.length), .int (nI li), .int ye, .int br])), (nc, .inl (cI, 48, .inl f))] [(3, .int (nI i)), (1, .long (lN (lampN L li dp i))), (0, .ref x)] 4 [] := by
    intro n_4
    induction n_4 with
    | zero => intro i hm; exact absurd hm (Nat.not_lt_zero _)
    | succ n_4 ih_4 =>
      intro i hm_4 hi
      refine x_iload_n ok 0 dX4_lawsByOneLamp_4 rfl rfl ?_
      refine x_aload_n ok 2 dX4_lawsByOneLamp_5 rfl rfl ?_
      refine gX4_19 ok dX4_lawsByOneLamp_6 0 rfl rfl ?_
      refine gX4_68 ok dX4_lawsByOneLamp_9 1 rfl rfl ?_
      refine x_icmp_geN ok 57 dX4_lawsByOneLamp_12 (by decide) (by omega) (by omega) (fun c_12 => ?_) (fun c_12 => ?_)
      · skip
        have e_i : W = i := by omega
        subst e_i
        refine x_lload_n ok 1 dX4_lawsByOneLamp_57 rfl rfl ?_
        exact ret () _ _ _ (lN (lampN L li dp W)) dX4_lawsByOneLamp_58 (rfl) (by first | rfl | (simp [c_12]; done)) (trivial)
      · skip
        refine x_iconst ok (nI 0) dX4_lawsByOneLamp_15 (by decide) ?_
        refine x_istore ok (lv' := [(4, .int (nI 0)), (3, .int (nI i)), (1, .long (lN (lampN L li dp i))), (0, .ref x)]) dX4_lawsByOneLamp_16 (by decide) rfl ?_
        have L_18 : ∀ (n_18 : Nat) (j : Nat), 10 - j < n_18 → (j ≤ 10) → XX K [(x, .inr (4, [.ref ax, .ref aw, .ref an, .ref aa, .ref a0, .ref a1, .int (nI sk), .int (nI ll), .long sd, .ref ar, .ref aq, .ref al, .ref am])), (aw, .inr (3, [.ref wd, .ref wt, .int (nI W)])), (wd, .inl (cI, 4, .inl df)), (an, .inr (1, [.ref nc, .int (nI L.length), .int (nI li), .int ye, .int br])), (nc, .inl (cI, 48, .inl f))] [(4, .int (nI j)), (3, .int (nI i)), (1, .long (lN (lampN L li dp i ||| orN (lampG L li dp i) j))), (0, .ref x)] 18 [] := by
          intro n_18
          induction n_18 with
          | zero => intro j hm; exact absurd hm (Nat.not_lt_zero _)
          | succ n_18 ih_18 =>
            intro j hm_18 hj
            refine x_iload ok 0 dX4_lawsByOneLamp_18 rfl ?_
            refine x_bipush ok (nI 9) dX4_lawsByOneLamp_20 (by decide) ?_
            refine x_icmp_gtN ok 51 dX4_lawsByOneLamp_22 (by decide) (by omega) (by omega) (fun c_22 => ?_) (fun c_22 => ?_)
            · skip
              have e_j : 10 = j := by omega
              subst e_j
              rw [show lampN L li dp i ||| orN (lampG L li dp i) 10 = lampN L li dp (i + 1) from rfl]
              refine x_iinc ok (v := nI (i + 1)) (lv' := [(3, .int (nI (i + 1))), (4, .int (nI 10)), (1, .long (lN (lampN L li dp (i + 1)))), (0, .ref x)]) dX4_lawsByOneLamp_51 1 rfl (nN (nI_inc _ 1) (by omega)) (by decide) rfl ?_
              refine x_goto ok 4 dX4_lawsByOneLamp_54 (by decide) ?_
              refine x_loc ok [0, 2, 3] (lv' := [(3, .int (nI (i + 1))), (1, .long (lN (lampN L li dp (i + 1)))), (0, .ref x)]) rfl ?_
              exact ih_4 (i + 1) (by omega) (by first | assumption | omega)
            · skip
              have hh := heard_lt (li := li) (d := dp i) (noon := false) (w := i) (x := j) h8
              have ht := tell_lt (li := li) (w := i) (x := j) (dp := dp) hv
              have l1 := lamp_lt (li := li) (n := i) (dp := dp) hv
              have l2 := lamp_lt2 (li := li) (w := i) (n := j) (dp := dp) hv
              refine x_lload_n ok 2 dX4_lawsByOneLamp_25 rfl rfl ?_
              refine x_lconst ok ((nI 1).toInt64) dX4_lawsByOneLamp_26 (by decide) ?_
              refine x_eq (st' := [.long (lN 1), .long (lN (lampN L li dp i ||| orN (lampG L li dp i) j))]) rfl rfl (rfl) ?_
              refine x_aload_n ok 3 dX4_lawsByOneLamp_27 rfl rfl ?_
              refine gX4_26 ok dX4_lawsByOneLamp_28 0 rfl rfl ?_
              refine x_aload_n ok 3 dX4_lawsByOneLamp_31 rfl rfl ?_
              refine x_iload_n ok 1 dX4_lawsByOneLamp_32 rfl rfl ?_
              refine x_iload ok 0 dX4_lawsByOneLamp_33 rfl ?_
              refine x_iconst ok (nI 0) dX4_lawsByOneLamp_35 (by decide) ?_
              refine x_eq (st' := [.int (bz false), .int (nI j), .int (nI i), .ref x, .ref an, .long (lN 1), .long (lN (lampN L li dp i ||| orN (lampG L li dp i) j))]) rfl rfl (rfl) ?_
              refine qX4_156 ok (As := [.int (nI i), .int (nI j), .int (bz false)]) (st := [.ref an, .long (lN 1), .long (lN (lampN L li dp i ||| orN (lampG L li dp i) j))]) 0 rfl (c4_heardBy l D cI cZ cS x ax aw an aa a0 a1 sk ll ar aq al am sd wd wt W df tf dp st A nc L li ye br f i j false (by first | assumption | omega) (by first | assumption | omega) (by first | assumption | omega) (by first | assumption | omega) (by first | assumption | omega) (by first | assumption | omega) (by first | assumption | omega) (by first | assumption | omega) (by first | assumption | omega)) rfl (Nat.le_of_ble_eq_true rfl) (Nat.le_of_ble_eq_true rfl) (Nat.le_of_ble_eq_true rfl) dX4_lawsByOneLamp_36 [0, 1, 2, 3, 4] (by decide) rfl (ws' := fun u => [(x, .inr (4, [.ref ax, .ref aw, .ref an, .ref aa, .ref a0, .ref a1, .int (nI sk), .int (nI ll), .long sd, .ref ar, .ref aq, .ref al, .ref am])), (aw, .inr (3, [.ref wd, .ref wt, .int (nI W)])), (wd, .inl (cI, 4, .inl df)), (an, .inr (1, [.ref nc, .int (nI L.length), .int (nI li), .int ye, .int br])), (nc, .inl (cI, 48, .inl f))]) (st' := fun u => [.int (nI (heardN L li (dp i) false i j)), .ref an, .long (lN 1), .long (lN (lampN L li dp i ||| orN (lampG L li dp i) j))]) (fun _ => rfl) (fun _ => rfl) (fun _ => rfl) (fun _ _ => ?_)
              refine qX4_227 ok (As := [.int (nI (heardN L li (dp i) false i j))]) (st := [.long (lN 1), .long (lN (lampN L li dp i ||| orN (lampG L li dp i) j))]) 3 rfl (c1_lawsOf l D cI cZ cS an nc L li ye br f W A (heardN L li (dp i) false i j) (by first | assumption | omega) (by first | assumption | omega) (by first | assumption | omega)) rfl (Nat.le_of_ble_eq_true rfl) (Nat.le_of_ble_eq_true rfl) (Nat.le_of_ble_eq_true rfl) dX4_lawsByOneLamp_39 [3, 4] (by decide) rfl (ws' := fun u => [(x, .inr (4, [.ref ax, .ref aw, .ref an, .ref aa, .ref a0, .ref a1, .int (nI sk), .int (nI ll), .long sd, .ref ar, .ref aq, .ref al, .ref am])), (aw, .inr (3, [.ref wd, .ref wt, .int (nI W)])), (wd, .inl (cI, 4, .inl df)), (an, .inr (1, [.ref nc, .int (nI L.length), .int (nI li), .int ye, .int br])), (nc, .inl (cI, 48, .inl f))]) (st' := fun u => [.int (nI (orN (bitN L (heardN L li (dp i) false i j)) L.length)), .long (lN 1), .long (lN (lampN L li dp i ||| orN (lampG L li dp i) j))]) (fun _ => rfl) (fun _ => rfl) (fun _ => rfl) (fun _ _ => ?_)
              refine x_lshl ok (lN (2 ^ tellN L li dp i j)) dX4_lawsByOneLamp_42 (lshl1 (tellN L li dp i j) ht) ?_
              refine x_lor ok (lN (lampN L li dp i ||| orN (lampG L li dp i) (j + 1))) dX4_lawsByOneLamp_43 ((wb_or (Nat.or_lt_two_pow l1 l2) (pow_lt64 ht)).trans (by rw [orN, ← Nat.or_assoc]; rfl)) ?_
              refine x_lstore_n ok (lv' := [(1, .long (lN (lampN L li dp i ||| orN (lampG L li dp i) (j + 1)))), (4, .int (nI j)), (3, .int (nI i)), (0, .ref x)]) dX4_lawsByOneLamp_44 rfl (by decide) rfl ?_
              refine x_iinc ok (v := nI (j + 1)) (lv' := [(4, .int (nI (j + 1))), (1, .long (lN (lampN L li dp i ||| orN (lampG L li dp i) (j + 1)))), (3, .int (nI i)), (0, .ref x)]) dX4_lawsByOneLamp_45 1 rfl (nN (nI_inc _ 1) (by omega)) (by decide) rfl ?_
              refine x_goto ok 18 dX4_lawsByOneLamp_48 (by decide) ?_
              refine x_loc ok [0, 2, 1, 3] (lv' := [(4, .int (nI (j + 1))), (3, .int (nI i)), (1, .long (lN (lampN L li dp i ||| orN (lampG L li dp i) (j + 1)))), (0, .ref x)]) rfl ?_
              exact ih_18 (j + 1) (by omega) (by first | assumption | omega)
        rw [show lampN L li dp i = lampN L li dp i ||| orN (lampG L li dp i) 0 from by rw [orN, Nat.or_zero]]
        exact L_18 _ 0 (Nat.lt_succ_self _) (by first | assumption | omega)
  exact L_4 _ 0 (Nat.lt_succ_self _) (by first | assumption | omega)

set_option maxHeartbeats 4000000 in
set_option maxRecDepth 100000 in
theorem c4_worthOfLids (l : Launch) (D : va_G) (cI cZ cS : ClassId) (x : Nat) (ax : Nat) (aw : Nat) (an : Nat) (aa : Nat) (a0 : Nat) (a1 : Nat) (sk : Nat) (ll : Nat) (ar : Nat) (aq : Nat) (al : Nat) (am : Nat) (sd : Int64) (wf : Nat → Int32) (wv : Nat → Nat) (q : Nat) (hq : q < 16) (hwf : ∀ j, j < 16 → wf j = nI (wv j)) : CO l D (TY cI cZ cS) yX4_worthOfLids cX4_worthOfLids 2 (some .int) 0 0 0 0 [.ref x, .int (nI q)] [(x, .inr (4, [.ref ax, .ref aw, .ref an, .ref aa, .ref a0, .ref a1, .int (nI sk), .int (nI ll), .long sd, .ref ar, .ref aq, .ref al, .ref am])), (al, .inl (cI, 16, .inl wf))] (σ := Unit) (fun u => some (.int (nI (wv q)))) (fun u => [(x, .inr (4, [.ref ax, .ref aw, .ref an, .ref aa, .ref a0, .ref a1, .int (nI sk), .int (nI ll), .long sd, .ref ar, .ref aq, .ref al, .ref am])), (al, .inl (cI, 16, .inl wf))]) (fun u => True) := by
  refine CO_mki (by decide +kernel) (Nat.le_of_ble_eq_true rfl) (fun K ok ret => ?_)
  show XX K [(x, .inr (4, [.ref ax, .ref aw, .ref an, .ref aa, .ref a0, .ref a1, .int (nI sk), .int (nI ll), .long sd, .ref ar, .ref aq, .ref al, .ref am])), (al, .inl (cI, 16, .inl wf))] [(0, .ref x), (1, .int (nI q))] 0 []
  refine x_iload_n ok 1 dX4_worthOfLids_0 rfl rfl ?_
  refine x_if_ltN ok dX4_worthOfLids_1 (by omega) (by decide) ?_
  refine x_iload_n ok 1 dX4_worthOfLids_4 rfl rfl ?_
  refine x_aload_n ok 0 dX4_worthOfLids_5 rfl rfl ?_
  refine gX4_49 ok dX4_worthOfLids_6 0 rfl rfl ?_
  refine x_alen ok 1 0 (nI 16) dX4_worthOfLids_9 rfl rfl rfl ?_
  refine x_icmp_geN ok 22 dX4_worthOfLids_10 (by decide) (by omega) (by omega) (fun c_10 => absurd c_10 (by omega)) (fun c_10 => ?_)
  refine x_aload_n ok 0 dX4_worthOfLids_13 rfl rfl ?_
  refine gX4_49 ok dX4_worthOfLids_14 0 rfl rfl ?_
  refine x_iload_n ok 1 dX4_worthOfLids_17 rfl rfl ?_
  refine x_iald ok 1 0 q dX4_worthOfLids_18 rfl rfl (rfl) (by omega) (by decide) ((wf q)) (rfl) ?_
  refine x_eq (st' := [.int (nI (wv q))]) rfl rfl (by rw [hwf q hq]) ?_
  refine x_goto ok 23 dX4_worthOfLids_19 (by decide) ?_
  exact ret () _ _ _ (nI (wv q)) dX4_worthOfLids_23 (rfl) (rfl) (trivial)

set_option maxHeartbeats 4000000 in
set_option maxRecDepth 100000 in
theorem c4_lidsBehind (l : Launch) (D : va_G) (cI cZ cS : ClassId) (q : Nat) (m : Nat) (hm : m ≤ 4) : CO l D (TY cI cZ cS) yX4_lidsBehind cX4_lidsBehind 2 (some .int) 0 0 0 0 [.int (nI q), .int (nI m)] [] (σ := Unit) (fun u => some (.int (nI (mvN q m)))) (fun u => []) (fun u => True) := by
  refine CO_mki (by decide +kernel) (Nat.le_of_ble_eq_true rfl) (fun K ok ret => ?_)
  show XX K [] [(0, .int (nI q)), (1, .int (nI m))] 0 []
  refine x_iload_n ok 1 dX4_lidsBehind_0 rfl rfl ?_
  refine x_if_neN ok 8 dX4_lidsBehind_1 (by decide) (by omega) (fun c_1 => ?_) (fun c_1 => ?_)
  · skip
    refine x_iload_n ok 0 dX4_lidsBehind_8 rfl rfl ?_
    refine x_iconst ok (nI 1) dX4_lidsBehind_9 (by decide) ?_
    refine x_iload_n ok 1 dX4_lidsBehind_10 rfl rfl ?_
    refine x_iconst ok (nI 1) dX4_lidsBehind_11 (by decide) ?_
    refine x_isub ok (nI (m - 1)) dX4_lidsBehind_12 (pk_sub (by omega)) ?_
    refine x_ishl ok (nI (2 ^ (m - 1))) dX4_lidsBehind_13 (shl1 _ (by omega)) ?_
    refine x_ixor ok (nI (q ^^^ 2 ^ (m - 1))) dX4_lidsBehind_14 (fa_xor _ _) ?_
    exact ret () _ _ _ (nI (q ^^^ 2 ^ (m - 1))) dX4_lidsBehind_15 (rfl) (by rw [mvN, if_neg c_1]) (trivial)
  · skip
    refine x_iload_n ok 0 dX4_lidsBehind_4 rfl rfl ?_
    refine x_goto ok 15 dX4_lidsBehind_5 (by decide) ?_
    exact ret () _ _ _ (nI q) dX4_lidsBehind_15 (rfl) (by rw [mvN, if_pos c_1]) (trivial)

set_option maxHeartbeats 4000000 in
set_option maxRecDepth 100000 in
theorem c4_weighLids (l : Launch) (D : va_G) (cI cZ cS : ClassId) (x : Nat) (ax : Nat) (aw : Nat) (an : Nat) (aa : Nat) (a0 : Nat) (a1 : Nat) (sk : Nat) (ll : Nat) (ar : Nat) (aq : Nat) (al : Nat) (am : Nat) (sd : Int64) (wd : Nat) (wt : Nat) (W : Nat) (df : Nat → Int32) (tf : Nat → Int32) (dp : Nat → Nat) (st : Nat → Nat) (A : Nat) (nc : Nat) (L : List Sg) (li : Nat) (ye : Int32) (br : Int32) (f : Nat → Int32) (rc : Nat) (rn : Nat) (rl : Nat) (ry : Int32) (rb : Int32) (rf : Nat → Int32) (wf : Nat → Int32) (hf : hs f L) (hv : okL W A L) (hW : W ≤ 4) (hst : ∀ w, w < W → tf w = nI (st w)) (hst2 : ∀ w, w < W → st w ≤ 2) : CO l D (TY cI cZ cS) yX4_weighLids cX4_weighLids 2 none 6 138 0 0 [.ref x] [(x, .inr (4, [.ref ax, .ref aw, .ref an, .ref aa, .ref a0, .ref a1, .int (nI sk), .int (nI ll), .long sd, .ref ar, .ref aq, .ref al, .ref am])), (aw, .inr (3, [.ref wd, .ref wt, .int (nI W)])), (wt, .inl (cI, 4, .inl tf)), (an, .inr (1, [.ref nc, .int (nI L.length), .int (nI li), .int ye, .int br])), (nc, .inl (cI, 48, .inl f)), (ar, .inr (1, [.ref rc, .int (nI rn), .int (nI rl), .int ry, .int rb])), (rc, .inl (cI, 48, .inl rf)), (al, .inl (cI, 16, .inl wf))] (σ := (Nat) × (Nat) × (Int32) × (Int32) × (Nat → Int32) × (Nat → Int32)) (fun u => none) (fun u => [(x, .inr (4, [.ref ax, .ref aw, .ref an, .ref aa, .ref a0, .ref a1, .int (nI sk), .int (nI ll), .long sd, .ref ar, .ref aq, .ref al, .ref am])), (aw, .inr (3, [.ref wd, .ref wt, .int (nI W)])), (wt, .inl (cI, 4, .inl tf)), (an, .inr (1, [.ref nc, .int (nI L.length), .int (nI li), .int ye, .int br])), (nc, .inl (cI, 48, .inl f)), (ar, .inr (1, [.ref rc, .int (nI u.1), .int (nI u.2.1), .int u.2.2.1, .int u.2.2.2.1])), (rc, .inl (cI, 48, .inl u.2.2.2.2.1)), (al, .inl (cI, 16, .inl u.2.2.2.2.2))]) (fun u => (∀ j, j < 16 → u.2.2.2.2.2 j = nI (lw0 ll st W L j))) := by
  refine CO_mkv (by decide +kernel) (Nat.le_of_ble_eq_true rfl) (fun K ok ret => ?_)
  show XX K [(x, .inr (4, [.ref ax, .ref aw, .ref an, .ref aa, .ref a0, .ref a1, .int (nI sk), .int (nI ll), .long sd, .ref ar, .ref aq, .ref al, .ref am])), (aw, .inr (3, [.ref wd, .ref wt, .int (nI W)])), (wt, .inl (cI, 4, .inl tf)), (an, .inr (1, [.ref nc, .int (nI L.length), .int (nI li), .int ye, .int br])), (nc, .inl (cI, 48, .inl f)), (ar, .inr (1, [.ref rc, .int (nI rn), .int (nI rl), .int ry, .int rb])), (rc, .inl (cI, 48, .inl rf)), (al, .inl (cI, 16, .inl wf))] [(0, .ref x)] 0 []
  have h8 := hv.1
  refine x_iconst ok (nI 0) dX4_weighLids_0 (by decide) ?_
  refine x_istore_n ok (lv' := [(1, .int (nI 0)), (0, .ref x)]) dX4_weighLids_1 rfl (by decide) rfl ?_
  have L_2 : ∀ (n_2 : Nat) (i : Nat) (n9 : Nat) (l9 : Nat) (y9 : Int32) (b9 : Int32) (f9 : Nat → Int32) (g9 : Nat → Int32), 16 - i < n_2 → (i ≤ 16) → (∀ j, j < i → g9 j = nI (lw0 ll st W L j)) → XX K [(x, .inr (4, [.ref ax, .ref aw, .ref an, .ref aa, .ref a0, .ref a1, .int (nI sk), .int (nI ll), .long sd, .ref ar, .ref aq, .ref al, .ref am])), (aw, .inr (3, [.ref wd, .ref wt, .int (nI W)])), (wt, .inl (cI, 4, .inl tf)), (an, .inr (1, [.ref nc, .int (nI L.length), .int (nI li), .int ye, .int br])), (nc, .inl (cI, 48, .inl f)), (ar, .inr (1, [.ref rc, .int (nI n9), .int (nI l9), .int y9, .int b9])), (rc, .inl (cI, 48, .inl f9)), (al, .inl (cI, 16, .inl g9))] [(1, .int (nI i)), (0, .ref x)] 2 [] := by
    intro n_2
    induction n_2 with
    | zero => intro i n9 l9 y9 b9 f9 g9 hm; exact absurd hm (Nat.not_lt_zero _)
    | succ n_2 ih_2 =>
      intro i n9 l9 y9 b9 f9 g9 hm_2 hi hg9
      refine x_iload_n ok 0 dX4_weighLids_2 rfl rfl ?_
      refine x_aload_n ok 1 dX4_weighLids_3 rfl rfl ?_
      refine gX4_49 ok dX4_weighLids_4 0 rfl rfl ?_
      refine x_alen ok 7 0 (nI 16) dX4_weighLids_7 rfl rfl rfl ?_
      refine x_icmp_geN ok 46 dX4_weighLids_8 (by decide) (by omega) (by omega) (fun c_8 => ?_) (fun c_8 => ?_)
      · skip
        have e_i : 16 = i := by omega
        subst e_i
        exact ret (n9, l9, y9, b9, f9, g9) _ _ _ dX4_weighLids_46 (rfl) (by first | assumption | omega)
      · skip
        have hpw : 2 ^ W ≤ 2 ^ 4 := Nat.pow_le_pow_right (by omega) hW
        refine x_aload_n ok 1 dX4_weighLids_11 rfl rfl ?_
        refine gX4_49 ok dX4_weighLids_12 0 rfl rfl ?_
        refine x_iload_n ok 0 dX4_weighLids_15 rfl rfl ?_
        refine x_iload_n ok 0 dX4_weighLids_16 rfl rfl ?_
        refine x_iconst ok (nI 1) dX4_weighLids_17 (by decide) ?_
        refine x_aload_n ok 1 dX4_weighLids_18 rfl rfl ?_
        refine gX4_19 ok dX4_weighLids_19 0 rfl rfl ?_
        refine gX4_68 ok dX4_weighLids_22 1 rfl rfl ?_
        refine x_ishl ok (nI (2 ^ W)) dX4_weighLids_25 (shl1 _ (by omega)) ?_
        refine x_icmp_geN ok 38 dX4_weighLids_26 (by decide) (by omega) (by omega) (fun c_26 => ?_) (fun c_26 => ?_)
        · skip
          refine x_iconst ok (nI 0) dX4_weighLids_38 (by decide) ?_
          refine x_iast ok 7 0 i (ws' := [(x, .inr (4, [.ref ax, .ref aw, .ref an, .ref aa, .ref a0, .ref a1, .int (nI sk), .int (nI ll), .long sd, .ref ar, .ref aq, .ref al, .ref am])), (aw, .inr (3, [.ref wd, .ref wt, .int (nI W)])), (wt, .inl (cI, 4, .inl tf)), (an, .inr (1, [.ref nc, .int (nI L.length), .int (nI li), .int ye, .int br])), (nc, .inl (cI, 48, .inl f)), (ar, .inr (1, [.ref rc, .int (nI n9), .int (nI l9), .int y9, .int b9])), (rc, .inl (cI, 48, .inl f9)), (al, .inl (cI, 16, .inl (upd g9 i (nI 0))))]) dX4_weighLids_39 rfl rfl (rfl) (by omega) (by decide) (rfl) rfl ?_
          refine x_iinc ok (v := nI (i + 1)) (lv' := [(1, .int (nI (i + 1))), (0, .ref x)]) dX4_weighLids_40 0 rfl (nN (nI_inc _ 1) (by omega)) (by decide) rfl ?_
          refine x_goto ok 2 dX4_weighLids_43 (by decide) ?_
          exact ih_2 (i + 1) n9 l9 y9 b9 f9 (upd g9 i (nI 0)) (by omega) (by first | assumption | omega) (fun j hj => by rcases Nat.lt_or_ge j i with q | q; (rw [upd_n (by omega)]; exact hg9 j q); (rw [show j = i by omega, upd_s, lw0, if_neg (by omega)]))
        · skip
          refine x_aload_n ok 1 dX4_weighLids_29 rfl rfl ?_
          refine x_iconst ok (nI 4) dX4_weighLids_30 (by decide) ?_
          refine x_iload_n ok 0 dX4_weighLids_31 rfl rfl ?_
          refine qX4_216 ok (As := [.int (nI 4), .int (nI i)]) (st := [.int (nI i), .ref al]) 0 rfl (c4_landLawsBehind l D cI cZ cS x ax aw an aa a0 a1 sk ll ar aq al am sd wd wt W df tf dp st A nc L li ye br f rc n9 l9 y9 b9 f9 4 i (by first | assumption | omega) (by first | assumption | omega) (by first | assumption | omega) (by first | assumption | omega) (by first | assumption | omega) (by first | assumption | omega) (by first | assumption | omega)) rfl (Nat.le_of_ble_eq_true rfl) (Nat.le_of_ble_eq_true rfl) (Nat.le_of_ble_eq_true rfl) dX4_weighLids_32 [0, 1, 2, 3, 4, 5, 6] (by decide) rfl (ws' := fun u => [(x, .inr (4, [.ref ax, .ref aw, .ref an, .ref aa, .ref a0, .ref a1, .int (nI sk), .int (nI ll), .long sd, .ref ar, .ref aq, .ref al, .ref am])), (aw, .inr (3, [.ref wd, .ref wt, .int (nI W)])), (wt, .inl (cI, 4, .inl tf)), (an, .inr (1, [.ref nc, .int (nI L.length), .int (nI li), .int ye, .int br])), (nc, .inl (cI, 48, .inl f)), (ar, .inr (1, [.ref rc, .int (nI ((yearsL st i 4 L).length)), .int (nI i), .int u.2, .int br])), (rc, .inl (cI, 48, .inl u.1)), (al, .inl (cI, 16, .inl g9))]) (st' := fun u => [.int (nI (llN ll (yearsL st i 4 L))), .int (nI i), .ref al]) (fun _ => rfl) (fun _ => rfl) (fun _ => rfl) (fun u32 hu32 => ?_)
          obtain ⟨g32, y32⟩ := u32
          show XX K [(x, .inr (4, [.ref ax, .ref aw, .ref an, .ref aa, .ref a0, .ref a1, .int (nI sk), .int (nI ll), .long sd, .ref ar, .ref aq, .ref al, .ref am])), (aw, .inr (3, [.ref wd, .ref wt, .int (nI W)])), (wt, .inl (cI, 4, .inl tf)), (an, .inr (1, [.ref nc, .int (nI L.length), .int (nI li), .int ye, .int br])), (nc, .inl (cI, 48, .inl f)), (ar, .inr (1, [.ref rc, .int (nI ((yearsL st i 4 L).length)), .int (nI i), .int y32, .int br])), (rc, .inl (cI, 48, .inl g32)), (al, .inl (cI, 16, .inl g9))] [(1, .int (nI i)), (0, .ref x)] 35 [.int (nI (llN ll (yearsL st i 4 L))), .int (nI i), .ref al]
          refine x_goto ok 39 dX4_weighLids_35 (by decide) ?_
          refine x_iast ok 7 0 i (ws' := [(x, .inr (4, [.ref ax, .ref aw, .ref an, .ref aa, .ref a0, .ref a1, .int (nI sk), .int (nI ll), .long sd, .ref ar, .ref aq, .ref al, .ref am])), (aw, .inr (3, [.ref wd, .ref wt, .int (nI W)])), (wt, .inl (cI, 4, .inl tf)), (an, .inr (1, [.ref nc, .int (nI L.length), .int (nI li), .int ye, .int br])), (nc, .inl (cI, 48, .inl f)), (ar, .inr (1, [.ref rc, .int (nI ((yearsL st i 4 L).length)), .int (nI i), .int y32, .int br])), (rc, .inl (cI, 48, .inl g32)), (al, .inl (cI, 16, .inl (upd g9 i (nI (llN ll (yearsL st i 4 L))))))]) dX4_weighLids_39 rfl rfl (rfl) (by omega) (by decide) (rfl) rfl ?_
          refine x_iinc ok (v := nI (i + 1)) (lv' := [(1, .int (nI (i + 1))), (0, .ref x)]) dX4_weighLids_40 0 rfl (nN (nI_inc _ 1) (by omega)) (by decide) rfl ?_
          refine x_goto ok 2 dX4_weighLids_43 (by decide) ?_
          exact ih_2 (i + 1) ((yearsL st i 4 L).length) i y32 br g32 (upd g9 i (nI (llN ll (yearsL st i 4 L)))) (by omega) (by first | assumption | omega) (fun j hj => by rcases Nat.lt_or_ge j i with q | q; (rw [upd_n (by omega)]; exact hg9 j q); (rw [show j = i by omega, upd_s, lw0, if_pos (by omega)]))
  exact L_2 _ 0 rn rl ry rb rf wf (Nat.lt_succ_self _) (by first | assumption | omega) (fun j hj => absurd hj (Nat.not_lt_zero j))

set_option maxHeartbeats 4000000 in
set_option maxRecDepth 100000 in
theorem c4_weighTurn (l : Launch) (D : va_G) (cI cZ cS : ClassId) (x : Nat) (ax : Nat) (aw : Nat) (an : Nat) (aa : Nat) (a0 : Nat) (a1 : Nat) (sk : Nat) (ll : Nat) (ar : Nat) (aq : Nat) (al : Nat) (am : Nat) (sd : Int64) (wd : Nat) (wt : Nat) (W : Nat) (wf : Nat → Int32) (hf : Nat → Int32) (wv : Nat → Nat) (most : Bool) (hW : W ≤ 4) (hwf : ∀ j, j < 16 → wf j = nI (wv j)) (hwv : ∀ j, wv j ≤ 6) : CO l D (TY cI cZ cS) yX4_weighTurn cX4_weighTurn 6 none 1 21 0 0 [.ref x, .int (bz most)] [(x, .inr (4, [.ref ax, .ref aw, .ref an, .ref aa, .ref a0, .ref a1, .int (nI sk), .int (nI ll), .long sd, .ref ar, .ref aq, .ref al, .ref am])), (aw, .inr (3, [.ref wd, .ref wt, .int (nI W)])), (al, .inl (cI, 16, .inl wf)), (am, .inl (cI, 16, .inl hf))] (σ := (Nat → Int32) × (Nat → Int32)) (fun u => none) (fun u => [(x, .inr (4, [.ref ax, .ref aw, .ref an, .ref aa, .ref a0, .ref a1, .int (nI sk), .int (nI ll), .long sd, .ref ar, .ref aq, .ref al, .ref am])), (aw, .inr (3, [.ref wd, .ref wt, .int (nI W)])), (al, .inl (cI, 16, .inl u.1)), (am, .inl (cI, 16, .inl u.2))]) (fun u => (∀ j, j < 16 → u.1 j = nI (lwT most W wv j))) := by
  refine CO_mkv (by decide +kernel) (Nat.le_of_ble_eq_true rfl) (fun K ok ret => ?_)
  show XX K [(x, .inr (4, [.ref ax, .ref aw, .ref an, .ref aa, .ref a0, .ref a1, .int (nI sk), .int (nI ll), .long sd, .ref ar, .ref aq, .ref al, .ref am])), (aw, .inr (3, [.ref wd, .ref wt, .int (nI W)])), (al, .inl (cI, 16, .inl wf)), (am, .inl (cI, 16, .inl hf))] [(0, .ref x), (1, .int (bz most))] 0 []
  refine x_iconst ok (nI 0) dX4_weighTurn_0 (by decide) ?_
  refine x_istore_n ok (lv' := [(2, .int (nI 0)), (0, .ref x), (1, .int (bz most))]) dX4_weighTurn_1 rfl (by decide) rfl ?_
  have L_2 : ∀ (n_2 : Nat) (i : Nat) (h9 : Nat → Int32), 16 - i < n_2 → (i ≤ 16) → (∀ j, j < i → h9 j = nI (lwT most W wv j)) → XX K [(x, .inr (4, [.ref ax, .ref aw, .ref an, .ref aa, .ref a0, .ref a1, .int (nI sk), .int (nI ll), .long sd, .ref ar, .ref aq, .ref al, .ref am])), (aw, .inr (3, [.ref wd, .ref wt, .int (nI W)])), (al, .inl (cI, 16, .inl wf)), (am, .inl (cI, 16, .inl h9))] [(2, .int (nI i)), (0, .ref x), (1, .int (bz most))] 2 [] := by
    intro n_2
    induction n_2 with
    | zero => intro i h9 hm; exact absurd hm (Nat.not_lt_zero _)
    | succ n_2 ih_2 =>
      intro i h9 hm_2 hi hh9
      refine x_iload_n ok 0 dX4_weighTurn_2 rfl rfl ?_
      refine x_aload_n ok 1 dX4_weighTurn_3 rfl rfl ?_
      refine gX4_53 ok dX4_weighTurn_4 0 rfl rfl ?_
      refine x_alen ok 3 0 (nI 16) dX4_weighTurn_7 rfl rfl rfl ?_
      refine x_icmp_geN ok 83 dX4_weighTurn_8 (by decide) (by omega) (by omega) (fun c_8 => ?_) (fun c_8 => ?_)
      · skip
        have e_i : 16 = i := by omega
        subst e_i
        refine x_iconst ok (nI 0) dX4_weighTurn_83 (by decide) ?_
        refine x_istore_n ok (lv' := [(2, .int (nI 0)), (0, .ref x), (1, .int (bz most))]) dX4_weighTurn_84 rfl (by decide) rfl ?_
        have L_85 : ∀ (n_85 : Nat) (i : Nat) (g9 : Nat → Int32), 16 - i < n_85 → (i ≤ 16) → (∀ j, j < i → g9 j = nI (lwT most W wv j)) → XX K [(x, .inr (4, [.ref ax, .ref aw, .ref an, .ref aa, .ref a0, .ref a1, .int (nI sk), .int (nI ll), .long sd, .ref ar, .ref aq, .ref al, .ref am])), (aw, .inr (3, [.ref wd, .ref wt, .int (nI W)])), (al, .inl (cI, 16, .inl g9)), (am, .inl (cI, 16, .inl h9))] [(2, .int (nI i)), (0, .ref x), (1, .int (bz most))] 85 [] := by
          intro n_85
          induction n_85 with
          | zero => intro i g9 hm; exact absurd hm (Nat.not_lt_zero _)
          | succ n_85 ih_85 =>
            intro i g9 hm_85 hi hg9
            refine x_iload_n ok 0 dX4_weighTurn_85 rfl rfl ?_
            refine x_aload_n ok 1 dX4_weighTurn_86 rfl rfl ?_
            refine gX4_49 ok dX4_weighTurn_87 0 rfl rfl ?_
            refine x_alen ok 2 0 (nI 16) dX4_weighTurn_90 rfl rfl rfl ?_
            refine x_icmp_geN ok 121 dX4_weighTurn_91 (by decide) (by omega) (by omega) (fun c_91 => ?_) (fun c_91 => ?_)
            · skip
              have e_i : 16 = i := by omega
              subst e_i
              exact ret (g9, h9) _ _ _ dX4_weighTurn_121 (rfl) (by first | assumption | omega)
            · skip
              refine x_iload_n ok 0 dX4_weighTurn_94 rfl rfl ?_
              refine x_aload_n ok 1 dX4_weighTurn_95 rfl rfl ?_
              refine gX4_53 ok dX4_weighTurn_96 0 rfl rfl ?_
              refine x_alen ok 3 0 (nI 16) dX4_weighTurn_99 rfl rfl rfl ?_
              refine x_icmp_geN ok 121 dX4_weighTurn_100 (by decide) (by omega) (by omega) (fun c_100 => absurd c_100 (by omega)) (fun c_100 => ?_)
              refine x_aload_n ok 1 dX4_weighTurn_103 rfl rfl ?_
              refine gX4_49 ok dX4_weighTurn_104 0 rfl rfl ?_
              refine x_iload_n ok 0 dX4_weighTurn_107 rfl rfl ?_
              refine x_aload_n ok 1 dX4_weighTurn_108 rfl rfl ?_
              refine gX4_53 ok dX4_weighTurn_109 0 rfl rfl ?_
              refine x_iload_n ok 0 dX4_weighTurn_112 rfl rfl ?_
              refine x_iald ok 3 0 i dX4_weighTurn_113 rfl rfl (rfl) (by omega) (by decide) ((h9 i)) (rfl) ?_
              refine x_iast ok 2 0 i (ws' := [(x, .inr (4, [.ref ax, .ref aw, .ref an, .ref aa, .ref a0, .ref a1, .int (nI sk), .int (nI ll), .long sd, .ref ar, .ref aq, .ref al, .ref am])), (aw, .inr (3, [.ref wd, .ref wt, .int (nI W)])), (al, .inl (cI, 16, .inl (upd g9 i (h9 i)))), (am, .inl (cI, 16, .inl h9))]) dX4_weighTurn_114 rfl rfl (rfl) (by omega) (by decide) (rfl) rfl ?_
              refine x_iinc ok (v := nI (i + 1)) (lv' := [(2, .int (nI (i + 1))), (0, .ref x), (1, .int (bz most))]) dX4_weighTurn_115 0 rfl (nN (nI_inc _ 1) (by omega)) (by decide) rfl ?_
              refine x_goto ok 85 dX4_weighTurn_118 (by decide) ?_
              exact ih_85 (i + 1) (upd g9 i (h9 i)) (by omega) (by first | assumption | omega) (fun j hj => by rcases Nat.lt_or_ge j i with q | q; (rw [upd_n (by omega)]; exact hg9 j q); (rw [show j = i by omega, upd_s]; exact hh9 i (by omega)))
        exact L_85 _ 0 wf (Nat.lt_succ_self _) (by first | assumption | omega) (fun j hj => absurd hj (Nat.not_lt_zero j))
      · skip
        refine x_aload_n ok 1 dX4_weighTurn_11 rfl rfl ?_
        refine x_iload_n ok 0 dX4_weighTurn_12 rfl rfl ?_
        refine qX4_251 ok (As := [.int (nI i)]) (st := []) 0 rfl (c4_worthOfLids l D cI cZ cS x ax aw an aa a0 a1 sk ll ar aq al am sd wf wv i (by first | assumption | omega) (by first | assumption | omega)) rfl (Nat.le_of_ble_eq_true rfl) (Nat.le_of_ble_eq_true rfl) (Nat.le_of_ble_eq_true rfl) dX4_weighTurn_13 [0, 2] (by decide) rfl (ws' := fun u => [(x, .inr (4, [.ref ax, .ref aw, .ref an, .ref aa, .ref a0, .ref a1, .int (nI sk), .int (nI ll), .long sd, .ref ar, .ref aq, .ref al, .ref am])), (aw, .inr (3, [.ref wd, .ref wt, .int (nI W)])), (al, .inl (cI, 16, .inl wf)), (am, .inl (cI, 16, .inl h9))]) (st' := fun u => [.int (nI (wv i))]) (fun _ => rfl) (fun _ => rfl) (fun _ => rfl) (fun _ _ => ?_)
        refine x_istore_n ok (lv' := [(3, .int (nI (wv i))), (2, .int (nI i)), (0, .ref x), (1, .int (bz most))]) dX4_weighTurn_16 rfl (by decide) rfl ?_
        refine x_iconst ok (nI 1) dX4_weighTurn_17 (by decide) ?_
        refine x_istore ok (lv' := [(4, .int (nI 1)), (3, .int (nI (wv i))), (2, .int (nI i)), (0, .ref x), (1, .int (bz most))]) dX4_weighTurn_18 (by decide) rfl ?_
        have L_20 : ∀ (n_20 : Nat) (k : Nat), W - k < n_20 → (k ≤ W) → XX K [(x, .inr (4, [.ref ax, .ref aw, .ref an, .ref aa, .ref a0, .ref a1, .int (nI sk), .int (nI ll), .long sd, .ref ar, .ref aq, .ref al, .ref am])), (aw, .inr (3, [.ref wd, .ref wt, .int (nI W)])), (al, .inl (cI, 16, .inl wf)), (am, .inl (cI, 16, .inl h9))] [(4, .int (nI (k + 1))), (3, .int (nI (lwF most wv i k))), (2, .int (nI i)), (0, .ref x), (1, .int (bz most))] 20 [] := by
          intro n_20
          induction n_20 with
          | zero => intro k hm; exact absurd hm (Nat.not_lt_zero _)
          | succ n_20 ih_20 =>
            intro k hm_20 hk
            refine x_iload ok 0 dX4_weighTurn_20 rfl ?_
            refine x_aload_n ok 3 dX4_weighTurn_22 rfl rfl ?_
            refine gX4_19 ok dX4_weighTurn_23 0 rfl rfl ?_
            refine gX4_68 ok dX4_weighTurn_26 1 rfl rfl ?_
            refine x_icmp_gtN ok 70 dX4_weighTurn_29 (by decide) (by omega) (by omega) (fun c_29 => ?_) (fun c_29 => ?_)
            · skip
              have e_k : W = k := by omega
              subst e_k
              refine x_aload_n ok 3 dX4_weighTurn_70 rfl rfl ?_
              refine gX4_53 ok dX4_weighTurn_71 0 rfl rfl ?_
              refine x_iload_n ok 2 dX4_weighTurn_74 rfl rfl ?_
              refine x_iload_n ok 1 dX4_weighTurn_75 rfl rfl ?_
              refine x_iast ok 3 0 i (ws' := [(x, .inr (4, [.ref ax, .ref aw, .ref an, .ref aa, .ref a0, .ref a1, .int (nI sk), .int (nI ll), .long sd, .ref ar, .ref aq, .ref al, .ref am])), (aw, .inr (3, [.ref wd, .ref wt, .int (nI W)])), (al, .inl (cI, 16, .inl wf)), (am, .inl (cI, 16, .inl (upd h9 i (nI (lwF most wv i W)))))]) dX4_weighTurn_76 rfl rfl (rfl) (by omega) (by decide) (rfl) rfl ?_
              refine x_iinc ok (v := nI (i + 1)) (lv' := [(2, .int (nI (i + 1))), (4, .int (nI (W + 1))), (3, .int (nI (lwF most wv i W))), (0, .ref x), (1, .int (bz most))]) dX4_weighTurn_77 2 rfl (nN (nI_inc _ 1) (by omega)) (by decide) rfl ?_
              refine x_goto ok 2 dX4_weighTurn_80 (by decide) ?_
              refine x_loc ok [0, 3, 4] (lv' := [(2, .int (nI (i + 1))), (0, .ref x), (1, .int (bz most))]) rfl ?_
              exact ih_2 (i + 1) (upd h9 i (nI (lwF most wv i W))) (by omega) (by first | assumption | omega) (fun j hj => by rcases Nat.lt_or_ge j i with q | q; (rw [upd_n (by omega)]; exact hh9 j q); (rw [show j = i by omega, upd_s, lwT]))
            · skip
              have hm16 := mv_lt (q := i) (m := k + 1) (by omega) (by omega)
              have hl6 := lwF_le (most := most) (q := i) hwv k
              have hw6 := hwv (mvN i (k + 1))
              refine x_aload_n ok 3 dX4_weighTurn_32 rfl rfl ?_
              refine x_iload_n ok 2 dX4_weighTurn_33 rfl rfl ?_
              refine x_iload ok 0 dX4_weighTurn_34 rfl ?_
              refine qX4_248 ok (As := [.int (nI i), .int (nI (k + 1))]) (st := [.ref x]) (c4_lidsBehind l D cI cZ cS i (k + 1) (by first | assumption | omega)) rfl (Nat.le_of_ble_eq_true rfl) (Nat.le_of_ble_eq_true rfl) (Nat.le_of_ble_eq_true rfl) dX4_weighTurn_36 [] (by decide) rfl (ws' := fun u => [(x, .inr (4, [.ref ax, .ref aw, .ref an, .ref aa, .ref a0, .ref a1, .int (nI sk), .int (nI ll), .long sd, .ref ar, .ref aq, .ref al, .ref am])), (aw, .inr (3, [.ref wd, .ref wt, .int (nI W)])), (al, .inl (cI, 16, .inl wf)), (am, .inl (cI, 16, .inl h9))]) (st' := fun u => [.int (nI (mvN i (k + 1))), .ref x]) (fun _ => rfl) (fun _ => rfl) (fun _ => rfl) (fun _ _ => ?_)
              refine qX4_251 ok (As := [.int (nI (mvN i (k + 1)))]) (st := []) 0 rfl (c4_worthOfLids l D cI cZ cS x ax aw an aa a0 a1 sk ll ar aq al am sd wf wv (mvN i (k + 1)) (by first | assumption | omega) (by first | assumption | omega)) rfl (Nat.le_of_ble_eq_true rfl) (Nat.le_of_ble_eq_true rfl) (Nat.le_of_ble_eq_true rfl) dX4_weighTurn_39 [0, 2] (by decide) rfl (ws' := fun u => [(x, .inr (4, [.ref ax, .ref aw, .ref an, .ref aa, .ref a0, .ref a1, .int (nI sk), .int (nI ll), .long sd, .ref ar, .ref aq, .ref al, .ref am])), (aw, .inr (3, [.ref wd, .ref wt, .int (nI W)])), (al, .inl (cI, 16, .inl wf)), (am, .inl (cI, 16, .inl h9))]) (st' := fun u => [.int (nI (wv (mvN i (k + 1))))]) (fun _ => rfl) (fun _ => rfl) (fun _ => rfl) (fun _ _ => ?_)
              refine x_istore ok (lv' := [(5, .int (nI (wv (mvN i (k + 1))))), (4, .int (nI (k + 1))), (3, .int (nI (lwF most wv i k))), (2, .int (nI i)), (0, .ref x), (1, .int (bz most))]) dX4_weighTurn_42 (by decide) rfl ?_
              refine x_iload_n ok 5 dX4_weighTurn_44 rfl rfl ?_
              have J_63 : ∀ (v63_1 : Nat), v63_1 = (if most = true then max (lwF most wv i k) (wv (mvN i (k + 1))) else min (lwF most wv i k) (wv (mvN i (k + 1)))) → XX K [(x, .inr (4, [.ref ax, .ref aw, .ref an, .ref aa, .ref a0, .ref a1, .int (nI sk), .int (nI ll), .long sd, .ref ar, .ref aq, .ref al, .ref am])), (aw, .inr (3, [.ref wd, .ref wt, .int (nI W)])), (al, .inl (cI, 16, .inl wf)), (am, .inl (cI, 16, .inl h9))] [(5, .int (nI (wv (mvN i (k + 1))))), (4, .int (nI (k + 1))), (3, .int (nI (lwF most wv i k))), (2, .int (nI i)), (0, .ref x), (1, .int (bz most))] 63 [.int (nI v63_1)] := by
                intro v63_1 e_v63_1
                refine x_istore_n ok (lv' := [(3, .int (nI v63_1)), (5, .int (nI (wv (mvN i (k + 1))))), (4, .int (nI (k + 1))), (2, .int (nI i)), (0, .ref x), (1, .int (bz most))]) dX4_weighTurn_63 rfl (by decide) rfl ?_
                refine x_iinc ok (v := nI (k + 2)) (lv' := [(4, .int (nI (k + 2))), (3, .int (nI v63_1)), (5, .int (nI (wv (mvN i (k + 1))))), (2, .int (nI i)), (0, .ref x), (1, .int (bz most))]) dX4_weighTurn_64 2 rfl (nN (nI_inc _ 1) (by omega)) (by decide) rfl ?_
                refine x_goto ok 20 dX4_weighTurn_67 (by decide) ?_
                refine x_loc ok [0, 1, 3, 4, 5] (lv' := [(4, .int (nI (k + 2))), (3, .int (nI v63_1)), (2, .int (nI i)), (0, .ref x), (1, .int (bz most))]) rfl ?_
                rw [show v63_1 = lwF most wv i (k + 1) from by rw [e_v63_1]; rfl]
                exact ih_20 (k + 1) (by omega) (by first | assumption | omega)
              refine x_if_eqB ok 57 dX4_weighTurn_45 (by decide) (fun c_45 => ?_) (fun c_45 => ?_)
              · skip
                refine x_iload_n ok 2 dX4_weighTurn_57 rfl rfl ?_
                refine x_iload ok 0 dX4_weighTurn_58 rfl ?_
                refine x_mmin ok LX4_160 H_minT N_Math H_minC (Nat.le_of_ble_eq_true rfl) (Nat.le_of_ble_eq_true rfl) dX4_weighTurn_60 (nI (min (lwF most wv i k) (wv (mvN i (k + 1))))) (min_n (by omega) (by omega)) ?_
                exact J_63 (min (lwF most wv i k) (wv (mvN i (k + 1)))) (by first | rfl | (simp only [if_neg c_45]; done) | (simp [c_45]; done))
              · skip
                refine x_iload_n ok 2 dX4_weighTurn_48 rfl rfl ?_
                refine x_iload ok 0 dX4_weighTurn_49 rfl ?_
                refine x_mmax ok LX4_205 H_maxT N_Math H_maxC (Nat.le_of_ble_eq_true rfl) (Nat.le_of_ble_eq_true rfl) dX4_weighTurn_51 (nI (max (lwF most wv i k) (wv (mvN i (k + 1))))) (max_n (by omega) (by omega)) ?_
                refine x_goto ok 63 dX4_weighTurn_54 (by decide) ?_
                exact J_63 (max (lwF most wv i k) (wv (mvN i (k + 1)))) (by first | rfl | (simp only [if_pos c_45]; done) | (simp [c_45]; done))
        exact L_20 _ 0 (Nat.lt_succ_self _) (by first | assumption | omega)
  exact L_2 _ 0 hf (Nat.lt_succ_self _) (by first | assumption | omega) (fun j hj => absurd hj (Nat.not_lt_zero j))

set_option maxHeartbeats 4000000 in
set_option maxRecDepth 100000 in
theorem c4_greatestDivisor (l : Launch) (D : va_G) (cI cZ cS : ClassId) (a : Nat) (b : Nat) (ha : a ≤ 10000) (hab : b ≤ a) : CO l D (TY cI cZ cS) yX4_greatestDivisor cX4_greatestDivisor 6 (some .int) 0 0 0 0 [.int (nI a), .int (nI b)] [] (σ := Unit) (fun u => some (.int (nI (Nat.gcd a b)))) (fun u => []) (fun u => True) := by
  refine CO_mki (by decide +kernel) (Nat.le_of_ble_eq_true rfl) (fun K ok ret => ?_)
  show XX K [] [(0, .int (nI a)), (1, .int (nI b))] 0 []
  refine x_iload_n ok 0 dX4_greatestDivisor_0 rfl rfl ?_
  refine x_istore_n ok (lv' := [(2, .int (nI a)), (0, .int (nI a)), (1, .int (nI b))]) dX4_greatestDivisor_1 rfl (by decide) rfl ?_
  refine x_iload_n ok 2 dX4_greatestDivisor_2 rfl rfl ?_
  refine x_istore_n ok (lv' := [(3, .int (nI b)), (2, .int (nI a)), (0, .int (nI a)), (1, .int (nI b))]) dX4_greatestDivisor_3 rfl (by decide) rfl ?_
  refine x_iconst ok (nI 0) dX4_greatestDivisor_4 (by decide) ?_
  refine x_istore ok (lv' := [(4, .int (nI 0)), (3, .int (nI b)), (2, .int (nI a)), (0, .int (nI a)), (1, .int (nI b))]) dX4_greatestDivisor_5 (by decide) rfl ?_
  have L_7 : ∀ (n_7 : Nat) (k : Nat) (p : Nat) (q : Nat), 100 - k < n_7 → (k ≤ 100) → (p ≤ 10000) → (q ≤ p) → (Nat.gcd p q = Nat.gcd a b) → (p * q * 2 ^ k ≤ 2 ^ 27) → XX K [] [(4, .int (nI k)), (3, .int (nI q)), (2, .int (nI p)), (0, .int (nI a)), (1, .int (nI b))] 7 [] := by
    intro n_7
    induction n_7 with
    | zero => intro k p q hm; exact absurd hm (Nat.not_lt_zero _)
    | succ n_7 ih_7 =>
      intro k p q hm_7 hk hp hq hg he
      refine x_iload ok 0 dX4_greatestDivisor_7 rfl ?_
      refine x_bipush ok (nI 100) dX4_greatestDivisor_9 (by decide) ?_
      refine x_icmp_geN ok 34 dX4_greatestDivisor_11 (by decide) (by omega) (by omega) (fun c_11 => ?_) (fun c_11 => ?_)
      · skip
        refine x_iload_n ok 2 dX4_greatestDivisor_34 rfl rfl ?_
        exact ret () _ _ _ (nI p) dX4_greatestDivisor_35 (rfl) (by have e0 := euc_end hq (by omega) he; subst e0; rw [← hg, Nat.gcd_zero_right]) (trivial)
      · skip
        refine x_iload_n ok 1 dX4_greatestDivisor_14 rfl rfl ?_
        refine x_if_eqN ok 34 dX4_greatestDivisor_15 (by decide) (by omega) (fun c_15 => ?_) (fun c_15 => ?_)
        · skip
          refine x_iload_n ok 2 dX4_greatestDivisor_34 rfl rfl ?_
          exact ret () _ _ _ (nI p) dX4_greatestDivisor_35 (rfl) (by rw [← hg, c_15, Nat.gcd_zero_right]) (trivial)
        · skip
          refine x_iload_n ok 2 dX4_greatestDivisor_18 rfl rfl ?_
          refine x_iload_n ok 1 dX4_greatestDivisor_19 rfl rfl ?_
          refine x_irem ok (nI (p % q)) dX4_greatestDivisor_20 (fun z => c_15 ((nI_eq0 q (by omega)).mp z)) (pk_rem (by omega) (by omega) (by omega)) ?_
          refine x_istore ok (lv' := [(5, .int (nI (p % q))), (4, .int (nI k)), (3, .int (nI q)), (2, .int (nI p)), (0, .int (nI a)), (1, .int (nI b))]) dX4_greatestDivisor_21 (by decide) rfl ?_
          refine x_iload_n ok 2 dX4_greatestDivisor_23 rfl rfl ?_
          refine x_istore_n ok (lv' := [(2, .int (nI q)), (5, .int (nI (p % q))), (4, .int (nI k)), (3, .int (nI q)), (0, .int (nI a)), (1, .int (nI b))]) dX4_greatestDivisor_24 rfl (by decide) rfl ?_
          refine x_iload ok 1 dX4_greatestDivisor_25 rfl ?_
          refine x_istore_n ok (lv' := [(3, .int (nI (p % q))), (2, .int (nI q)), (5, .int (nI (p % q))), (4, .int (nI k)), (0, .int (nI a)), (1, .int (nI b))]) dX4_greatestDivisor_27 rfl (by decide) rfl ?_
          refine x_iinc ok (v := nI (k + 1)) (lv' := [(4, .int (nI (k + 1))), (3, .int (nI (p % q))), (2, .int (nI q)), (5, .int (nI (p % q))), (0, .int (nI a)), (1, .int (nI b))]) dX4_greatestDivisor_28 3 rfl (nN (nI_inc _ 1) (by omega)) (by decide) rfl ?_
          refine x_goto ok 7 dX4_greatestDivisor_31 (by decide) ?_
          refine x_loc ok [0, 1, 2, 4, 5] (lv' := [(4, .int (nI (k + 1))), (3, .int (nI (p % q))), (2, .int (nI q)), (0, .int (nI a)), (1, .int (nI b))]) rfl ?_
          exact ih_7 (k + 1) q (p % q) (by omega) (by first | assumption | omega) (by omega) (by have := Nat.mod_lt p (Nat.pos_of_ne_zero c_15); omega) (by rw [← hg, Nat.gcd_comm q, ← Nat.gcd_rec, Nat.gcd_comm]) (euc_half c_15 hq he)
  exact L_7 _ 0 a b (Nat.lt_succ_self _) (by first | assumption | omega) (by first | assumption | omega) (by first | assumption | omega) (rfl) (euc_0 ha (by omega))

set_option maxHeartbeats 4000000 in
set_option maxRecDepth 100000 in
theorem c4_isFloodedBySeed (l : Launch) (D : va_G) (cI cZ cS : ClassId) (x : Nat) (ax : Nat) (aw : Nat) (an : Nat) (aa : Nat) (a0 : Nat) (a1 : Nat) (sk : Nat) (ll : Nat) (ar : Nat) (aq : Nat) (al : Nat) (am : Nat) (sd : Int64) (r : Nat)  : CO l D (TY cI cZ cS) yX4_isFloodedBySeed cX4_isFloodedBySeed 2 (some .boolean) 0 0 0 0 [.ref x, .int (nI r)] [(x, .inr (4, [.ref ax, .ref aw, .ref an, .ref aa, .ref a0, .ref a1, .int (nI sk), .int (nI ll), .long sd, .ref ar, .ref aq, .ref al, .ref am]))] (σ := Unit) (fun u => some (.int (bz (flB (seedN sd) r)))) (fun u => [(x, .inr (4, [.ref ax, .ref aw, .ref an, .ref aa, .ref a0, .ref a1, .int (nI sk), .int (nI ll), .long (seedN sd), .ref ar, .ref aq, .ref al, .ref am]))]) (fun u => True) := by
  refine CO_mkz (by decide +kernel) (Nat.le_of_ble_eq_true rfl) (fun K ok ret => ?_)
  show XX K [(x, .inr (4, [.ref ax, .ref aw, .ref an, .ref aa, .ref a0, .ref a1, .int (nI sk), .int (nI ll), .long sd, .ref ar, .ref aq, .ref al, .ref am]))] [(0, .ref x), (1, .int (nI r))] 0 []
  refine x_aload_n ok 0 dX4_isFloodedBySeed_0 rfl rfl ?_
  refine x_aload_n ok 0 dX4_isFloodedBySeed_1 rfl rfl ?_
  refine gX4_264 ok dX4_isFloodedBySeed_2 0 rfl rfl ?_
  refine x_ldc2v ok KX4_274 (v' := (6364136223846793005)) (by decide) dX4_isFloodedBySeed_5 ?_
  refine x_lmul ok ((sd * (6364136223846793005))) dX4_isFloodedBySeed_8 (rfl) ?_
  refine x_ldc2v ok KX4_276 (v' := (1442695040888963407)) (by decide) dX4_isFloodedBySeed_9 ?_
  refine x_ladd ok ((seedN sd)) dX4_isFloodedBySeed_12 (rfl) ?_
  refine pX4_264 ok dX4_isFloodedBySeed_13 0 rfl rfl rfl (Nat.le_of_ble_eq_true rfl) (ws' := [(x, .inr (4, [.ref ax, .ref aw, .ref an, .ref aa, .ref a0, .ref a1, .int (nI sk), .int (nI ll), .long (seedN sd), .ref ar, .ref aq, .ref al, .ref am]))]) rfl ?_
  refine x_aload_n ok 0 dX4_isFloodedBySeed_16 rfl rfl ?_
  refine gX4_264 ok dX4_isFloodedBySeed_17 0 rfl rfl ?_
  refine x_bipush ok (nI 33) dX4_isFloodedBySeed_20 (by decide) ?_
  refine x_lushr ok ((seedS (seedN sd))) dX4_isFloodedBySeed_22 (rfl) ?_
  refine x_ldc2v ok KX4_278 (v' := (nI 10).toInt64) (by decide) dX4_isFloodedBySeed_23 ?_
  refine x_lrem ok ((seedR (seedN sd))) dX4_isFloodedBySeed_26 (by decide) (rfl) ?_
  refine x_iload_n ok 1 dX4_isFloodedBySeed_27 rfl rfl ?_
  refine x_i2l ok ((nI r).toInt64) dX4_isFloodedBySeed_28 rfl ?_
  refine x_lcmp ok dX4_isFloodedBySeed_29 ?_
  refine x_if_ge ok 37 dX4_isFloodedBySeed_30 (by decide) (fun c_30 => ?_) (fun c_30 => ?_)
  · skip
    refine x_iconst ok (nI 0) dX4_isFloodedBySeed_37 (by decide) ?_
    exact ret () _ _ _ (false) dX4_isFloodedBySeed_38 (rfl) (by simp [flB, c_30]) (trivial)
  · skip
    refine x_iconst ok (nI 1) dX4_isFloodedBySeed_33 (by decide) ?_
    refine x_goto ok 38 dX4_isFloodedBySeed_34 (by decide) ?_
    exact ret () _ _ _ (true) dX4_isFloodedBySeed_38 (rfl) (by simp [flB, c_30]) (trivial)

set_option maxHeartbeats 4000000 in
set_option maxRecDepth 100000 in
theorem c4_slotOf0 (l : Launch) (D : va_G) (cI cZ cS : ClassId) (x : Nat) (ax : Nat) (aw : Nat) (an : Nat) (aa : Nat) (a0 : Nat) (a1 : Nat) (sk : Nat) (ll : Nat) (ar : Nat) (aq : Nat) (al : Nat) (am : Nat) (sd : Int64)  : CO l D (TY cI cZ cS) yX4_slotOf cX4_slotOf 2 (some (.object "WellEchoes$Songs")) 0 0 0 0 [.ref x, .int (nI 0)] [(x, .inr (4, [.ref ax, .ref aw, .ref an, .ref aa, .ref a0, .ref a1, .int (nI sk), .int (nI ll), .long sd, .ref ar, .ref aq, .ref al, .ref am]))] (σ := Unit) (fun u => some (.ref (a0))) (fun u => [(x, .inr (4, [.ref ax, .ref aw, .ref an, .ref aa, .ref a0, .ref a1, .int (nI sk), .int (nI ll), .long sd, .ref ar, .ref aq, .ref al, .ref am]))]) (fun u => True) := by
  refine CO_mkq (by decide +kernel) (Nat.le_of_ble_eq_true rfl) (fun K ok ret => ?_)
  show XX K [(x, .inr (4, [.ref ax, .ref aw, .ref an, .ref aa, .ref a0, .ref a1, .int (nI sk), .int (nI ll), .long sd, .ref ar, .ref aq, .ref al, .ref am]))] [(0, .ref x), (1, .int (nI 0))] 0 []
  refine x_iload_n ok 1 dX4_slotOf_0 rfl rfl ?_
  refine x_if_neN ok 11 dX4_slotOf_1 (by decide) (by omega) (fun c_1 => absurd c_1 (by decide)) (fun c_1 => ?_)
  refine x_aload_n ok 0 dX4_slotOf_4 rfl rfl ?_
  refine gX4_37 ok dX4_slotOf_5 0 rfl rfl ?_
  refine x_goto ok 15 dX4_slotOf_8 (by decide) ?_
  exact ret () _ _ _ (a0) dX4_slotOf_15 (rfl) (rfl) (trivial)

set_option maxHeartbeats 4000000 in
set_option maxRecDepth 100000 in
theorem c4_slotOf1 (l : Launch) (D : va_G) (cI cZ cS : ClassId) (x : Nat) (ax : Nat) (aw : Nat) (an : Nat) (aa : Nat) (a0 : Nat) (a1 : Nat) (sk : Nat) (ll : Nat) (ar : Nat) (aq : Nat) (al : Nat) (am : Nat) (sd : Int64)  : CO l D (TY cI cZ cS) yX4_slotOf cX4_slotOf 2 (some (.object "WellEchoes$Songs")) 0 0 0 0 [.ref x, .int (nI 1)] [(x, .inr (4, [.ref ax, .ref aw, .ref an, .ref aa, .ref a0, .ref a1, .int (nI sk), .int (nI ll), .long sd, .ref ar, .ref aq, .ref al, .ref am]))] (σ := Unit) (fun u => some (.ref (a1))) (fun u => [(x, .inr (4, [.ref ax, .ref aw, .ref an, .ref aa, .ref a0, .ref a1, .int (nI sk), .int (nI ll), .long sd, .ref ar, .ref aq, .ref al, .ref am]))]) (fun u => True) := by
  refine CO_mkq (by decide +kernel) (Nat.le_of_ble_eq_true rfl) (fun K ok ret => ?_)
  show XX K [(x, .inr (4, [.ref ax, .ref aw, .ref an, .ref aa, .ref a0, .ref a1, .int (nI sk), .int (nI ll), .long sd, .ref ar, .ref aq, .ref al, .ref am]))] [(0, .ref x), (1, .int (nI 1))] 0 []
  refine x_iload_n ok 1 dX4_slotOf_0 rfl rfl ?_
  refine x_if_neN ok 11 dX4_slotOf_1 (by decide) (by omega) (fun c_1 => ?_) (fun c_1 => absurd c_1 (by decide))
  refine x_aload_n ok 0 dX4_slotOf_11 rfl rfl ?_
  refine gX4_40 ok dX4_slotOf_12 0 rfl rfl ?_
  exact ret () _ _ _ (a1) dX4_slotOf_15 (rfl) (rfl) (trivial)

set_option maxHeartbeats 4000000 in
set_option maxRecDepth 100000 in
theorem c3_add (l : Launch) (D : va_G) (cI cZ cS : ClassId) (w : Nat) (d : Nat) (t : Nat) (W : Nat) (df : Nat → Int32) (tf : Nat → Int32) (d0 : Nat) (s0 : Nat) (hw : W < 4) : CO l D (TY cI cZ cS) yX3_add cX3_add 3 none 0 0 0 0 [.ref w, .int (nI d0), .int (nI s0)] [(w, .inr (3, [.ref d, .ref t, .int (nI W)])), (d, .inl (cI, 4, .inl df)), (t, .inl (cI, 4, .inl tf))] (σ := Unit) (fun u => none) (fun u => [(w, .inr (3, [.ref d, .ref t, .int (nI (W + 1))])), (d, .inl (cI, 4, .inl (upd df W (nI d0)))), (t, .inl (cI, 4, .inl (upd tf W (nI s0))))]) (fun u => True) := by
  refine CO_mkv (by decide +kernel) (Nat.le_of_ble_eq_true rfl) (fun K ok ret => ?_)
  show XX K [(w, .inr (3, [.ref d, .ref t, .int (nI W)])), (d, .inl (cI, 4, .inl df)), (t, .inl (cI, 4, .inl tf))] [(0, .ref w), (1, .int (nI d0)), (2, .int (nI s0))] 0 []
  refine x_aload_n ok 0 dX3_add_0 rfl rfl ?_
  refine gX3_18 ok dX3_add_1 0 rfl rfl ?_
  refine x_if_ltN ok dX3_add_4 (by omega) (by decide) ?_
  refine x_aload_n ok 0 dX3_add_7 rfl rfl ?_
  refine gX3_18 ok dX3_add_8 0 rfl rfl ?_
  refine x_aload_n ok 0 dX3_add_11 rfl rfl ?_
  refine gX3_9 ok dX3_add_12 0 rfl rfl ?_
  refine x_alen ok 1 0 (nI 4) dX3_add_15 rfl rfl rfl ?_
  refine x_icmp_geN ok 61 dX3_add_16 (by decide) (by omega) (by omega) (fun c_16 => absurd c_16 (by omega)) (fun c_16 => ?_)
  refine x_aload_n ok 0 dX3_add_19 rfl rfl ?_
  refine gX3_18 ok dX3_add_20 0 rfl rfl ?_
  refine x_aload_n ok 0 dX3_add_23 rfl rfl ?_
  refine gX3_15 ok dX3_add_24 0 rfl rfl ?_
  refine x_alen ok 2 0 (nI 4) dX3_add_27 rfl rfl rfl ?_
  refine x_icmp_geN ok 61 dX3_add_28 (by decide) (by omega) (by omega) (fun c_28 => absurd c_28 (by omega)) (fun c_28 => ?_)
  refine x_aload_n ok 0 dX3_add_31 rfl rfl ?_
  refine gX3_9 ok dX3_add_32 0 rfl rfl ?_
  refine x_aload_n ok 0 dX3_add_35 rfl rfl ?_
  refine gX3_18 ok dX3_add_36 0 rfl rfl ?_
  refine x_iload_n ok 1 dX3_add_39 rfl rfl ?_
  refine x_iast ok 1 0 W (ws' := [(w, .inr (3, [.ref d, .ref t, .int (nI W)])), (d, .inl (cI, 4, .inl (upd df W (nI d0)))), (t, .inl (cI, 4, .inl tf))]) dX3_add_40 rfl rfl (rfl) (by omega) (by decide) (rfl) rfl ?_
  refine x_aload_n ok 0 dX3_add_41 rfl rfl ?_
  refine gX3_15 ok dX3_add_42 0 rfl rfl ?_
  refine x_aload_n ok 0 dX3_add_45 rfl rfl ?_
  refine gX3_18 ok dX3_add_46 0 rfl rfl ?_
  refine x_iload_n ok 2 dX3_add_49 rfl rfl ?_
  refine x_iast ok 2 0 W (ws' := [(w, .inr (3, [.ref d, .ref t, .int (nI W)])), (d, .inl (cI, 4, .inl (upd df W (nI d0)))), (t, .inl (cI, 4, .inl (upd tf W (nI s0))))]) dX3_add_50 rfl rfl (rfl) (by omega) (by decide) (rfl) rfl ?_
  refine x_aload_n ok 0 dX3_add_51 rfl rfl ?_
  refine x_dup ok dX3_add_52 rfl ?_
  refine gX3_18 ok dX3_add_53 0 rfl rfl ?_
  refine x_iconst ok (nI 1) dX3_add_56 (by decide) ?_
  refine x_iadd ok (nI (W + 1)) dX3_add_57 (nN (nI_add _ _) (by omega)) ?_
  refine pX3_18 ok dX3_add_58 0 rfl rfl rfl (Nat.le_of_ble_eq_true rfl) (ws' := [(w, .inr (3, [.ref d, .ref t, .int (nI (W + 1))])), (d, .inl (cI, 4, .inl (upd df W (nI d0)))), (t, .inl (cI, 4, .inl (upd tf W (nI s0))))]) rfl ?_
  exact ret () _ _ _ dX3_add_61 (rfl) (trivial)
