set_option maxHeartbeats 4000000 in
set_option maxRecDepth 100000 in
theorem p_land0 (l : Launch) (D : va_G) (cI cZ cS : ClassId) (x : Nat) (ax : Nat) (aw : Nat) (an : Nat) (aa : Nat) (a0 : Nat) (a1 : Nat) (sk : Nat) (ll : Nat) (ar : Nat) (aq : Nat) (al : Nat) (am : Nat) (sd : Int64) (ta : Nat) (T : List Nat) (xf : Nat → Int32) (hT : tx xf T) (hO : okT T) (h9 : ¬ (landP T).1 = -9) : CO l D (TY cI cZ cS) yX4_land cX4_land 2 (some .int) 3 71 0 0 [.ref x] [(x, .inr (4, [.ref ax, .ref aw, .ref an, .ref aa, .ref a0, .ref a1, .int (nI sk), .int (nI ll), .long sd, .ref ar, .ref aq, .ref al, .ref am])), (ax, .inr (2, [.ref ta, .int (nI T.length)])), (ta, .inl (cI, 56, .inl xf))] (σ := Unit) (fun u => some (.int ((-3)))) (fun u => [(x, .inr (4, [.ref ax, .ref aw, .ref an, .ref aa, .ref a0, .ref a1, .int (nI sk), .int (nI ll), .long sd, .ref ar, .ref aq, .ref al, .ref am])), (ax, .inr (2, [.ref ta, .int (nI T.length)])), (ta, .inl (cI, 56, .inl xf))]) (fun u => True) := by
  refine CO_mki (by decide +kernel) (Nat.le_of_ble_eq_true rfl) (fun K ok ret => ?_)
  show XX K [(x, .inr (4, [.ref ax, .ref aw, .ref an, .ref aa, .ref a0, .ref a1, .int (nI sk), .int (nI ll), .long sd, .ref ar, .ref aq, .ref al, .ref am])), (ax, .inr (2, [.ref ta, .int (nI T.length)])), (ta, .inl (cI, 56, .inl xf))] [(0, .ref x)] 0 []
  refine x_aload_n ok 0 dX4_land_0 rfl rfl ?_
  refine gX4_10 ok dX4_land_1 0 rfl rfl ?_
  refine qX4_64 ok (As := []) (st := []) 1 rfl (c2_faultPlace l D cI cZ cS ax ta T xf (by first | assumption | omega) (by first | assumption | omega)) rfl (Nat.le_of_ble_eq_true rfl) (Nat.le_of_ble_eq_true rfl) (Nat.le_of_ble_eq_true rfl) dX4_land_4 [1, 2] (by decide) rfl (ws' := fun u => [(x, .inr (4, [.ref ax, .ref aw, .ref an, .ref aa, .ref a0, .ref a1, .int (nI sk), .int (nI ll), .long sd, .ref ar, .ref aq, .ref al, .ref am])), (ax, .inr (2, [.ref ta, .int (nI T.length)])), (ta, .inl (cI, 56, .inl xf))]) (st' := fun u => [.int ((landP T).1)]) (fun _ => rfl) (fun _ => rfl) (fun _ => rfl) (fun _ _ => ?_)
  refine x_bipush ok ((-9)) dX4_land_7 (by decide) ?_
  refine x_icmp_eq ok 15 dX4_land_9 (by decide) (fun c_9 => ?_) (fun c_9 => ?_)
  · skip
    exact (h9 c_9 : False).elim
  · skip
    refine x_bipush ok ((-3)) dX4_land_12 (by decide) ?_
    exact ret () _ _ _ ((-3)) dX4_land_14 (rfl) (by first | rfl | (simp [c_9]; done)) (trivial)

set_option maxHeartbeats 4000000 in
set_option maxRecDepth 100000 in
theorem p_land1 (l : Launch) (D : va_G) (cI cZ cS : ClassId) (x : Nat) (ax : Nat) (aw : Nat) (an : Nat) (aa : Nat) (a0 : Nat) (a1 : Nat) (sk : Nat) (ll : Nat) (ar : Nat) (aq : Nat) (al : Nat) (am : Nat) (sd : Int64) (ta : Nat) (T : List Nat) (xf : Nat → Int32) (wd : Nat) (wt : Nat) (W0 : Nat) (df : Nat → Int32) (tf : Nat → Int32) (nc : Nat) (L0 : List Sg) (li : Nat) (ye : Int32) (br : Int32) (f : Nat → Int32) (rw : Nat) (na : Nat) (hT : tx xf T) (hO : okT T) (h9 : (landP T).1 = -9) (hW0 : W0 < 2 ^ 31) (hL0 : L0.length < 2 ^ 31) : CO l D (TY cI cZ cS) yX4_land cX4_land 2 (some .int) 3 72 0 0 [.ref x] [(x, .inr (4, [.ref ax, .ref aw, .ref an, .ref aa, .ref a0, .ref a1, .int (nI sk), .int (nI ll), .long sd, .ref ar, .ref aq, .ref al, .ref am])), (ax, .inr (2, [.ref ta, .int (nI T.length)])), (ta, .inl (cI, 56, .inl xf)), (aw, .inr (3, [.ref wd, .ref wt, .int (nI W0)])), (wd, .inl (cI, 4, .inl df)), (wt, .inl (cI, 4, .inl tf)), (an, .inr (1, [.ref nc, .int (nI L0.length), .int (nI li), .int ye, .int br])), (nc, .inl (cI, 48, .inl f)), (aa, .inr (0, [.ref rw, .int (nI na)]))] (σ := (Nat → Int32) × (Nat → Int32) × (Nat → Int32)) (fun u => some (.int (nI (10 * (landP T).2.1.length + (landP T).2.2.length)))) (fun u => [(x, .inr (4, [.ref ax, .ref aw, .ref an, .ref aa, .ref a0, .ref a1, .int (nI 0), .int (nI (lawsN (landP T).2.2)), .long sd, .ref ar, .ref aq, .ref al, .ref am])), (ax, .inr (2, [.ref ta, .int (nI T.length)])), (ta, .inl (cI, 56, .inl xf)), (aw, .inr (3, [.ref wd, .ref wt, .int (nI ((landP T).2.1.length))])), (wd, .inl (cI, 4, .inl u.1)), (wt, .inl (cI, 4, .inl u.2.1)), (an, .inr (1, [.ref nc, .int (nI ((landP T).2.2.length)), .int (nI 0), .int (nI 0), .int (nI 0)])), (nc, .inl (cI, 48, .inl u.2.2)), (aa, .inr (0, [.ref rw, .int (nI 0)]))]) (fun u => (wD u.1 (landP T).2.1) ∧ (wT u.2.1 (landP T).2.1) ∧ (hs u.2.2 (landP T).2.2)) := by
  refine CO_mki (by decide +kernel) (Nat.le_of_ble_eq_true rfl) (fun K ok ret => ?_)
  show XX K [(x, .inr (4, [.ref ax, .ref aw, .ref an, .ref aa, .ref a0, .ref a1, .int (nI sk), .int (nI ll), .long sd, .ref ar, .ref aq, .ref al, .ref am])), (ax, .inr (2, [.ref ta, .int (nI T.length)])), (ta, .inl (cI, 56, .inl xf)), (aw, .inr (3, [.ref wd, .ref wt, .int (nI W0)])), (wd, .inl (cI, 4, .inl df)), (wt, .inl (cI, 4, .inl tf)), (an, .inr (1, [.ref nc, .int (nI L0.length), .int (nI li), .int ye, .int br])), (nc, .inl (cI, 48, .inl f)), (aa, .inr (0, [.ref rw, .int (nI na)]))] [(0, .ref x)] 0 []
  have htl := hO.1
  have hl0 := lIn_0 h9
  refine x_aload_n ok 0 dX4_land_0 rfl rfl ?_
  refine gX4_10 ok dX4_land_1 0 rfl rfl ?_
  refine qX4_64 ok (As := []) (st := []) 1 rfl (c2_faultPlace l D cI cZ cS ax ta T xf (by first | assumption | omega) (by first | assumption | omega)) rfl (Nat.le_of_ble_eq_true rfl) (Nat.le_of_ble_eq_true rfl) (Nat.le_of_ble_eq_true rfl) dX4_land_4 [1, 2] (by decide) rfl (ws' := fun u => [(x, .inr (4, [.ref ax, .ref aw, .ref an, .ref aa, .ref a0, .ref a1, .int (nI sk), .int (nI ll), .long sd, .ref ar, .ref aq, .ref al, .ref am])), (ax, .inr (2, [.ref ta, .int (nI T.length)])), (ta, .inl (cI, 56, .inl xf)), (aw, .inr (3, [.ref wd, .ref wt, .int (nI W0)])), (wd, .inl (cI, 4, .inl df)), (wt, .inl (cI, 4, .inl tf)), (an, .inr (1, [.ref nc, .int (nI L0.length), .int (nI li), .int ye, .int br])), (nc, .inl (cI, 48, .inl f)), (aa, .inr (0, [.ref rw, .int (nI na)]))]) (st' := fun u => [.int ((landP T).1)]) (fun _ => rfl) (fun _ => rfl) (fun _ => rfl) (fun _ _ => ?_)
  refine x_bipush ok ((-9)) dX4_land_7 (by decide) ?_
  refine x_icmp_eq ok 15 dX4_land_9 (by decide) (fun c_9 => ?_) (fun c_9 => absurd c_9 (fun z => z h9))
  refine x_aload_n ok 0 dX4_land_15 rfl rfl ?_
  refine gX4_19 ok dX4_land_16 0 rfl rfl ?_
  refine x_iconst ok (nI 0) dX4_land_19 (by decide) ?_
  refine pX4_68 ok dX4_land_20 3 rfl rfl rfl (Nat.le_of_ble_eq_true rfl) (ws' := [(x, .inr (4, [.ref ax, .ref aw, .ref an, .ref aa, .ref a0, .ref a1, .int (nI sk), .int (nI ll), .long sd, .ref ar, .ref aq, .ref al, .ref am])), (ax, .inr (2, [.ref ta, .int (nI T.length)])), (ta, .inl (cI, 56, .inl xf)), (aw, .inr (3, [.ref wd, .ref wt, .int (nI 0)])), (wd, .inl (cI, 4, .inl df)), (wt, .inl (cI, 4, .inl tf)), (an, .inr (1, [.ref nc, .int (nI L0.length), .int (nI li), .int ye, .int br])), (nc, .inl (cI, 48, .inl f)), (aa, .inr (0, [.ref rw, .int (nI na)]))]) rfl ?_
  refine x_aload_n ok 0 dX4_land_23 rfl rfl ?_
  refine gX4_26 ok dX4_land_24 0 rfl rfl ?_
  refine qX4_71 ok (As := []) (st := []) 6 rfl (c1_clear l D cI cZ cS an nc L0.length li ye br ) rfl (Nat.le_of_ble_eq_true rfl) (Nat.le_of_ble_eq_true rfl) (Nat.le_of_ble_eq_true rfl) dX4_land_27 [6] (by decide) rfl (ws' := fun u => [(x, .inr (4, [.ref ax, .ref aw, .ref an, .ref aa, .ref a0, .ref a1, .int (nI sk), .int (nI ll), .long sd, .ref ar, .ref aq, .ref al, .ref am])), (ax, .inr (2, [.ref ta, .int (nI T.length)])), (ta, .inl (cI, 56, .inl xf)), (aw, .inr (3, [.ref wd, .ref wt, .int (nI 0)])), (wd, .inl (cI, 4, .inl df)), (wt, .inl (cI, 4, .inl tf)), (an, .inr (1, [.ref nc, .int (nI 0), .int (nI 0), .int (nI 0), .int (nI 0)])), (nc, .inl (cI, 48, .inl f)), (aa, .inr (0, [.ref rw, .int (nI na)]))]) (st' := fun u => []) (fun _ => rfl) (fun _ => rfl) (fun _ => rfl) (fun _ _ => ?_)
  refine x_aload_n ok 0 dX4_land_30 rfl rfl ?_
  refine gX4_33 ok dX4_land_31 0 rfl rfl ?_
  refine x_iconst ok (nI 0) dX4_land_34 (by decide) ?_
  refine pX4_74 ok dX4_land_35 8 rfl rfl rfl (Nat.le_of_ble_eq_true rfl) (ws' := [(x, .inr (4, [.ref ax, .ref aw, .ref an, .ref aa, .ref a0, .ref a1, .int (nI sk), .int (nI ll), .long sd, .ref ar, .ref aq, .ref al, .ref am])), (ax, .inr (2, [.ref ta, .int (nI T.length)])), (ta, .inl (cI, 56, .inl xf)), (aw, .inr (3, [.ref wd, .ref wt, .int (nI 0)])), (wd, .inl (cI, 4, .inl df)), (wt, .inl (cI, 4, .inl tf)), (an, .inr (1, [.ref nc, .int (nI 0), .int (nI 0), .int (nI 0), .int (nI 0)])), (nc, .inl (cI, 48, .inl f)), (aa, .inr (0, [.ref rw, .int (nI 0)]))]) rfl ?_
  refine x_aload_n ok 0 dX4_land_38 rfl rfl ?_
  refine x_iconst ok (nI 0) dX4_land_39 (by decide) ?_
  refine pX4_75 ok dX4_land_40 0 rfl rfl rfl (Nat.le_of_ble_eq_true rfl) (ws' := [(x, .inr (4, [.ref ax, .ref aw, .ref an, .ref aa, .ref a0, .ref a1, .int (nI 0), .int (nI ll), .long sd, .ref ar, .ref aq, .ref al, .ref am])), (ax, .inr (2, [.ref ta, .int (nI T.length)])), (ta, .inl (cI, 56, .inl xf)), (aw, .inr (3, [.ref wd, .ref wt, .int (nI 0)])), (wd, .inl (cI, 4, .inl df)), (wt, .inl (cI, 4, .inl tf)), (an, .inr (1, [.ref nc, .int (nI 0), .int (nI 0), .int (nI 0), .int (nI 0)])), (nc, .inl (cI, 48, .inl f)), (aa, .inr (0, [.ref rw, .int (nI 0)]))]) rfl ?_
  refine x_iconst ok (nI 1) dX4_land_43 (by decide) ?_
  refine x_istore_n ok (lv' := [(1, .int (nI 1)), (0, .ref x)]) dX4_land_44 rfl (by decide) rfl ?_
  have L_45 : ∀ (n_45 : Nat) (p : Nat) (Wc : List (Nat × Nat)) (Lc : List Sg) (dg : Nat → Int32) (tq : Nat → Int32) (g : Nat → Int32), T.length - p < n_45 → (p ≤ T.length) → (lIn T (landP T) p Wc Lc) → (wD dg Wc) → (wT tq Wc) → (hs g Lc) → XX K [(x, .inr (4, [.ref ax, .ref aw, .ref an, .ref aa, .ref a0, .ref a1, .int (nI 0), .int (nI ll), .long sd, .ref ar, .ref aq, .ref al, .ref am])), (ax, .inr (2, [.ref ta, .int (nI T.length)])), (ta, .inl (cI, 56, .inl xf)), (aw, .inr (3, [.ref wd, .ref wt, .int (nI Wc.length)])), (wd, .inl (cI, 4, .inl dg)), (wt, .inl (cI, 4, .inl tq)), (an, .inr (1, [.ref nc, .int (nI Lc.length), .int (nI 0), .int (nI 0), .int (nI 0)])), (nc, .inl (cI, 48, .inl g)), (aa, .inr (0, [.ref rw, .int (nI 0)]))] [(1, .int (nI p)), (0, .ref x)] 45 [] := by
    intro n_45
    induction n_45 with
    | zero => intro p Wc Lc dg tq g hm; exact absurd hm (Nat.not_lt_zero _)
    | succ n_45 ih_45 =>
      intro p Wc Lc dg tq g hm_45 hp hI hD2 hT2 hg
      refine x_iload_n ok 0 dX4_land_45 rfl rfl ?_
      refine x_aload_n ok 1 dX4_land_46 rfl rfl ?_
      refine gX4_10 ok dX4_land_47 0 rfl rfl ?_
      refine gX4_60 ok dX4_land_50 1 rfl rfl ?_
      refine x_icmp_geN ok 67 dX4_land_53 (by decide) (by omega) (by omega) (fun c_53 => ?_) (fun c_53 => ?_)
      · skip
        have ep : p = T.length := by omega
        rw [ep] at hI
        have eR := lIn_n hI
        have eW : (landP T).2.1 = Wc := by rw [eR]
        have eL : (landP T).2.2 = Lc := by rw [eR]
        have hok := land_ok hO.1 h9
        rw [eW, eL] at hok
        refine x_aload_n ok 1 dX4_land_67 rfl rfl ?_
        refine x_aload_n ok 1 dX4_land_68 rfl rfl ?_
        refine gX4_26 ok dX4_land_69 0 rfl rfl ?_
        refine qX4_82 ok (As := []) (st := [.ref x]) 6 rfl (c1_lawsHad l D cI cZ cS an nc Lc 0 (nI 0) (nI 0) g Wc.length 0 (hg) (hok.2.1)) rfl (Nat.le_of_ble_eq_true rfl) (Nat.le_of_ble_eq_true rfl) (Nat.le_of_ble_eq_true rfl) dX4_land_72 [6, 7] (by decide) rfl (ws' := fun u => [(x, .inr (4, [.ref ax, .ref aw, .ref an, .ref aa, .ref a0, .ref a1, .int (nI 0), .int (nI ll), .long sd, .ref ar, .ref aq, .ref al, .ref am])), (ax, .inr (2, [.ref ta, .int (nI T.length)])), (ta, .inl (cI, 56, .inl xf)), (aw, .inr (3, [.ref wd, .ref wt, .int (nI Wc.length)])), (wd, .inl (cI, 4, .inl dg)), (wt, .inl (cI, 4, .inl tq)), (an, .inr (1, [.ref nc, .int (nI Lc.length), .int (nI 0), .int (nI 0), .int (nI 0)])), (nc, .inl (cI, 48, .inl g)), (aa, .inr (0, [.ref rw, .int (nI 0)]))]) (st' := fun u => [.int (nI (lawsN Lc)), .ref x]) (fun _ => rfl) (fun _ => rfl) (fun _ => rfl) (fun _ _ => ?_)
        refine pX4_85 ok dX4_land_75 0 rfl rfl rfl (Nat.le_of_ble_eq_true rfl) (ws' := [(x, .inr (4, [.ref ax, .ref aw, .ref an, .ref aa, .ref a0, .ref a1, .int (nI 0), .int (nI (lawsN Lc)), .long sd, .ref ar, .ref aq, .ref al, .ref am])), (ax, .inr (2, [.ref ta, .int (nI T.length)])), (ta, .inl (cI, 56, .inl xf)), (aw, .inr (3, [.ref wd, .ref wt, .int (nI Wc.length)])), (wd, .inl (cI, 4, .inl dg)), (wt, .inl (cI, 4, .inl tq)), (an, .inr (1, [.ref nc, .int (nI Lc.length), .int (nI 0), .int (nI 0), .int (nI 0)])), (nc, .inl (cI, 48, .inl g)), (aa, .inr (0, [.ref rw, .int (nI 0)]))]) rfl ?_
        refine x_bipush ok (nI 10) dX4_land_78 (by decide) ?_
        refine x_aload_n ok 1 dX4_land_80 rfl rfl ?_
        refine gX4_19 ok dX4_land_81 0 rfl rfl ?_
        refine gX4_68 ok dX4_land_84 3 rfl rfl ?_
        refine x_imul ok (nI (10 * Wc.length)) dX4_land_87 (pk_mul _ _) ?_
        refine x_aload_n ok 1 dX4_land_88 rfl rfl ?_
        refine gX4_26 ok dX4_land_89 0 rfl rfl ?_
        refine gX4_88 ok dX4_land_92 6 rfl rfl ?_
        refine x_iadd ok (nI (10 * Wc.length + Lc.length)) dX4_land_95 (nI_add _ _) ?_
        exact ret (dg, tq, g) _ _ _ (nI (10 * Wc.length + Lc.length)) dX4_land_96 (by rw [eW, eL]) (by rw [eW, eL]) (⟨by rw [eW]; exact hD2, by rw [eW]; exact hT2, by rw [eL]; exact hg⟩)
      · skip
        have hat := lIn_at htl h9 hI (by omega)
        refine x_aload_n ok 1 dX4_land_56 rfl rfl ?_
        refine x_iload_n ok 0 dX4_land_57 rfl rfl ?_
        refine qX4_78 ok (As := [.int (nI p)]) (st := []) 0 rfl (c4_tellPart l D cI cZ cS x ax aw an aa a0 a1 0 ll ar aq al am sd ta T xf wd wt dg tq nc 0 (nI 0) (nI 0) g Wc Lc p (by first | assumption | omega) (by first | assumption | omega) (by first | assumption | omega) (hD2) (hT2) (hg) (hat.1) (hat.2.1)) rfl (Nat.le_of_ble_eq_true rfl) (Nat.le_of_ble_eq_true rfl) (Nat.le_of_ble_eq_true rfl) dX4_land_58 [0, 1, 2, 3, 4, 5, 6, 7] (by decide) rfl (ws' := fun u => [(x, .inr (4, [.ref ax, .ref aw, .ref an, .ref aa, .ref a0, .ref a1, .int (nI 0), .int (nI ll), .long sd, .ref ar, .ref aq, .ref al, .ref am])), (ax, .inr (2, [.ref ta, .int (nI T.length)])), (ta, .inl (cI, 56, .inl xf)), (aw, .inr (3, [.ref wd, .ref wt, .int (nI ((tellW T p Wc).length))])), (wd, .inl (cI, 4, .inl u.1)), (wt, .inl (cI, 4, .inl u.2.1)), (an, .inr (1, [.ref nc, .int (nI ((tellL T p Lc).length)), .int (nI 0), .int (nI 0), .int (nI 0)])), (nc, .inl (cI, 48, .inl u.2.2)), (aa, .inr (0, [.ref rw, .int (nI 0)]))]) (st' := fun u => []) (fun _ => rfl) (fun _ => rfl) (fun _ => rfl) (fun u58 hu58 => ?_)
        obtain ⟨dg58, tq58, g58⟩ := u58
        obtain ⟨hD258, hT258, hg58⟩ := hu58
        have hD258 : wD dg58 (tellW T p Wc) := hD258
        have hT258 : wT tq58 (tellW T p Wc) := hT258
        have hg58 : hs g58 (tellL T p Lc) := hg58
        show XX K [(x, .inr (4, [.ref ax, .ref aw, .ref an, .ref aa, .ref a0, .ref a1, .int (nI 0), .int (nI ll), .long sd, .ref ar, .ref aq, .ref al, .ref am])), (ax, .inr (2, [.ref ta, .int (nI T.length)])), (ta, .inl (cI, 56, .inl xf)), (aw, .inr (3, [.ref wd, .ref wt, .int (nI ((tellW T p Wc).length))])), (wd, .inl (cI, 4, .inl dg58)), (wt, .inl (cI, 4, .inl tq58)), (an, .inr (1, [.ref nc, .int (nI ((tellL T p Lc).length)), .int (nI 0), .int (nI 0), .int (nI 0)])), (nc, .inl (cI, 48, .inl g58)), (aa, .inr (0, [.ref rw, .int (nI 0)]))] [(1, .int (nI p)), (0, .ref x)] 61 []
        refine x_iinc ok (v := nI (p + 1)) (lv' := [(1, .int (nI (p + 1))), (0, .ref x)]) dX4_land_61 0 rfl (nN (nI_inc _ 1) (by omega)) (by decide) rfl ?_
        refine x_goto ok 45 dX4_land_64 (by decide) ?_
        exact ih_45 (p + 1) (tellW T p Wc) (tellL T p Lc) dg58 tq58 g58 (by omega) (by first | assumption | omega) (hat.2.2) (hD258) (hT258) (hg58)
  exact L_45 _ 1 ([]) ([]) df tf f (Nat.lt_succ_self _) (hl0.1) (hl0.2) (fun w hw => absurd hw (Nat.not_lt_zero w)) (fun w hw => absurd hw (Nat.not_lt_zero w)) (fun i k hi => absurd hi (Nat.not_lt_zero i))
