set_option maxHeartbeats 4000000 in
set_option maxRecDepth 100000 in
theorem p_write0 (l : Launch) (D : va_G) (cI cZ cS : ClassId) (x : Nat) (ax : Nat) (aw : Nat) (an : Nat) (aa : Nat) (a0 : Nat) (a1 : Nat) (sk : Nat) (ll : Nat) (ar : Nat) (aq : Nat) (al : Nat) (am : Nat) (sd : Int64) (ta : Nat) (T : List Nat) (xf : Nat → Int32) (z : Int32) (hT : tx xf T) (hO : okT T) (hz : ¬ inB z (nI 0) (nI 255) = true) : CO l D (TY cI cZ cS) yX4_write cX4_write 2 (some .int) 0 0 0 0 [.ref x, .int z] [(x, .inr (4, [.ref ax, .ref aw, .ref an, .ref aa, .ref a0, .ref a1, .int (nI sk), .int (nI ll), .long sd, .ref ar, .ref aq, .ref al, .ref am])), (ax, .inr (2, [.ref ta, .int (nI T.length)])), (ta, .inl (cI, 56, .inl xf))] (σ := Unit) (fun u => some (.int (wrC T z))) (fun u => [(x, .inr (4, [.ref ax, .ref aw, .ref an, .ref aa, .ref a0, .ref a1, .int (nI sk), .int (nI ll), .long sd, .ref ar, .ref aq, .ref al, .ref am])), (ax, .inr (2, [.ref ta, .int (nI T.length)])), (ta, .inl (cI, 56, .inl xf))]) (fun u => True) := by
  refine CO_mki (by decide +kernel) (Nat.le_of_ble_eq_true rfl) (fun K ok ret => ?_)
  show XX K [(x, .inr (4, [.ref ax, .ref aw, .ref an, .ref aa, .ref a0, .ref a1, .int (nI sk), .int (nI ll), .long sd, .ref ar, .ref aq, .ref al, .ref am])), (ax, .inr (2, [.ref ta, .int (nI T.length)])), (ta, .inl (cI, 56, .inl xf))] [(0, .ref x), (1, .int z)] 0 []
  refine x_iload_n ok 1 dX4_write_0 rfl rfl ?_
  refine x_if_lt ok 11 dX4_write_1 (by decide) (fun c_1 => ?_) (fun c_1 => ?_)
  · skip
    refine x_bipush ok ((-2)) dX4_write_11 (by decide) ?_
    exact ret () _ _ _ ((-2)) dX4_write_13 (rfl) (by rw [wrC, if_neg hz]) (trivial)
  · skip
    refine x_iload_n ok 1 dX4_write_4 rfl rfl ?_
    refine x_sipush ok (nI 255) dX4_write_5 (by decide) ?_
    refine x_icmp_le ok 14 dX4_write_8 (by decide) (fun c_8 => ?_) (fun c_8 => ?_)
    · skip
      exact (hz (inB_of c_1 c_8) : False).elim
    · skip
      refine x_bipush ok ((-2)) dX4_write_11 (by decide) ?_
      exact ret () _ _ _ ((-2)) dX4_write_13 (rfl) (by rw [wrC, if_neg hz]) (trivial)

set_option maxHeartbeats 4000000 in
set_option maxRecDepth 100000 in
theorem p_write1 (l : Launch) (D : va_G) (cI cZ cS : ClassId) (x : Nat) (ax : Nat) (aw : Nat) (an : Nat) (aa : Nat) (a0 : Nat) (a1 : Nat) (sk : Nat) (ll : Nat) (ar : Nat) (aq : Nat) (al : Nat) (am : Nat) (sd : Int64) (ta : Nat) (T : List Nat) (xf : Nat → Int32) (j : Nat) (hT : tx xf T) (hO : okT T) (hj : j ≤ 255) : CO l D (TY cI cZ cS) yX4_write cX4_write 2 (some .int) 1 21 0 0 [.ref x, .int (nI j)] [(x, .inr (4, [.ref ax, .ref aw, .ref an, .ref aa, .ref a0, .ref a1, .int (nI sk), .int (nI ll), .long sd, .ref ar, .ref aq, .ref al, .ref am])), (ax, .inr (2, [.ref ta, .int (nI T.length)])), (ta, .inl (cI, 56, .inl xf))] (σ := (Nat → Int32)) (fun u => some (.int (wrC T (nI j)))) (fun u => [(x, .inr (4, [.ref ax, .ref aw, .ref an, .ref aa, .ref a0, .ref a1, .int (nI sk), .int (nI ll), .long sd, .ref ar, .ref aq, .ref al, .ref am])), (ax, .inr (2, [.ref ta, .int (nI ((appT T j).length))])), (ta, .inl (cI, 56, .inl u))]) (fun u => (tx u (appT T j))) := by
  refine CO_mki (by decide +kernel) (Nat.le_of_ble_eq_true rfl) (fun K ok ret => ?_)
  show XX K [(x, .inr (4, [.ref ax, .ref aw, .ref an, .ref aa, .ref a0, .ref a1, .int (nI sk), .int (nI ll), .long sd, .ref ar, .ref aq, .ref al, .ref am])), (ax, .inr (2, [.ref ta, .int (nI T.length)])), (ta, .inl (cI, 56, .inl xf))] [(0, .ref x), (1, .int (nI j))] 0 []
  have htl := hO.1
  have hin := inB_n (a := 0) (by omega) (Nat.zero_le j) hj
  refine x_iload_n ok 1 dX4_write_0 rfl rfl ?_
  refine x_if_ltN ok dX4_write_1 (by omega) (by decide) ?_
  refine x_iload_n ok 1 dX4_write_4 rfl rfl ?_
  refine x_sipush ok (nI 255) dX4_write_5 (by decide) ?_
  refine x_icmp_leN ok 14 dX4_write_8 (by decide) (by omega) (by omega) (fun c_8 => ?_) (fun c_8 => absurd c_8 (by omega))
  refine x_aload_n ok 0 dX4_write_14 rfl rfl ?_
  refine gX4_10 ok dX4_write_15 0 rfl rfl ?_
  refine x_iload_n ok 1 dX4_write_18 rfl rfl ?_
  refine qX4_56 ok (As := [.int (nI j)]) (st := []) 1 rfl (c2_append l D cI cZ cS ax ta T xf j (by first | assumption | omega) (by first | assumption | omega)) rfl (Nat.le_of_ble_eq_true rfl) (Nat.le_of_ble_eq_true rfl) (Nat.le_of_ble_eq_true rfl) dX4_write_19 [1, 2] (by decide) rfl (ws' := fun u => [(x, .inr (4, [.ref ax, .ref aw, .ref an, .ref aa, .ref a0, .ref a1, .int (nI sk), .int (nI ll), .long sd, .ref ar, .ref aq, .ref al, .ref am])), (ax, .inr (2, [.ref ta, .int (nI ((appT T j).length))])), (ta, .inl (cI, 56, .inl u))]) (st' := fun u => [.int (bz (decide (T.length < 56)))]) (fun _ => rfl) (fun _ => rfl) (fun _ => rfl) (fun u19 hu19 => ?_)
  obtain ⟨g19, rfl⟩ : ∃ z, z = u19 := ⟨_, rfl⟩
  have hg19 := hu19
  have hg19 : tx g19 (appT T j) := hg19
  show XX K [(x, .inr (4, [.ref ax, .ref aw, .ref an, .ref aa, .ref a0, .ref a1, .int (nI sk), .int (nI ll), .long sd, .ref ar, .ref aq, .ref al, .ref am])), (ax, .inr (2, [.ref ta, .int (nI ((appT T j).length))])), (ta, .inl (cI, 56, .inl g19))] [(0, .ref x), (1, .int (nI j))] 22 [.int (bz (decide (T.length < 56)))]
  refine x_if_eqB ok 35 dX4_write_22 (by decide) (fun c_22 => ?_) (fun c_22 => ?_)
  · skip
    refine x_bipush ok ((-4)) dX4_write_35 (by decide) ?_
    exact ret g19 _ _ _ ((-4)) dX4_write_37 (rfl) (by rw [wrC, if_pos hin]; have c := c_22; rw [decide_eq_true_eq] at c; rw [if_neg c]) (by first | assumption | omega)
  · skip
    refine x_aload_n ok 0 dX4_write_25 rfl rfl ?_
    refine gX4_10 ok dX4_write_26 0 rfl rfl ?_
    refine gX4_60 ok dX4_write_29 1 rfl rfl ?_
    refine x_goto ok 37 dX4_write_32 (by decide) ?_
    exact ret g19 _ _ _ (nI ((appT T j).length)) dX4_write_37 (rfl) (by rw [wrC, if_pos hin]; have c := c_22; rw [decide_eq_true_eq] at c; simp [c, appT]) (by first | assumption | omega)

set_option maxHeartbeats 4000000 in
set_option maxRecDepth 100000 in
theorem p_wipe (l : Launch) (D : va_G) (cI cZ cS : ClassId) (x : Nat) (ax : Nat) (aw : Nat) (an : Nat) (aa : Nat) (a0 : Nat) (a1 : Nat) (sk : Nat) (ll : Nat) (ar : Nat) (aq : Nat) (al : Nat) (am : Nat) (sd : Int64) (ta : Nat) (T : List Nat) (xf : Nat → Int32)  : CO l D (TY cI cZ cS) yX4_wipe cX4_wipe 2 (some .int) 0 0 0 0 [.ref x] [(x, .inr (4, [.ref ax, .ref aw, .ref an, .ref aa, .ref a0, .ref a1, .int (nI sk), .int (nI ll), .long sd, .ref ar, .ref aq, .ref al, .ref am])), (ax, .inr (2, [.ref ta, .int (nI T.length)])), (ta, .inl (cI, 56, .inl xf))] (σ := Unit) (fun u => some (.int (nI T.length))) (fun u => [(x, .inr (4, [.ref ax, .ref aw, .ref an, .ref aa, .ref a0, .ref a1, .int (nI sk), .int (nI ll), .long sd, .ref ar, .ref aq, .ref al, .ref am])), (ax, .inr (2, [.ref ta, .int (nI 0)])), (ta, .inl (cI, 56, .inl xf))]) (fun u => True) := by
  refine CO_mki (by decide +kernel) (Nat.le_of_ble_eq_true rfl) (fun K ok ret => ?_)
  show XX K [(x, .inr (4, [.ref ax, .ref aw, .ref an, .ref aa, .ref a0, .ref a1, .int (nI sk), .int (nI ll), .long sd, .ref ar, .ref aq, .ref al, .ref am])), (ax, .inr (2, [.ref ta, .int (nI T.length)])), (ta, .inl (cI, 56, .inl xf))] [(0, .ref x)] 0 []
  refine x_aload_n ok 0 dX4_wipe_0 rfl rfl ?_
  refine gX4_10 ok dX4_wipe_1 0 rfl rfl ?_
  refine gX4_60 ok dX4_wipe_4 1 rfl rfl ?_
  refine x_istore_n ok (lv' := [(1, .int (nI T.length)), (0, .ref x)]) dX4_wipe_7 rfl (by decide) rfl ?_
  refine x_aload_n ok 1 dX4_wipe_8 rfl rfl ?_
  refine gX4_10 ok dX4_wipe_9 0 rfl rfl ?_
  refine x_iconst ok (nI 0) dX4_wipe_12 (by decide) ?_
  refine pX4_60 ok dX4_wipe_13 1 rfl rfl rfl (Nat.le_of_ble_eq_true rfl) (ws' := [(x, .inr (4, [.ref ax, .ref aw, .ref an, .ref aa, .ref a0, .ref a1, .int (nI sk), .int (nI ll), .long sd, .ref ar, .ref aq, .ref al, .ref am])), (ax, .inr (2, [.ref ta, .int (nI 0)])), (ta, .inl (cI, 56, .inl xf))]) rfl ?_
  refine x_iload_n ok 0 dX4_wipe_16 rfl rfl ?_
  exact ret () _ _ _ (nI T.length) dX4_wipe_17 (rfl) (rfl) (trivial)

set_option maxHeartbeats 4000000 in
set_option maxRecDepth 100000 in
theorem p_fault (l : Launch) (D : va_G) (cI cZ cS : ClassId) (x : Nat) (ax : Nat) (aw : Nat) (an : Nat) (aa : Nat) (a0 : Nat) (a1 : Nat) (sk : Nat) (ll : Nat) (ar : Nat) (aq : Nat) (al : Nat) (am : Nat) (sd : Int64) (ta : Nat) (T : List Nat) (xf : Nat → Int32) (hT : tx xf T) (hO : okT T) : CO l D (TY cI cZ cS) yX4_fault cX4_fault 1 (some .int) 3 71 0 0 [.ref x] [(x, .inr (4, [.ref ax, .ref aw, .ref an, .ref aa, .ref a0, .ref a1, .int (nI sk), .int (nI ll), .long sd, .ref ar, .ref aq, .ref al, .ref am])), (ax, .inr (2, [.ref ta, .int (nI T.length)])), (ta, .inl (cI, 56, .inl xf))] (σ := Unit) (fun u => some (.int ((landP T).1))) (fun u => [(x, .inr (4, [.ref ax, .ref aw, .ref an, .ref aa, .ref a0, .ref a1, .int (nI sk), .int (nI ll), .long sd, .ref ar, .ref aq, .ref al, .ref am])), (ax, .inr (2, [.ref ta, .int (nI T.length)])), (ta, .inl (cI, 56, .inl xf))]) (fun u => True) := by
  refine CO_mki (by decide +kernel) (Nat.le_of_ble_eq_true rfl) (fun K ok ret => ?_)
  show XX K [(x, .inr (4, [.ref ax, .ref aw, .ref an, .ref aa, .ref a0, .ref a1, .int (nI sk), .int (nI ll), .long sd, .ref ar, .ref aq, .ref al, .ref am])), (ax, .inr (2, [.ref ta, .int (nI T.length)])), (ta, .inl (cI, 56, .inl xf))] [(0, .ref x)] 0 []
  refine x_aload_n ok 0 dX4_fault_0 rfl rfl ?_
  refine gX4_10 ok dX4_fault_1 0 rfl rfl ?_
  refine qX4_64 ok (As := []) (st := []) 1 rfl (c2_faultPlace l D cI cZ cS ax ta T xf (hT) (hO)) rfl (Nat.le_of_ble_eq_true rfl) (Nat.le_of_ble_eq_true rfl) (Nat.le_of_ble_eq_true rfl) dX4_fault_4 [1, 2] (by decide) rfl (ws' := fun u => [(x, .inr (4, [.ref ax, .ref aw, .ref an, .ref aa, .ref a0, .ref a1, .int (nI sk), .int (nI ll), .long sd, .ref ar, .ref aq, .ref al, .ref am])), (ax, .inr (2, [.ref ta, .int (nI T.length)])), (ta, .inl (cI, 56, .inl xf))]) (st' := fun u => [.int ((landP T).1)]) (fun _ => rfl) (fun _ => rfl) (fun _ => rfl) (fun _ _ => ?_)
  exact ret () _ _ _ ((landP T).1) dX4_fault_7 (rfl) (rfl) (trivial)

set_option maxHeartbeats 4000000 in
set_option maxRecDepth 100000 in
theorem p_about (l : Launch) (D : va_G) (cI cZ cS : ClassId) (x : Nat) (ax : Nat) (aw : Nat) (an : Nat) (aa : Nat) (a0 : Nat) (a1 : Nat) (sk : Nat) (ll : Nat) (ar : Nat) (aq : Nat) (al : Nat) (am : Nat) (sd : Int64) (ta : Nat) (nt : Nat) (wd : Nat) (wt : Nat) (W : Nat) (A : Nat) (nc : Nat) (L : List Sg) (li : Nat) (ye : Int32) (br : Int32) (f : Nat → Int32) (rw : Nat) (na : Nat) (z : Int32) (hf : hs f L) (hv : okL W A L) : CO l D (TY cI cZ cS) yX4_about cX4_about 2 (some .int) 3 66 0 0 [.ref x, .int z] [(x, .inr (4, [.ref ax, .ref aw, .ref an, .ref aa, .ref a0, .ref a1, .int (nI sk), .int (nI ll), .long sd, .ref ar, .ref aq, .ref al, .ref am])), (ax, .inr (2, [.ref ta, .int (nI nt)])), (aw, .inr (3, [.ref wd, .ref wt, .int (nI W)])), (an, .inr (1, [.ref nc, .int (nI L.length), .int (nI li), .int ye, .int br])), (nc, .inl (cI, 48, .inl f)), (aa, .inr (0, [.ref rw, .int (nI na)]))] (σ := Unit) (fun u => some (.int (aboutI W L.length ye br li ll (lawsN L) na nt z))) (fun u => [(x, .inr (4, [.ref ax, .ref aw, .ref an, .ref aa, .ref a0, .ref a1, .int (nI sk), .int (nI ll), .long sd, .ref ar, .ref aq, .ref al, .ref am])), (ax, .inr (2, [.ref ta, .int (nI nt)])), (aw, .inr (3, [.ref wd, .ref wt, .int (nI W)])), (an, .inr (1, [.ref nc, .int (nI L.length), .int (nI li), .int ye, .int br])), (nc, .inl (cI, 48, .inl f)), (aa, .inr (0, [.ref rw, .int (nI na)]))]) (fun u => True) := by
  refine CO_mki (by decide +kernel) (Nat.le_of_ble_eq_true rfl) (fun K ok ret => ?_)
  show XX K [(x, .inr (4, [.ref ax, .ref aw, .ref an, .ref aa, .ref a0, .ref a1, .int (nI sk), .int (nI ll), .long sd, .ref ar, .ref aq, .ref al, .ref am])), (ax, .inr (2, [.ref ta, .int (nI nt)])), (aw, .inr (3, [.ref wd, .ref wt, .int (nI W)])), (an, .inr (1, [.ref nc, .int (nI L.length), .int (nI li), .int ye, .int br])), (nc, .inl (cI, 48, .inl f)), (aa, .inr (0, [.ref rw, .int (nI na)]))] [(0, .ref x), (1, .int z)] 0 []
  refine x_iload_n ok 1 dX4_about_0 rfl rfl ?_
  refine x_table ok (tgts := [52, 60, 68, 76, 84, 92, 97, 105, 113]) 121 dX4_about_1 rfl rfl (by decide) (by decide) (fun c_1 => ?_) (fun j1 t1 ht1 c_1 => ?_)
  · skip
    have hd := tab9 c_1
    refine x_bipush ok ((-2)) dX4_about_121 (by decide) ?_
    exact ret () _ _ _ ((-2)) dX4_about_123 (rfl) (by simp [aboutI, hd]) (trivial)
  · skip
    rcases j1 with _ | _ | _ | _ | _ | _ | _ | _ | _ | j1
    · skip
      cases ht1
      refine x_aload_n ok 0 dX4_about_52 rfl rfl ?_
      refine gX4_19 ok dX4_about_53 0 rfl rfl ?_
      refine gX4_68 ok dX4_about_56 2 rfl rfl ?_
      exact ret () _ _ _ (nI W) dX4_about_59 (rfl) (by rw [c_1]; rfl) (trivial)
    · skip
      cases ht1
      refine x_aload_n ok 0 dX4_about_60 rfl rfl ?_
      refine gX4_26 ok dX4_about_61 0 rfl rfl ?_
      refine gX4_88 ok dX4_about_64 3 rfl rfl ?_
      exact ret () _ _ _ (nI L.length) dX4_about_67 (rfl) (by rw [c_1]; rfl) (trivial)
    · skip
      cases ht1
      refine x_aload_n ok 0 dX4_about_68 rfl rfl ?_
      refine gX4_26 ok dX4_about_69 0 rfl rfl ?_
      refine gX4_103 ok dX4_about_72 3 rfl rfl ?_
      exact ret () _ _ _ (ye) dX4_about_75 (rfl) (by rw [c_1]; rfl) (trivial)
    · skip
      cases ht1
      refine x_aload_n ok 0 dX4_about_76 rfl rfl ?_
      refine gX4_26 ok dX4_about_77 0 rfl rfl ?_
      refine gX4_106 ok dX4_about_80 3 rfl rfl ?_
      exact ret () _ _ _ (br) dX4_about_83 (rfl) (by rw [c_1]; rfl) (trivial)
    · skip
      cases ht1
      refine x_aload_n ok 0 dX4_about_84 rfl rfl ?_
      refine gX4_26 ok dX4_about_85 0 rfl rfl ?_
      refine gX4_109 ok dX4_about_88 3 rfl rfl ?_
      exact ret () _ _ _ (nI li) dX4_about_91 (rfl) (by rw [c_1]; rfl) (trivial)
    · skip
      cases ht1
      refine x_aload_n ok 0 dX4_about_92 rfl rfl ?_
      refine gX4_85 ok dX4_about_93 0 rfl rfl ?_
      exact ret () _ _ _ (nI ll) dX4_about_96 (rfl) (by rw [c_1]; rfl) (trivial)
    · skip
      cases ht1
      refine x_aload_n ok 0 dX4_about_97 rfl rfl ?_
      refine gX4_26 ok dX4_about_98 0 rfl rfl ?_
      refine qX4_82 ok (As := []) (st := []) 3 rfl (c1_lawsHad l D cI cZ cS an nc L li ye br f W A (by first | assumption | omega) (by first | assumption | omega)) rfl (Nat.le_of_ble_eq_true rfl) (Nat.le_of_ble_eq_true rfl) (Nat.le_of_ble_eq_true rfl) dX4_about_101 [3, 4] (by decide) rfl (ws' := fun u => [(x, .inr (4, [.ref ax, .ref aw, .ref an, .ref aa, .ref a0, .ref a1, .int (nI sk), .int (nI ll), .long sd, .ref ar, .ref aq, .ref al, .ref am])), (ax, .inr (2, [.ref ta, .int (nI nt)])), (aw, .inr (3, [.ref wd, .ref wt, .int (nI W)])), (an, .inr (1, [.ref nc, .int (nI L.length), .int (nI li), .int ye, .int br])), (nc, .inl (cI, 48, .inl f)), (aa, .inr (0, [.ref rw, .int (nI na)]))]) (st' := fun u => [.int (nI (lawsN L))]) (fun _ => rfl) (fun _ => rfl) (fun _ => rfl) (fun _ _ => ?_)
      exact ret () _ _ _ (nI (lawsN L)) dX4_about_104 (rfl) (by rw [c_1]; rfl) (trivial)
    · skip
      cases ht1
      refine x_aload_n ok 0 dX4_about_105 rfl rfl ?_
      refine gX4_33 ok dX4_about_106 0 rfl rfl ?_
      refine gX4_74 ok dX4_about_109 5 rfl rfl ?_
      exact ret () _ _ _ (nI na) dX4_about_112 (rfl) (by rw [c_1]; rfl) (trivial)
    · skip
      cases ht1
      refine x_aload_n ok 0 dX4_about_113 rfl rfl ?_
      refine gX4_10 ok dX4_about_114 0 rfl rfl ?_
      refine gX4_60 ok dX4_about_117 1 rfl rfl ?_
      exact ret () _ _ _ (nI nt) dX4_about_120 (rfl) (by rw [c_1]; rfl) (trivial)
    · skip
      cases ht1

set_option maxHeartbeats 4000000 in
set_option maxRecDepth 100000 in
theorem p_well (l : Launch) (D : va_G) (cI cZ cS : ClassId) (x : Nat) (ax : Nat) (aw : Nat) (an : Nat) (aa : Nat) (a0 : Nat) (a1 : Nat) (sk : Nat) (ll : Nat) (ar : Nat) (aq : Nat) (al : Nat) (am : Nat) (sd : Int64) (wd : Nat) (wt : Nat) (W : Nat) (df : Nat → Int32) (tf : Nat → Int32) (dp : Nat → Nat) (st : Nat → Nat) (A : Nat) (nc : Nat) (L : List Sg) (li : Nat) (ye : Int32) (br : Int32) (f : Nat → Int32) (w : Int32) (z : Int32) (hf : hs f L) (hv : okL W A L) (hW : W ≤ 4) (hdp : ∀ w, w < W → df w = nI (dp w)) (hdp2 : ∀ w, w < W → 1 ≤ dp w ∧ dp w ≤ 9) (hst : ∀ w, w < W → tf w = nI (st w)) (hst2 : ∀ w, w < W → st w ≤ 2) (hl : li < 256) : CO l D (TY cI cZ cS) yX4_well cX4_well 3 (some .int) 2 46 0 0 [.ref x, .int w, .int z] [(x, .inr (4, [.ref ax, .ref aw, .ref an, .ref aa, .ref a0, .ref a1, .int (nI sk), .int (nI ll), .long sd, .ref ar, .ref aq, .ref al, .ref am])), (aw, .inr (3, [.ref wd, .ref wt, .int (nI W)])), (wd, .inl (cI, 4, .inl df)), (wt, .inl (cI, 4, .inl tf)), (an, .inr (1, [.ref nc, .int (nI L.length), .int (nI li), .int ye, .int br])), (nc, .inl (cI, 48, .inl f))] (σ := Unit) (fun u => some (.int (wellI W dp st li L w z))) (fun u => [(x, .inr (4, [.ref ax, .ref aw, .ref an, .ref aa, .ref a0, .ref a1, .int (nI sk), .int (nI ll), .long sd, .ref ar, .ref aq, .ref al, .ref am])), (aw, .inr (3, [.ref wd, .ref wt, .int (nI W)])), (wd, .inl (cI, 4, .inl df)), (wt, .inl (cI, 4, .inl tf)), (an, .inr (1, [.ref nc, .int (nI L.length), .int (nI li), .int ye, .int br])), (nc, .inl (cI, 48, .inl f))]) (fun u => True) := by
  refine CO_mki (by decide +kernel) (Nat.le_of_ble_eq_true rfl) (fun K ok ret => ?_)
  show XX K [(x, .inr (4, [.ref ax, .ref aw, .ref an, .ref aa, .ref a0, .ref a1, .int (nI sk), .int (nI ll), .long sd, .ref ar, .ref aq, .ref al, .ref am])), (aw, .inr (3, [.ref wd, .ref wt, .int (nI W)])), (wd, .inl (cI, 4, .inl df)), (wt, .inl (cI, 4, .inl tf)), (an, .inr (1, [.ref nc, .int (nI L.length), .int (nI li), .int ye, .int br])), (nc, .inl (cI, 48, .inl f))] [(0, .ref x), (1, .int w), (2, .int z)] 0 []
  have h8 := hv.1
  refine x_aload_n ok 0 dX4_well_0 rfl rfl ?_
  refine gX4_19 ok dX4_well_1 0 rfl rfl ?_
  refine x_iload_n ok 1 dX4_well_4 rfl rfl ?_
  refine qX4_112 ok (As := [.int w]) (st := []) 1 rfl (c3_has l D cI cZ cS aw wd wt W w ) rfl (Nat.le_of_ble_eq_true rfl) (Nat.le_of_ble_eq_true rfl) (Nat.le_of_ble_eq_true rfl) dX4_well_5 [1] (by decide) rfl (ws' := fun u => [(x, .inr (4, [.ref ax, .ref aw, .ref an, .ref aa, .ref a0, .ref a1, .int (nI sk), .int (nI ll), .long sd, .ref ar, .ref aq, .ref al, .ref am])), (aw, .inr (3, [.ref wd, .ref wt, .int (nI W)])), (wd, .inl (cI, 4, .inl df)), (wt, .inl (cI, 4, .inl tf)), (an, .inr (1, [.ref nc, .int (nI L.length), .int (nI li), .int ye, .int br])), (nc, .inl (cI, 48, .inl f))]) (st' := fun u => [.int (bz (hasB w W))]) (fun _ => rfl) (fun _ => rfl) (fun _ => rfl) (fun _ _ => ?_)
  refine x_if_neB ok 13 dX4_well_8 (by decide) (fun c_8 => ?_) (fun c_8 => ?_)
  · skip
    obtain ⟨j, hj, e_w⟩ := hasB_t (by omega) c_8
    subst e_w
    have ej := cl_n (show j < 2 ^ 31 by omega)
    refine x_iload_n ok 2 dX4_well_13 rfl rfl ?_
    refine x_table ok (tgts := [44, 53, 62, 79]) 88 dX4_well_14 rfl rfl (by decide) (by decide) (fun c_14 => ?_) (fun j14 t14 ht14 c_14 => ?_)
    · skip
      have hd := tab4 c_14
      refine x_bipush ok ((-2)) dX4_well_88 (by decide) ?_
      exact ret () _ _ _ ((-2)) dX4_well_90 (rfl) (by rw [wellI, if_pos c_8]; simp [hd]) (trivial)
    · skip
      rcases j14 with _ | _ | _ | _ | j14
      · skip
        cases ht14
        refine x_aload_n ok 0 dX4_well_44 rfl rfl ?_
        refine gX4_19 ok dX4_well_45 0 rfl rfl ?_
        refine x_iload_n ok 1 dX4_well_48 rfl rfl ?_
        refine qX4_115 ok (As := [.int (nI j)]) (st := []) 1 rfl (c3_depthOf l D cI cZ cS aw wd wt W df j (by first | assumption | omega)) rfl (Nat.le_of_ble_eq_true rfl) (Nat.le_of_ble_eq_true rfl) (Nat.le_of_ble_eq_true rfl) dX4_well_49 [1, 2] (by decide) rfl (ws' := fun u => [(x, .inr (4, [.ref ax, .ref aw, .ref an, .ref aa, .ref a0, .ref a1, .int (nI sk), .int (nI ll), .long sd, .ref ar, .ref aq, .ref al, .ref am])), (aw, .inr (3, [.ref wd, .ref wt, .int (nI W)])), (wd, .inl (cI, 4, .inl df)), (wt, .inl (cI, 4, .inl tf)), (an, .inr (1, [.ref nc, .int (nI L.length), .int (nI li), .int ye, .int br])), (nc, .inl (cI, 48, .inl f))]) (st' := fun u => [.int (df j)]) (fun _ => rfl) (fun _ => rfl) (fun _ => rfl) (fun _ _ => ?_)
        refine x_eq (st' := [.int (nI (dp j))]) rfl rfl (by rw [hdp j hj]) ?_
        exact ret () _ _ _ (nI (dp j)) dX4_well_52 (rfl) (by rw [wellI, if_pos c_8, c_14, ej]; rfl) (trivial)
      · skip
        cases ht14
        refine x_aload_n ok 0 dX4_well_53 rfl rfl ?_
        refine gX4_19 ok dX4_well_54 0 rfl rfl ?_
        refine x_iload_n ok 1 dX4_well_57 rfl rfl ?_
        refine qX4_118 ok (As := [.int (nI j)]) (st := []) 1 rfl (c3_stoneOf l D cI cZ cS aw wd wt W tf j (by first | assumption | omega)) rfl (Nat.le_of_ble_eq_true rfl) (Nat.le_of_ble_eq_true rfl) (Nat.le_of_ble_eq_true rfl) dX4_well_58 [1, 3] (by decide) rfl (ws' := fun u => [(x, .inr (4, [.ref ax, .ref aw, .ref an, .ref aa, .ref a0, .ref a1, .int (nI sk), .int (nI ll), .long sd, .ref ar, .ref aq, .ref al, .ref am])), (aw, .inr (3, [.ref wd, .ref wt, .int (nI W)])), (wd, .inl (cI, 4, .inl df)), (wt, .inl (cI, 4, .inl tf)), (an, .inr (1, [.ref nc, .int (nI L.length), .int (nI li), .int ye, .int br])), (nc, .inl (cI, 48, .inl f))]) (st' := fun u => [.int (tf j)]) (fun _ => rfl) (fun _ => rfl) (fun _ => rfl) (fun _ _ => ?_)
        refine x_eq (st' := [.int (nI (st j))]) rfl rfl (by rw [hst j hj]) ?_
        exact ret () _ _ _ (nI (st j)) dX4_well_61 (rfl) (by rw [wellI, if_pos c_8, c_14, ej]; rfl) (trivial)
      · skip
        cases ht14
        refine x_aload_n ok 0 dX4_well_62 rfl rfl ?_
        refine gX4_26 ok dX4_well_63 0 rfl rfl ?_
        refine x_iload_n ok 1 dX4_well_66 rfl rfl ?_
        refine qX4_121 ok (As := [.int (nI j)]) (st := []) 4 rfl (c1_hasLid l D cI cZ cS an nc L.length li ye br j (by first | assumption | omega) (by first | assumption | omega)) rfl (Nat.le_of_ble_eq_true rfl) (Nat.le_of_ble_eq_true rfl) (Nat.le_of_ble_eq_true rfl) dX4_well_67 [4] (by decide) rfl (ws' := fun u => [(x, .inr (4, [.ref ax, .ref aw, .ref an, .ref aa, .ref a0, .ref a1, .int (nI sk), .int (nI ll), .long sd, .ref ar, .ref aq, .ref al, .ref am])), (aw, .inr (3, [.ref wd, .ref wt, .int (nI W)])), (wd, .inl (cI, 4, .inl df)), (wt, .inl (cI, 4, .inl tf)), (an, .inr (1, [.ref nc, .int (nI L.length), .int (nI li), .int ye, .int br])), (nc, .inl (cI, 48, .inl f))]) (st' := fun u => [.int (bz (li.testBit j))]) (fun _ => rfl) (fun _ => rfl) (fun _ => rfl) (fun _ _ => ?_)
        refine x_if_eqB ok 77 dX4_well_70 (by decide) (fun c_70 => ?_) (fun c_70 => ?_)
        · skip
          refine x_iconst ok (nI 0) dX4_well_77 (by decide) ?_
          exact ret () _ _ _ (nI 0) dX4_well_78 (rfl) (by rw [wellI, if_pos c_8, c_14, ej, if_neg (by decide), if_neg (by decide), if_pos rfl]; simp [c_70]) (trivial)
        · skip
          refine x_iconst ok (nI 1) dX4_well_73 (by decide) ?_
          refine x_goto ok 78 dX4_well_74 (by decide) ?_
          exact ret () _ _ _ (nI 1) dX4_well_78 (rfl) (by rw [wellI, if_pos c_8, c_14, ej, if_neg (by decide), if_neg (by decide), if_pos rfl]; simp [c_70]) (trivial)
      · skip
        cases ht14
        refine x_aload_n ok 0 dX4_well_79 rfl rfl ?_
        refine gX4_26 ok dX4_well_80 0 rfl rfl ?_
        refine x_iload_n ok 1 dX4_well_83 rfl rfl ?_
        refine qX4_124 ok (As := [.int (nI j)]) (st := []) 4 rfl (c1_songsIn l D cI cZ cS an nc L li ye br f W A j (by first | assumption | omega) (by first | assumption | omega) (by first | assumption | omega) (by first | assumption | omega)) rfl (Nat.le_of_ble_eq_true rfl) (Nat.le_of_ble_eq_true rfl) (Nat.le_of_ble_eq_true rfl) dX4_well_84 [4, 5] (by decide) rfl (ws' := fun u => [(x, .inr (4, [.ref ax, .ref aw, .ref an, .ref aa, .ref a0, .ref a1, .int (nI sk), .int (nI ll), .long sd, .ref ar, .ref aq, .ref al, .ref am])), (aw, .inr (3, [.ref wd, .ref wt, .int (nI W)])), (wd, .inl (cI, 4, .inl df)), (wt, .inl (cI, 4, .inl tf)), (an, .inr (1, [.ref nc, .int (nI L.length), .int (nI li), .int ye, .int br])), (nc, .inl (cI, 48, .inl f))]) (st' := fun u => [.int (nI (orN (sing1 L j) L.length))]) (fun _ => rfl) (fun _ => rfl) (fun _ => rfl) (fun _ _ => ?_)
        exact ret () _ _ _ (nI (orN (sing1 L j) L.length)) dX4_well_87 (rfl) (by rw [wellI, if_pos c_8, c_14, ej]; rfl) (trivial)
      · skip
        cases ht14
  · skip
    refine x_iconst ok ((-1)) dX4_well_11 (by decide) ?_
    exact ret () _ _ _ ((-1)) dX4_well_12 (rfl) (by rw [wellI, if_neg c_8]) (trivial)

set_option maxHeartbeats 4000000 in
set_option maxRecDepth 100000 in
theorem p_song (l : Launch) (D : va_G) (cI cZ cS : ClassId) (x : Nat) (ax : Nat) (aw : Nat) (an : Nat) (aa : Nat) (a0 : Nat) (a1 : Nat) (sk : Nat) (ll : Nat) (ar : Nat) (aq : Nat) (al : Nat) (am : Nat) (sd : Int64) (nc : Nat) (L : List Sg) (li : Nat) (ye : Int32) (br : Int32) (f : Nat → Int32) (W : Nat) (A : Nat) (s : Int32) (z : Int32) (hf : hs f L) (hv : okL W A L) : CO l D (TY cI cZ cS) yX4_song cX4_song 3 (some .int) 1 23 0 0 [.ref x, .int s, .int z] [(x, .inr (4, [.ref ax, .ref aw, .ref an, .ref aa, .ref a0, .ref a1, .int (nI sk), .int (nI ll), .long sd, .ref ar, .ref aq, .ref al, .ref am])), (an, .inr (1, [.ref nc, .int (nI L.length), .int (nI li), .int ye, .int br])), (nc, .inl (cI, 48, .inl f))] (σ := Unit) (fun u => some (.int (songI L s z))) (fun u => [(x, .inr (4, [.ref ax, .ref aw, .ref an, .ref aa, .ref a0, .ref a1, .int (nI sk), .int (nI ll), .long sd, .ref ar, .ref aq, .ref al, .ref am])), (an, .inr (1, [.ref nc, .int (nI L.length), .int (nI li), .int ye, .int br])), (nc, .inl (cI, 48, .inl f))]) (fun u => True) := by
  refine CO_mki (by decide +kernel) (Nat.le_of_ble_eq_true rfl) (fun K ok ret => ?_)
  show XX K [(x, .inr (4, [.ref ax, .ref aw, .ref an, .ref aa, .ref a0, .ref a1, .int (nI sk), .int (nI ll), .long sd, .ref ar, .ref aq, .ref al, .ref am])), (an, .inr (1, [.ref nc, .int (nI L.length), .int (nI li), .int ye, .int br])), (nc, .inl (cI, 48, .inl f))] [(0, .ref x), (1, .int s), (2, .int z)] 0 []
  have h8 := hv.1
  refine x_aload_n ok 0 dX4_song_0 rfl rfl ?_
  refine gX4_26 ok dX4_song_1 0 rfl rfl ?_
  refine x_iload_n ok 1 dX4_song_4 rfl rfl ?_
  refine qX4_127 ok (As := [.int s]) (st := []) 1 rfl (c1_has l D cI cZ cS an nc L.length li ye br s ) rfl (Nat.le_of_ble_eq_true rfl) (Nat.le_of_ble_eq_true rfl) (Nat.le_of_ble_eq_true rfl) dX4_song_5 [1] (by decide) rfl (ws' := fun u => [(x, .inr (4, [.ref ax, .ref aw, .ref an, .ref aa, .ref a0, .ref a1, .int (nI sk), .int (nI ll), .long sd, .ref ar, .ref aq, .ref al, .ref am])), (an, .inr (1, [.ref nc, .int (nI L.length), .int (nI li), .int ye, .int br])), (nc, .inl (cI, 48, .inl f))]) (st' := fun u => [.int (bz (hasB s L.length))]) (fun _ => rfl) (fun _ => rfl) (fun _ => rfl) (fun _ _ => ?_)
  refine x_if_neB ok 13 dX4_song_8 (by decide) (fun c_8 => ?_) (fun c_8 => ?_)
  · skip
    obtain ⟨j, hj, e_s⟩ := hasB_t (by omega) c_8
    subst e_s
    have ej := cl_n (show j < 2 ^ 31 by omega)
    refine x_iload_n ok 2 dX4_song_13 rfl rfl ?_
    refine x_iconst ok (nI 0) dX4_song_14 (by decide) ?_
    refine x_iconst ok (nI 5) dX4_song_15 (by decide) ?_
    refine qX4_128 ok (As := [.int z, .int (nI 0), .int (nI 5)]) (st := []) (c4_isWithin l D cI cZ cS z (nI 0) (nI 5) ) rfl (Nat.le_of_ble_eq_true rfl) (Nat.le_of_ble_eq_true rfl) (Nat.le_of_ble_eq_true rfl) dX4_song_16 [] (by decide) rfl (ws' := fun u => [(x, .inr (4, [.ref ax, .ref aw, .ref an, .ref aa, .ref a0, .ref a1, .int (nI sk), .int (nI ll), .long sd, .ref ar, .ref aq, .ref al, .ref am])), (an, .inr (1, [.ref nc, .int (nI L.length), .int (nI li), .int ye, .int br])), (nc, .inl (cI, 48, .inl f))]) (st' := fun u => [.int (bz (inB z (nI 0) (nI 5)))]) (fun _ => rfl) (fun _ => rfl) (fun _ => rfl) (fun _ _ => ?_)
    refine x_if_eqB ok 34 dX4_song_19 (by decide) (fun c_19 => ?_) (fun c_19 => ?_)
    · skip
      refine x_bipush ok ((-2)) dX4_song_34 (by decide) ?_
      exact ret () _ _ _ ((-2)) dX4_song_36 (rfl) (by rw [songI, if_pos c_8, if_neg c_19]) (trivial)
    · skip
      obtain ⟨k, hk0, hk, e_z⟩ := inB_t (by omega) (by omega) c_19
      subst e_z
      have ek := cl_n (show k < 2 ^ 31 by omega)
      refine x_aload_n ok 0 dX4_song_22 rfl rfl ?_
      refine gX4_26 ok dX4_song_23 0 rfl rfl ?_
      refine x_iload_n ok 1 dX4_song_26 rfl rfl ?_
      refine x_iload_n ok 2 dX4_song_27 rfl rfl ?_
      refine qX4_132 ok (As := [.int (nI j), .int (nI k)]) (st := []) 1 rfl (c1_getL l D cI cZ cS an nc L li ye br f j k (by first | assumption | omega) (by first | assumption | omega) (by first | assumption | omega) (by first | assumption | omega)) rfl (Nat.le_of_ble_eq_true rfl) (Nat.le_of_ble_eq_true rfl) (Nat.le_of_ble_eq_true rfl) dX4_song_28 [1, 2] (by decide) rfl (ws' := fun u => [(x, .inr (4, [.ref ax, .ref aw, .ref an, .ref aa, .ref a0, .ref a1, .int (nI sk), .int (nI ll), .long sd, .ref ar, .ref aq, .ref al, .ref am])), (an, .inr (1, [.ref nc, .int (nI L.length), .int (nI li), .int ye, .int br])), (nc, .inl (cI, 48, .inl f))]) (st' := fun u => [.int (nI (sg L j k))]) (fun _ => rfl) (fun _ => rfl) (fun _ => rfl) (fun _ _ => ?_)
      refine x_goto ok 36 dX4_song_31 (by decide) ?_
      exact ret () _ _ _ (nI (sg L j k)) dX4_song_36 (rfl) (by rw [songI, if_pos c_8, if_pos c_19, ej, ek]) (trivial)
  · skip
    refine x_iconst ok ((-1)) dX4_song_11 (by decide) ?_
    exact ret () _ _ _ ((-1)) dX4_song_12 (rfl) (by rw [songI, if_neg c_8]) (trivial)

set_option maxHeartbeats 4000000 in
set_option maxRecDepth 100000 in
theorem p_heard (l : Launch) (D : va_G) (cI cZ cS : ClassId) (x : Nat) (ax : Nat) (aw : Nat) (an : Nat) (aa : Nat) (a0 : Nat) (a1 : Nat) (sk : Nat) (ll : Nat) (ar : Nat) (aq : Nat) (al : Nat) (am : Nat) (sd : Int64) (wd : Nat) (wt : Nat) (W : Nat) (df : Nat → Int32) (tf : Nat → Int32) (dp : Nat → Nat) (st : Nat → Nat) (A : Nat) (nc : Nat) (L : List Sg) (li : Nat) (ye : Int32) (br : Int32) (f : Nat → Int32) (w : Int32) (z : Int32) (noon : Bool) (hf : hs f L) (hv : okL W A L) (hW : W ≤ 4) (hdp : ∀ w, w < W → df w = nI (dp w)) (hdp2 : ∀ w, w < W → 1 ≤ dp w ∧ dp w ≤ 9) (hl : li < 256) (hA : A < 1000000) : CO l D (TY cI cZ cS) yX4_heard cX4_heard 4 (some .int) 2 52 0 0 [.ref x, .int w, .int z, .int (bz noon)] [(x, .inr (4, [.ref ax, .ref aw, .ref an, .ref aa, .ref a0, .ref a1, .int (nI sk), .int (nI ll), .long sd, .ref ar, .ref aq, .ref al, .ref am])), (aw, .inr (3, [.ref wd, .ref wt, .int (nI W)])), (wd, .inl (cI, 4, .inl df)), (an, .inr (1, [.ref nc, .int (nI L.length), .int (nI li), .int ye, .int br])), (nc, .inl (cI, 48, .inl f))] (σ := Unit) (fun u => some (.int (heardI W dp li L w z noon))) (fun u => [(x, .inr (4, [.ref ax, .ref aw, .ref an, .ref aa, .ref a0, .ref a1, .int (nI sk), .int (nI ll), .long sd, .ref ar, .ref aq, .ref al, .ref am])), (aw, .inr (3, [.ref wd, .ref wt, .int (nI W)])), (wd, .inl (cI, 4, .inl df)), (an, .inr (1, [.ref nc, .int (nI L.length), .int (nI li), .int ye, .int br])), (nc, .inl (cI, 48, .inl f))]) (fun u => True) := by
  refine CO_mki (by decide +kernel) (Nat.le_of_ble_eq_true rfl) (fun K ok ret => ?_)
  show XX K [(x, .inr (4, [.ref ax, .ref aw, .ref an, .ref aa, .ref a0, .ref a1, .int (nI sk), .int (nI ll), .long sd, .ref ar, .ref aq, .ref al, .ref am])), (aw, .inr (3, [.ref wd, .ref wt, .int (nI W)])), (wd, .inl (cI, 4, .inl df)), (an, .inr (1, [.ref nc, .int (nI L.length), .int (nI li), .int ye, .int br])), (nc, .inl (cI, 48, .inl f))] [(0, .ref x), (1, .int w), (2, .int z), (3, .int (bz noon))] 0 []
  refine x_aload_n ok 0 dX4_heard_0 rfl rfl ?_
  refine gX4_19 ok dX4_heard_1 0 rfl rfl ?_
  refine x_iload_n ok 1 dX4_heard_4 rfl rfl ?_
  refine qX4_112 ok (As := [.int w]) (st := []) 1 rfl (c3_has l D cI cZ cS aw wd wt W w ) rfl (Nat.le_of_ble_eq_true rfl) (Nat.le_of_ble_eq_true rfl) (Nat.le_of_ble_eq_true rfl) dX4_heard_5 [1] (by decide) rfl (ws' := fun u => [(x, .inr (4, [.ref ax, .ref aw, .ref an, .ref aa, .ref a0, .ref a1, .int (nI sk), .int (nI ll), .long sd, .ref ar, .ref aq, .ref al, .ref am])), (aw, .inr (3, [.ref wd, .ref wt, .int (nI W)])), (wd, .inl (cI, 4, .inl df)), (an, .inr (1, [.ref nc, .int (nI L.length), .int (nI li), .int ye, .int br])), (nc, .inl (cI, 48, .inl f))]) (st' := fun u => [.int (bz (hasB w W))]) (fun _ => rfl) (fun _ => rfl) (fun _ => rfl) (fun _ _ => ?_)
  refine x_if_neB ok 13 dX4_heard_8 (by decide) (fun c_8 => ?_) (fun c_8 => ?_)
  · skip
    obtain ⟨j, hj, e_w⟩ := hasB_t (by omega) c_8
    subst e_w
    have ej := cl_n (show j < 2 ^ 31 by omega)
    refine x_iload_n ok 2 dX4_heard_13 rfl rfl ?_
    refine x_iconst ok (nI 0) dX4_heard_14 (by decide) ?_
    refine x_bipush ok (nI 9) dX4_heard_15 (by decide) ?_
    refine qX4_128 ok (As := [.int z, .int (nI 0), .int (nI 9)]) (st := []) (c4_isWithin l D cI cZ cS z (nI 0) (nI 9) ) rfl (Nat.le_of_ble_eq_true rfl) (Nat.le_of_ble_eq_true rfl) (Nat.le_of_ble_eq_true rfl) dX4_heard_17 [] (by decide) rfl (ws' := fun u => [(x, .inr (4, [.ref ax, .ref aw, .ref an, .ref aa, .ref a0, .ref a1, .int (nI sk), .int (nI ll), .long sd, .ref ar, .ref aq, .ref al, .ref am])), (aw, .inr (3, [.ref wd, .ref wt, .int (nI W)])), (wd, .inl (cI, 4, .inl df)), (an, .inr (1, [.ref nc, .int (nI L.length), .int (nI li), .int ye, .int br])), (nc, .inl (cI, 48, .inl f))]) (st' := fun u => [.int (bz (inB z (nI 0) (nI 9)))]) (fun _ => rfl) (fun _ => rfl) (fun _ => rfl) (fun _ _ => ?_)
    refine x_if_eqB ok 33 dX4_heard_20 (by decide) (fun c_20 => ?_) (fun c_20 => ?_)
    · skip
      refine x_bipush ok ((-2)) dX4_heard_33 (by decide) ?_
      exact ret () _ _ _ ((-2)) dX4_heard_35 (rfl) (by rw [heardI, if_pos c_8, if_neg c_20]) (trivial)
    · skip
      obtain ⟨k, hk0, hk, e_z⟩ := inB_t (by omega) (by omega) c_20
      subst e_z
      have ek := cl_n (show k < 2 ^ 31 by omega)
      refine x_aload_n ok 0 dX4_heard_23 rfl rfl ?_
      refine x_iload_n ok 1 dX4_heard_24 rfl rfl ?_
      refine x_iload_n ok 2 dX4_heard_25 rfl rfl ?_
      refine x_iload_n ok 3 dX4_heard_26 rfl rfl ?_
      refine qX4_156 ok (As := [.int (nI j), .int (nI k), .int (bz noon)]) (st := []) 0 rfl (c4_heardBy l D cI cZ cS x ax aw an aa a0 a1 sk ll ar aq al am sd wd wt W df tf dp st A nc L li ye br f j k noon (by first | assumption | omega) (by first | assumption | omega) (by first | assumption | omega) (by first | assumption | omega) (by first | assumption | omega) (by first | assumption | omega) (by first | assumption | omega) (by first | assumption | omega) (by first | assumption | omega)) rfl (Nat.le_of_ble_eq_true rfl) (Nat.le_of_ble_eq_true rfl) (Nat.le_of_ble_eq_true rfl) dX4_heard_27 [0, 1, 2, 3, 4] (by decide) rfl (ws' := fun u => [(x, .inr (4, [.ref ax, .ref aw, .ref an, .ref aa, .ref a0, .ref a1, .int (nI sk), .int (nI ll), .long sd, .ref ar, .ref aq, .ref al, .ref am])), (aw, .inr (3, [.ref wd, .ref wt, .int (nI W)])), (wd, .inl (cI, 4, .inl df)), (an, .inr (1, [.ref nc, .int (nI L.length), .int (nI li), .int ye, .int br])), (nc, .inl (cI, 48, .inl f))]) (st' := fun u => [.int (nI (heardN L li (dp j) noon j k))]) (fun _ => rfl) (fun _ => rfl) (fun _ => rfl) (fun _ _ => ?_)
      refine x_goto ok 35 dX4_heard_30 (by decide) ?_
      exact ret () _ _ _ (nI (heardN L li (dp j) noon j k)) dX4_heard_35 (rfl) (by rw [heardI, if_pos c_8, if_pos c_20, ej, ek]) (trivial)
  · skip
    refine x_iconst ok ((-1)) dX4_heard_11 (by decide) ?_
    exact ret () _ _ _ ((-1)) dX4_heard_12 (rfl) (by rw [heardI, if_neg c_8]) (trivial)
