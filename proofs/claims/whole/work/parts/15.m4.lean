set_option maxHeartbeats 4000000 in
set_option maxRecDepth 100000 in
theorem c2_append (l : Launch) (D : va_G) (cI cZ cS : ClassId) (t : Nat) (a : Nat) (T : List Nat) (f : Nat → Int32) (x : Nat) (hT : tx f T) (htl : T.length ≤ 56) : CO l D (TY cI cZ cS) yX2_append cX2_append 2 (some .boolean) 0 0 0 0 [.ref t, .int (nI x)] [(t, .inr (2, [.ref a, .int (nI T.length)])), (a, .inl (cI, 56, .inl f))] (σ := (Nat → Int32)) (fun u => some (.int (bz (decide (T.length < 56))))) (fun u => [(t, .inr (2, [.ref a, .int (nI ((appT T x).length))])), (a, .inl (cI, 56, .inl u))]) (fun u => (tx u (appT T x))) := by
  refine CO_mkz (by decide +kernel) (Nat.le_of_ble_eq_true rfl) (fun K ok ret => ?_)
  show XX K [(t, .inr (2, [.ref a, .int (nI T.length)])), (a, .inl (cI, 56, .inl f))] [(0, .ref t), (1, .int (nI x))] 0 []
  refine x_aload_n ok 0 dX2_append_0 rfl rfl ?_
  refine gX2_15 ok dX2_append_1 0 rfl rfl ?_
  refine x_if_ltN ok dX2_append_4 (by omega) (by decide) ?_
  refine x_aload_n ok 0 dX2_append_7 rfl rfl ?_
  refine gX2_15 ok dX2_append_8 0 rfl rfl ?_
  refine x_aload_n ok 0 dX2_append_11 rfl rfl ?_
  refine gX2_9 ok dX2_append_12 0 rfl rfl ?_
  refine x_alen ok 1 0 (nI 56) dX2_append_15 rfl rfl rfl ?_
  refine x_icmp_ltN ok 21 dX2_append_16 (by decide) (by omega) (by omega) (fun c_16 => ?_) (fun c_16 => ?_)
  · skip
    refine x_aload_n ok 0 dX2_append_21 rfl rfl ?_
    refine gX2_9 ok dX2_append_22 0 rfl rfl ?_
    refine x_aload_n ok 0 dX2_append_25 rfl rfl ?_
    refine gX2_15 ok dX2_append_26 0 rfl rfl ?_
    refine x_iload_n ok 1 dX2_append_29 rfl rfl ?_
    refine x_iast ok 1 0 T.length (ws' := [(t, .inr (2, [.ref a, .int (nI T.length)])), (a, .inl (cI, 56, .inl (upd f T.length (nI x))))]) dX2_append_30 rfl rfl (rfl) (by omega) (by decide) (rfl) rfl ?_
    refine x_aload_n ok 0 dX2_append_31 rfl rfl ?_
    refine x_dup ok dX2_append_32 rfl ?_
    refine gX2_15 ok dX2_append_33 0 rfl rfl ?_
    refine x_iconst ok (nI 1) dX2_append_36 (by decide) ?_
    refine x_iadd ok (nI (T.length + 1)) dX2_append_37 (nN (nI_add _ _) (by omega)) ?_
    refine x_eq (st' := [.int (nI ((appT T x).length)), .ref t]) rfl rfl (by rw [appT, if_pos c_16]; simp) ?_
    refine pX2_15 ok dX2_append_38 0 rfl rfl rfl (Nat.le_of_ble_eq_true rfl) (ws' := [(t, .inr (2, [.ref a, .int (nI ((appT T x).length))])), (a, .inl (cI, 56, .inl (upd f T.length (nI x))))]) rfl ?_
    refine x_iconst ok (nI 1) dX2_append_41 (by decide) ?_
    exact ret (upd f T.length (nI x)) _ _ _ (true) dX2_append_42 (rfl) (by simp [c_16]) (tx_app hT c_16)
  · skip
    rw [show T.length = (appT T x).length from by rw [appT, if_neg c_16]]
    refine x_iconst ok (nI 0) dX2_append_19 (by decide) ?_
    exact ret f _ _ _ (false) dX2_append_20 (rfl) (by simp [c_16]) (tx_app2 hT c_16)

set_option maxHeartbeats 4000000 in
set_option maxRecDepth 100000 in
theorem c2_letterAt (l : Launch) (D : va_G) (cI cZ cS : ClassId) (t : Nat) (a : Nat) (T : List Nat) (f : Nat → Int32) (p : Nat) (hT : tx f T) (htl : T.length ≤ 56) (hp : p < T.length) : CO l D (TY cI cZ cS) yX2_letterAt cX2_letterAt 2 (some .int) 0 0 0 0 [.ref t, .int (nI p)] [(t, .inr (2, [.ref a, .int (nI T.length)])), (a, .inl (cI, 56, .inl f))] (σ := Unit) (fun u => some (.int (nI (tg T p)))) (fun u => [(t, .inr (2, [.ref a, .int (nI T.length)])), (a, .inl (cI, 56, .inl f))]) (fun u => True) := by
  refine CO_mki (by decide +kernel) (Nat.le_of_ble_eq_true rfl) (fun K ok ret => ?_)
  show XX K [(t, .inr (2, [.ref a, .int (nI T.length)])), (a, .inl (cI, 56, .inl f))] [(0, .ref t), (1, .int (nI p))] 0 []
  refine x_iload_n ok 1 dX2_letterAt_0 rfl rfl ?_
  refine x_if_ltN ok dX2_letterAt_1 (by omega) (by decide) ?_
  refine x_iload_n ok 1 dX2_letterAt_4 rfl rfl ?_
  refine x_aload_n ok 0 dX2_letterAt_5 rfl rfl ?_
  refine gX2_15 ok dX2_letterAt_6 0 rfl rfl ?_
  refine x_icmp_geN ok 30 dX2_letterAt_9 (by decide) (by omega) (by omega) (fun c_9 => absurd c_9 (by omega)) (fun c_9 => ?_)
  refine x_iload_n ok 1 dX2_letterAt_12 rfl rfl ?_
  refine x_aload_n ok 0 dX2_letterAt_13 rfl rfl ?_
  refine gX2_9 ok dX2_letterAt_14 0 rfl rfl ?_
  refine x_alen ok 1 0 (nI 56) dX2_letterAt_17 rfl rfl rfl ?_
  refine x_icmp_geN ok 30 dX2_letterAt_18 (by decide) (by omega) (by omega) (fun c_18 => absurd c_18 (by omega)) (fun c_18 => ?_)
  refine x_aload_n ok 0 dX2_letterAt_21 rfl rfl ?_
  refine gX2_9 ok dX2_letterAt_22 0 rfl rfl ?_
  refine x_iload_n ok 1 dX2_letterAt_25 rfl rfl ?_
  refine x_iald ok 1 0 p dX2_letterAt_26 rfl rfl (rfl) (by omega) (by decide) ((f p)) (rfl) ?_
  refine x_eq (st' := [.int (nI (tg T p))]) rfl rfl (by rw [hT p hp]) ?_
  refine x_goto ok 32 dX2_letterAt_27 (by decide) ?_
  exact ret () _ _ _ (nI (tg T p)) dX2_letterAt_32 (rfl) (rfl) (trivial)

set_option maxHeartbeats 4000000 in
set_option maxRecDepth 100000 in
theorem c2_digitAt (l : Launch) (D : va_G) (cI cZ cS : ClassId) (t : Nat) (a : Nat) (T : List Nat) (f : Nat → Int32) (p : Nat) (hT : tx f T) (htl : T.length ≤ 56) (hp : p < T.length) (h48 : 48 ≤ tg T p) : CO l D (TY cI cZ cS) yX2_digitAt cX2_digitAt 2 (some .int) 1 21 0 0 [.ref t, .int (nI p)] [(t, .inr (2, [.ref a, .int (nI T.length)])), (a, .inl (cI, 56, .inl f))] (σ := Unit) (fun u => some (.int (nI (tg T p - 48)))) (fun u => [(t, .inr (2, [.ref a, .int (nI T.length)])), (a, .inl (cI, 56, .inl f))]) (fun u => True) := by
  refine CO_mki (by decide +kernel) (Nat.le_of_ble_eq_true rfl) (fun K ok ret => ?_)
  show XX K [(t, .inr (2, [.ref a, .int (nI T.length)])), (a, .inl (cI, 56, .inl f))] [(0, .ref t), (1, .int (nI p))] 0 []
  refine x_aload_n ok 0 dX2_digitAt_0 rfl rfl ?_
  refine x_iload_n ok 1 dX2_digitAt_1 rfl rfl ?_
  refine qX2_19 ok (As := [.int (nI p)]) (st := []) 0 rfl (c2_letterAt l D cI cZ cS t a T f p (by first | assumption | omega) (by first | assumption | omega) (by first | assumption | omega)) rfl (Nat.le_of_ble_eq_true rfl) (Nat.le_of_ble_eq_true rfl) (Nat.le_of_ble_eq_true rfl) dX2_digitAt_2 [0, 1] (by decide) rfl (ws' := fun u => [(t, .inr (2, [.ref a, .int (nI T.length)])), (a, .inl (cI, 56, .inl f))]) (st' := fun u => [.int (nI (tg T p))]) (fun _ => rfl) (fun _ => rfl) (fun _ => rfl) (fun _ _ => ?_)
  refine x_bipush ok (nI 48) dX2_digitAt_5 (by decide) ?_
  refine x_isub ok (nI ((tg T p) - 48)) dX2_digitAt_7 (pk_sub (by omega)) ?_
  exact ret () _ _ _ (nI ((tg T p) - 48)) dX2_digitAt_8 (rfl) (rfl) (trivial)

set_option maxHeartbeats 4000000 in
set_option maxRecDepth 100000 in
theorem c4_isWithin (l : Launch) (D : va_G) (cI cZ cS : ClassId) (x : Int32) (lo : Int32) (up : Int32)  : CO l D (TY cI cZ cS) yX4_isWithin cX4_isWithin 3 (some .boolean) 0 0 0 0 [.int x, .int lo, .int up] [] (σ := Unit) (fun u => some (.int (bz (inB x lo up)))) (fun u => []) (fun u => True) := by
  refine CO_mkz (by decide +kernel) (Nat.le_of_ble_eq_true rfl) (fun K ok ret => ?_)
  show XX K [] [(0, .int x), (1, .int lo), (2, .int up)] 0 []
  refine x_iload_n ok 0 dX4_isWithin_0 rfl rfl ?_
  refine x_iload_n ok 1 dX4_isWithin_1 rfl rfl ?_
  refine x_icmp_lt ok 14 dX4_isWithin_2 (by decide) (fun c_2 => ?_) (fun c_2 => ?_)
  · skip
    refine x_iconst ok (nI 0) dX4_isWithin_14 (by decide) ?_
    exact ret () _ _ _ (false) dX4_isWithin_15 (rfl) (inB_1 c_2) (trivial)
  · skip
    refine x_iload_n ok 0 dX4_isWithin_5 rfl rfl ?_
    refine x_iload_n ok 2 dX4_isWithin_6 rfl rfl ?_
    refine x_icmp_gt ok 14 dX4_isWithin_7 (by decide) (fun c_7 => ?_) (fun c_7 => ?_)
    · skip
      refine x_iconst ok (nI 0) dX4_isWithin_14 (by decide) ?_
      exact ret () _ _ _ (false) dX4_isWithin_15 (rfl) (inB_2 c_7) (trivial)
    · skip
      refine x_iconst ok (nI 1) dX4_isWithin_10 (by decide) ?_
      refine x_goto ok 15 dX4_isWithin_11 (by decide) ?_
      exact ret () _ _ _ (true) dX4_isWithin_15 (rfl) (inB_3 c_2 c_7) (trivial)

set_option maxHeartbeats 4000000 in
set_option maxRecDepth 100000 in
theorem c2_digitsOf (l : Launch) (D : va_G) (cI cZ cS : ClassId) (k : Nat) (hk : k < 256) : CO l D (TY cI cZ cS) yX2_digitsOf cX2_digitsOf 1 (some .int) 0 0 0 0 [.int (nI k)] [] (σ := Unit) (fun u => some (.int (nI (if k = 87 then 2 else 4)))) (fun u => []) (fun u => True) := by
  refine CO_mki (by decide +kernel) (Nat.le_of_ble_eq_true rfl) (fun K ok ret => ?_)
  show XX K [] [(0, .int (nI k))] 0 []
  refine x_iload_n ok 0 dX2_digitsOf_0 rfl rfl ?_
  refine x_bipush ok (nI 87) dX2_digitsOf_1 (by decide) ?_
  refine x_icmp_neN ok 10 dX2_digitsOf_3 (by decide) (by omega) (by omega) (fun c_3 => ?_) (fun c_3 => ?_)
  · skip
    refine x_iconst ok (nI 4) dX2_digitsOf_10 (by decide) ?_
    exact ret () _ _ _ (nI 4) dX2_digitsOf_11 (rfl) (by simp [c_3]) (trivial)
  · skip
    refine x_iconst ok (nI 2) dX2_digitsOf_6 (by decide) ?_
    refine x_goto ok 11 dX2_digitsOf_7 (by decide) ?_
    exact ret () _ _ _ (nI 2) dX2_digitsOf_11 (rfl) (by simp [c_3]) (trivial)

set_option maxHeartbeats 4000000 in
set_option maxRecDepth 100000 in
theorem c2_canOpen (l : Launch) (D : va_G) (cI cZ cS : ClassId) (c : Nat) (w : Nat) (s : Nat) (hc : c < 256) (hw : w < 256) (hs : s < 256) : CO l D (TY cI cZ cS) yX2_canOpen cX2_canOpen 3 (some .boolean) 0 0 0 0 [.int (nI c), .int (nI w), .int (nI s)] [] (σ := Unit) (fun u => some (.int (bz (opB c w s)))) (fun u => []) (fun u => True) := by
  refine CO_mkz (by decide +kernel) (Nat.le_of_ble_eq_true rfl) (fun K ok ret => ?_)
  show XX K [] [(0, .int (nI c)), (1, .int (nI w)), (2, .int (nI s))] 0 []
  refine x_iload_n ok 0 dX2_canOpen_0 rfl rfl ?_
  refine x_bipush ok (nI 87) dX2_canOpen_1 (by decide) ?_
  refine x_icmp_neN ok 17 dX2_canOpen_3 (by decide) (by omega) (by omega) (fun c_3 => ?_) (fun c_3 => ?_)
  · skip
    refine x_iload_n ok 0 dX2_canOpen_17 rfl rfl ?_
    refine x_bipush ok (nI 83) dX2_canOpen_18 (by decide) ?_
    refine x_icmp_neN ok 37 dX2_canOpen_20 (by decide) (by omega) (by omega) (fun c_20 => ?_) (fun c_20 => ?_)
    · skip
      refine x_iconst ok (nI 0) dX2_canOpen_37 (by decide) ?_
      exact ret () _ _ _ (false) dX2_canOpen_38 (rfl) (by simp only [opB]; simp [c_3, c_20] <;> omega) (trivial)
    · skip
      refine x_iload_n ok 1 dX2_canOpen_23 rfl rfl ?_
      refine x_if_leN ok 37 dX2_canOpen_24 (by decide) (by omega) (fun c_24 => ?_) (fun c_24 => ?_)
      · skip
        refine x_iconst ok (nI 0) dX2_canOpen_37 (by decide) ?_
        exact ret () _ _ _ (false) dX2_canOpen_38 (rfl) (by simp only [opB]; simp [c_3, c_20, c_24] <;> omega) (trivial)
      · skip
        refine x_iload_n ok 2 dX2_canOpen_27 rfl rfl ?_
        refine x_bipush ok (nI 6) dX2_canOpen_28 (by decide) ?_
        refine x_icmp_geN ok 37 dX2_canOpen_30 (by decide) (by omega) (by omega) (fun c_30 => ?_) (fun c_30 => ?_)
        · skip
          refine x_iconst ok (nI 0) dX2_canOpen_37 (by decide) ?_
          exact ret () _ _ _ (false) dX2_canOpen_38 (rfl) (by simp only [opB]; simp [c_3, c_20, c_24, c_30] <;> omega) (trivial)
        · skip
          refine x_iconst ok (nI 1) dX2_canOpen_33 (by decide) ?_
          refine x_goto ok 38 dX2_canOpen_34 (by decide) ?_
          exact ret () _ _ _ (true) dX2_canOpen_38 (rfl) (by simp only [opB]; simp [c_3, c_20, c_24, c_30] <;> omega) (trivial)
  · skip
    refine x_iload_n ok 1 dX2_canOpen_6 rfl rfl ?_
    refine x_iconst ok (nI 4) dX2_canOpen_7 (by decide) ?_
    refine x_icmp_geN ok 15 dX2_canOpen_8 (by decide) (by omega) (by omega) (fun c_8 => ?_) (fun c_8 => ?_)
    · skip
      refine x_iconst ok (nI 0) dX2_canOpen_15 (by decide) ?_
      exact ret () _ _ _ (false) dX2_canOpen_16 (rfl) (by simp only [opB]; simp [c_3, c_8] <;> omega) (trivial)
    · skip
      refine x_iconst ok (nI 1) dX2_canOpen_11 (by decide) ?_
      refine x_goto ok 16 dX2_canOpen_12 (by decide) ?_
      exact ret () _ _ _ (true) dX2_canOpen_16 (rfl) (by simp only [opB]; simp [c_3, c_8] <;> omega) (trivial)

set_option maxHeartbeats 4000000 in
set_option maxRecDepth 100000 in
theorem c2_canStand (l : Launch) (D : va_G) (cI cZ cS : ClassId) (c : Nat) (k : Nat) (d : Nat) (w : Nat) (hc : c < 256) (hk : (k = 87 ∧ d < 2) ∨ (k = 83 ∧ d < 4 ∧ 0 < w ∧ w ≤ 4)) : CO l D (TY cI cZ cS) yX2_canStand cX2_canStand 4 (some .boolean) 1 22 0 0 [.int (nI c - nI 48), .int (nI k), .int (nI d), .int (nI w)] [] (σ := Unit) (fun u => some (.int (bz (stB c k d w)))) (fun u => []) (fun u => True) := by
  refine CO_mkz (by decide +kernel) (Nat.le_of_ble_eq_true rfl) (fun K ok ret => ?_)
  show XX K [] [(0, .int (nI c - nI 48)), (1, .int (nI k)), (2, .int (nI d)), (3, .int (nI w))] 0 []
  refine x_iload_n ok 1 dX2_canStand_0 rfl rfl ?_
  refine x_bipush ok (nI 87) dX2_canStand_1 (by decide) ?_
  refine x_icmp_neN ok 27 dX2_canStand_3 (by decide) (by omega) (by omega) (fun c_3 => ?_) (fun c_3 => ?_)
  · skip
    refine x_iload_n ok 2 dX2_canStand_27 rfl rfl ?_
    refine x_table ok (tgts := [56, 63, 72]) 80 dX2_canStand_28 rfl rfl (by decide) (by decide) (fun c_28 => ?_) (fun j28 t28 ht28 c_28 => ?_)
    · skip
      have ed : d = 3 := by rw [nI_toInt (by omega)] at c_28; simp only [List.size_toArray, List.length_cons, List.length_nil] at c_28; omega
      subst ed
      refine x_iload_n ok 0 dX2_canStand_80 rfl rfl ?_
      refine x_iconst ok (nI 0) dX2_canStand_81 (by decide) ?_
      refine x_iconst ok (nI 3) dX2_canStand_82 (by decide) ?_
      refine qX2_34 ok (As := [.int (nI c - nI 48), .int (nI 0), .int (nI 3)]) (st := []) (c4_isWithin l D cI cZ cS (nI c - nI 48) (nI 0) (nI 3) ) rfl (Nat.le_of_ble_eq_true rfl) (Nat.le_of_ble_eq_true rfl) (Nat.le_of_ble_eq_true rfl) dX2_canStand_83 [] (by decide) rfl (ws' := fun u => []) (st' := fun u => [.int (bz (inB (nI c - nI 48) (nI 0) (nI 3)))]) (fun _ => rfl) (fun _ => rfl) (fun _ => rfl) (fun _ _ => ?_)
      exact ret () _ _ _ (inB (nI c - nI 48) (nI 0) (nI 3)) dX2_canStand_86 (rfl) (by rw [inB_48 hc (by omega) (by omega)]; simp only [stB]; simp [c_3, c_28]) (trivial)
    · skip
      rcases j28 with _ | _ | _ | j28
      · skip
        cases ht28
        have ed : d = 0 := (nI_eq (by omega) (by omega)).mp c_28
        subst ed
        refine x_iload_n ok 0 dX2_canStand_56 rfl rfl ?_
        refine x_iconst ok (nI 0) dX2_canStand_57 (by decide) ?_
        refine x_iconst ok (nI 5) dX2_canStand_58 (by decide) ?_
        refine qX2_34 ok (As := [.int (nI c - nI 48), .int (nI 0), .int (nI 5)]) (st := []) (c4_isWithin l D cI cZ cS (nI c - nI 48) (nI 0) (nI 5) ) rfl (Nat.le_of_ble_eq_true rfl) (Nat.le_of_ble_eq_true rfl) (Nat.le_of_ble_eq_true rfl) dX2_canStand_59 [] (by decide) rfl (ws' := fun u => []) (st' := fun u => [.int (bz (inB (nI c - nI 48) (nI 0) (nI 5)))]) (fun _ => rfl) (fun _ => rfl) (fun _ => rfl) (fun _ _ => ?_)
        exact ret () _ _ _ (inB (nI c - nI 48) (nI 0) (nI 5)) dX2_canStand_62 (rfl) (by rw [inB_48 hc (by omega) (by omega)]; simp only [stB]; simp [c_3, c_28]) (trivial)
      · skip
        cases ht28
        have ed : d = 1 := (nI_eq (by omega) (by omega)).mp c_28
        subst ed
        refine x_iload_n ok 0 dX2_canStand_63 rfl rfl ?_
        refine x_iconst ok (nI 0) dX2_canStand_64 (by decide) ?_
        refine x_iload_n ok 3 dX2_canStand_65 rfl rfl ?_
        refine x_iconst ok (nI 1) dX2_canStand_66 (by decide) ?_
        refine x_isub ok (nI (w - 1)) dX2_canStand_67 (pk_sub (by omega)) ?_
        refine qX2_34 ok (As := [.int (nI c - nI 48), .int (nI 0), .int (nI (w - 1))]) (st := []) (c4_isWithin l D cI cZ cS (nI c - nI 48) (nI 0) (nI (w - 1)) ) rfl (Nat.le_of_ble_eq_true rfl) (Nat.le_of_ble_eq_true rfl) (Nat.le_of_ble_eq_true rfl) dX2_canStand_68 [] (by decide) rfl (ws' := fun u => []) (st' := fun u => [.int (bz (inB (nI c - nI 48) (nI 0) (nI (w - 1))))]) (fun _ => rfl) (fun _ => rfl) (fun _ => rfl) (fun _ _ => ?_)
        exact ret () _ _ _ (inB (nI c - nI 48) (nI 0) (nI (w - 1))) dX2_canStand_71 (rfl) (by rw [inB_48 hc (by omega) (by omega)]; simp only [stB]; simp [c_3, c_28]) (trivial)
      · skip
        cases ht28
        have ed : d = 2 := (nI_eq (by omega) (by omega)).mp c_28
        subst ed
        refine x_iload_n ok 0 dX2_canStand_72 rfl rfl ?_
        refine x_iconst ok (nI 1) dX2_canStand_73 (by decide) ?_
        refine x_bipush ok (nI 9) dX2_canStand_74 (by decide) ?_
        refine qX2_34 ok (As := [.int (nI c - nI 48), .int (nI 1), .int (nI 9)]) (st := []) (c4_isWithin l D cI cZ cS (nI c - nI 48) (nI 1) (nI 9) ) rfl (Nat.le_of_ble_eq_true rfl) (Nat.le_of_ble_eq_true rfl) (Nat.le_of_ble_eq_true rfl) dX2_canStand_76 [] (by decide) rfl (ws' := fun u => []) (st' := fun u => [.int (bz (inB (nI c - nI 48) (nI 1) (nI 9)))]) (fun _ => rfl) (fun _ => rfl) (fun _ => rfl) (fun _ _ => ?_)
        exact ret () _ _ _ (inB (nI c - nI 48) (nI 1) (nI 9)) dX2_canStand_79 (rfl) (by rw [inB_48 hc (by omega) (by omega)]; simp only [stB]; simp [c_3, c_28]) (trivial)
      · skip
        cases ht28
  · skip
    refine x_iload_n ok 2 dX2_canStand_6 rfl rfl ?_
    refine x_if_neN ok 20 dX2_canStand_7 (by decide) (by omega) (fun c_7 => ?_) (fun c_7 => ?_)
    · skip
      refine x_iload_n ok 0 dX2_canStand_20 rfl rfl ?_
      refine x_iconst ok (nI 0) dX2_canStand_21 (by decide) ?_
      refine x_iconst ok (nI 2) dX2_canStand_22 (by decide) ?_
      refine qX2_34 ok (As := [.int (nI c - nI 48), .int (nI 0), .int (nI 2)]) (st := []) (c4_isWithin l D cI cZ cS (nI c - nI 48) (nI 0) (nI 2) ) rfl (Nat.le_of_ble_eq_true rfl) (Nat.le_of_ble_eq_true rfl) (Nat.le_of_ble_eq_true rfl) dX2_canStand_23 [] (by decide) rfl (ws' := fun u => []) (st' := fun u => [.int (bz (inB (nI c - nI 48) (nI 0) (nI 2)))]) (fun _ => rfl) (fun _ => rfl) (fun _ => rfl) (fun _ _ => ?_)
      exact ret () _ _ _ (inB (nI c - nI 48) (nI 0) (nI 2)) dX2_canStand_26 (rfl) (by rw [inB_48 hc (by omega) (by omega)]; simp only [stB]; simp [c_3, c_7]) (trivial)
    · skip
      refine x_iload_n ok 0 dX2_canStand_10 rfl rfl ?_
      refine x_iconst ok (nI 1) dX2_canStand_11 (by decide) ?_
      refine x_bipush ok (nI 9) dX2_canStand_12 (by decide) ?_
      refine qX2_34 ok (As := [.int (nI c - nI 48), .int (nI 1), .int (nI 9)]) (st := []) (c4_isWithin l D cI cZ cS (nI c - nI 48) (nI 1) (nI 9) ) rfl (Nat.le_of_ble_eq_true rfl) (Nat.le_of_ble_eq_true rfl) (Nat.le_of_ble_eq_true rfl) dX2_canStand_14 [] (by decide) rfl (ws' := fun u => []) (st' := fun u => [.int (bz (inB (nI c - nI 48) (nI 1) (nI 9)))]) (fun _ => rfl) (fun _ => rfl) (fun _ => rfl) (fun _ _ => ?_)
      refine x_goto ok 26 dX2_canStand_17 (by decide) ?_
      exact ret () _ _ _ (inB (nI c - nI 48) (nI 1) (nI 9)) dX2_canStand_26 (rfl) (by rw [inB_48 hc (by omega) (by omega)]; simp only [stB]; simp [c_3, c_7]) (trivial)

set_option maxHeartbeats 4000000 in
set_option maxRecDepth 100000 in
theorem c2_faultPlace (l : Launch) (D : va_G) (cI cZ cS : ClassId) (t : Nat) (a : Nat) (T : List Nat) (f : Nat → Int32) (hT : tx f T) (ho : okT T) : CO l D (TY cI cZ cS) yX2_faultPlace cX2_faultPlace 7 (some .int) 2 45 0 0 [.ref t] [(t, .inr (2, [.ref a, .int (nI T.length)])), (a, .inl (cI, 56, .inl f))] (σ := Unit) (fun u => some (.int ((landP T).1))) (fun u => [(t, .inr (2, [.ref a, .int (nI T.length)])), (a, .inl (cI, 56, .inl f))]) (fun u => True) := by
  refine CO_mki (by decide +kernel) (Nat.le_of_ble_eq_true rfl) (fun K ok ret => ?_)
  show XX K [(t, .inr (2, [.ref a, .int (nI T.length)])), (a, .inl (cI, 56, .inl f))] [(0, .ref t)] 0 []
  have htl := ho.1
  refine x_iconst ok (nI 0) dX2_faultPlace_0 (by decide) ?_
  refine x_istore_n ok (lv' := [(1, .int (nI 0)), (0, .ref t)]) dX2_faultPlace_1 rfl (by decide) rfl ?_
  refine x_iconst ok (nI 0) dX2_faultPlace_2 (by decide) ?_
  refine x_istore_n ok (lv' := [(2, .int (nI 0)), (1, .int (nI 0)), (0, .ref t)]) dX2_faultPlace_3 rfl (by decide) rfl ?_
  refine x_iconst ok (nI 0) dX2_faultPlace_4 (by decide) ?_
  refine x_istore_n ok (lv' := [(3, .int (nI 0)), (2, .int (nI 0)), (1, .int (nI 0)), (0, .ref t)]) dX2_faultPlace_5 rfl (by decide) rfl ?_
  refine x_iconst ok (nI 0) dX2_faultPlace_6 (by decide) ?_
  refine x_istore ok (lv' := [(4, .int (nI 0)), (3, .int (nI 0)), (2, .int (nI 0)), (1, .int (nI 0)), (0, .ref t)]) dX2_faultPlace_7 (by decide) rfl ?_
  refine x_iconst ok (nI 0) dX2_faultPlace_9 (by decide) ?_
  refine x_istore ok (lv' := [(5, .int (nI 0)), (4, .int (nI 0)), (3, .int (nI 0)), (2, .int (nI 0)), (1, .int (nI 0)), (0, .ref t)]) dX2_faultPlace_10 (by decide) rfl ?_
  have L_12 : ∀ (n_12 : Nat) (i : Nat) (w : Nat) (s : Nat) (k : Nat) (d : Nat), T.length - i < n_12 → (i ≤ T.length) → (fIn T (landP T).1 i w s k d) → (w < 100 ∧ s < 100 ∧ k < 256 ∧ d < 100) → XX K [(t, .inr (2, [.ref a, .int (nI T.length)])), (a, .inl (cI, 56, .inl f))] [(5, .int (nI i)), (4, .int (nI d)), (3, .int (nI k)), (2, .int (nI s)), (1, .int (nI w)), (0, .ref t)] 12 [] := by
    intro n_12
    induction n_12 with
    | zero => intro i w s k d hm; exact absurd hm (Nat.not_lt_zero _)
    | succ n_12 ih_12 =>
      intro i w s k d hm_12 hi hI hb
      refine x_iload ok 0 dX2_faultPlace_12 rfl ?_
      refine x_aload_n ok 5 dX2_faultPlace_14 rfl rfl ?_
      refine gX2_15 ok dX2_faultPlace_15 0 rfl rfl ?_
      refine x_icmp_geN ok 136 dX2_faultPlace_18 (by decide) (by omega) (by omega) (fun c_18 => ?_) (fun c_18 => ?_)
      · skip
        have e_i : T.length = i := by omega
        subst e_i
        refine x_aload_n ok 5 dX2_faultPlace_136 rfl rfl ?_
        refine gX2_15 ok dX2_faultPlace_137 0 rfl rfl ?_
        refine x_if_eqN ok 147 dX2_faultPlace_140 (by decide) (by omega) (fun c_140 => ?_) (fun c_140 => ?_)
        · skip
          refine x_aload_n ok 5 dX2_faultPlace_147 rfl rfl ?_
          refine gX2_15 ok dX2_faultPlace_148 0 rfl rfl ?_
          refine x_goto ok 156 dX2_faultPlace_151 (by decide) ?_
          exact ret () _ _ _ (nI T.length) dX2_faultPlace_156 (rfl) (by first | exact fIn_out hI (Or.inl c_140) | exact fIn_out hI (Or.inr c_144) | exact fIn_fin (c_144 ▸ hI) c_140) (trivial)
        · skip
          refine x_iload_n ok 2 dX2_faultPlace_143 rfl rfl ?_
          refine x_if_eqN ok 154 dX2_faultPlace_144 (by decide) (by omega) (fun c_144 => ?_) (fun c_144 => ?_)
          · skip
            refine x_bipush ok ((-9)) dX2_faultPlace_154 (by decide) ?_
            exact ret () _ _ _ ((-9)) dX2_faultPlace_156 (rfl) (by first | exact fIn_out hI (Or.inl c_140) | exact fIn_out hI (Or.inr c_144) | exact fIn_fin (c_144 ▸ hI) c_140) (trivial)
          · skip
            refine x_aload_n ok 5 dX2_faultPlace_147 rfl rfl ?_
            refine gX2_15 ok dX2_faultPlace_148 0 rfl rfl ?_
            refine x_goto ok 156 dX2_faultPlace_151 (by decide) ?_
            exact ret () _ _ _ (nI T.length) dX2_faultPlace_156 (rfl) (by first | exact fIn_out hI (Or.inl c_140) | exact fIn_out hI (Or.inr c_144) | exact fIn_fin (c_144 ▸ hI) c_140) (trivial)
      · skip
        have hti := ho.2 i (by omega)
        refine x_aload_n ok 5 dX2_faultPlace_21 rfl rfl ?_
        refine x_iload ok 0 dX2_faultPlace_22 rfl ?_
        refine qX2_19 ok (As := [.int (nI i)]) (st := []) 0 rfl (c2_letterAt l D cI cZ cS t a T f i (by first | assumption | omega) (by first | assumption | omega) (by first | assumption | omega)) rfl (Nat.le_of_ble_eq_true rfl) (Nat.le_of_ble_eq_true rfl) (Nat.le_of_ble_eq_true rfl) dX2_faultPlace_24 [0, 1] (by decide) rfl (ws' := fun u => [(t, .inr (2, [.ref a, .int (nI T.length)])), (a, .inl (cI, 56, .inl f))]) (st' := fun u => [.int (nI (tg T i))]) (fun _ => rfl) (fun _ => rfl) (fun _ => rfl) (fun _ _ => ?_)
        refine x_istore ok (lv' := [(6, .int (nI (tg T i))), (5, .int (nI i)), (4, .int (nI d)), (3, .int (nI k)), (2, .int (nI s)), (1, .int (nI w)), (0, .ref t)]) dX2_faultPlace_27 (by decide) rfl ?_
        refine x_iload ok 1 dX2_faultPlace_29 rfl ?_
        refine x_if_neN ok 44 dX2_faultPlace_31 (by decide) (by omega) (fun c_31 => ?_) (fun c_31 => ?_)
        · skip
          refine x_iload_n ok 3 dX2_faultPlace_44 rfl rfl ?_
          refine x_if_neN ok 70 dX2_faultPlace_45 (by decide) (by omega) (fun c_45 => ?_) (fun c_45 => ?_)
          · skip
            have hkd := fIn_k hI c_31 c_45
            have dgl : (if k = 87 then 2 else 4) ≤ 4 := by split <;> omega
            refine x_iload ok 0 dX2_faultPlace_70 rfl ?_
            refine x_bipush ok (nI 48) dX2_faultPlace_72 (by decide) ?_
            refine x_isub ok (((nI (tg T i)) - (nI 48))) dX2_faultPlace_74 (rfl) ?_
            refine x_iload_n ok 3 dX2_faultPlace_75 rfl rfl ?_
            refine x_iload ok 2 dX2_faultPlace_76 rfl ?_
            refine x_iload_n ok 5 dX2_faultPlace_78 rfl rfl ?_
            refine qX2_27 ok (As := [.int ((nI (tg T i)) - (nI 48)), .int (nI k), .int (nI d), .int (nI w)]) (st := []) (c2_canStand l D cI cZ cS (tg T i) k d w (by first | assumption | omega) (by first | assumption | omega)) rfl (Nat.le_of_ble_eq_true rfl) (Nat.le_of_ble_eq_true rfl) (Nat.le_of_ble_eq_true rfl) dX2_faultPlace_79 [] (by decide) rfl (ws' := fun u => [(t, .inr (2, [.ref a, .int (nI T.length)])), (a, .inl (cI, 56, .inl f))]) (st' := fun u => [.int (bz (stB (tg T i) k d w))]) (fun _ => rfl) (fun _ => rfl) (fun _ => rfl) (fun _ _ => ?_)
            refine x_if_neB ok 88 dX2_faultPlace_82 (by decide) (fun c_82 => ?_) (fun c_82 => ?_)
            · skip
              refine x_iinc ok (v := nI (d + 1)) (lv' := [(4, .int (nI (d + 1))), (6, .int (nI (tg T i))), (5, .int (nI i)), (3, .int (nI k)), (2, .int (nI s)), (1, .int (nI w)), (0, .ref t)]) dX2_faultPlace_88 2 rfl (nN (nI_inc _ 1) (by omega)) (by decide) rfl ?_
              refine x_iload ok 0 dX2_faultPlace_91 rfl ?_
              refine x_iload_n ok 3 dX2_faultPlace_93 rfl rfl ?_
              refine qX2_31 ok (As := [.int (nI k)]) (st := [.int (nI (d + 1))]) (c2_digitsOf l D cI cZ cS k (by first | assumption | omega)) rfl (Nat.le_of_ble_eq_true rfl) (Nat.le_of_ble_eq_true rfl) (Nat.le_of_ble_eq_true rfl) dX2_faultPlace_94 [] (by decide) rfl (ws' := fun u => [(t, .inr (2, [.ref a, .int (nI T.length)])), (a, .inl (cI, 56, .inl f))]) (st' := fun u => [.int (nI (if k = 87 then 2 else 4)), .int (nI (d + 1))]) (fun _ => rfl) (fun _ => rfl) (fun _ => rfl) (fun _ _ => ?_)
              refine x_icmp_neN ok 130 dX2_faultPlace_97 (by decide) (by omega) (by omega) (fun c_97 => ?_) (fun c_97 => ?_)
              · skip
                refine x_iinc ok (v := nI (i + 1)) (lv' := [(5, .int (nI (i + 1))), (4, .int (nI (d + 1))), (6, .int (nI (tg T i))), (3, .int (nI k)), (2, .int (nI s)), (1, .int (nI w)), (0, .ref t)]) dX2_faultPlace_130 2 rfl (nN (nI_inc _ 1) (by omega)) (by decide) rfl ?_
                refine x_goto ok 12 dX2_faultPlace_133 (by decide) ?_
                refine x_loc ok [0, 1, 3, 4, 5, 6] (lv' := [(5, .int (nI (i + 1))), (4, .int (nI (d + 1))), (3, .int (nI k)), (2, .int (nI s)), (1, .int (nI w)), (0, .ref t)]) rfl ?_
                exact ih_12 (i + 1) w s k (d + 1) (by omega) (by first | assumption | omega) (fIn_nx hI c_31 c_45 (by omega) c_82 c_97) (by omega)
              · skip
                refine x_iload_n ok 5 dX2_faultPlace_100 rfl rfl ?_
                refine x_iload_n ok 3 dX2_faultPlace_101 rfl rfl ?_
                refine x_bipush ok (nI 87) dX2_faultPlace_102 (by decide) ?_
                have J_112 : ∀ (v112_1 : Nat), v112_1 = (if k = 87 then 1 else 0) → XX K [(t, .inr (2, [.ref a, .int (nI T.length)])), (a, .inl (cI, 56, .inl f))] [(4, .int (nI (d + 1))), (6, .int (nI (tg T i))), (5, .int (nI i)), (3, .int (nI k)), (2, .int (nI s)), (1, .int (nI w)), (0, .ref t)] 112 [.int (nI v112_1), .int (nI w)] := by
                  intro v112_1 e_v112_1
                  refine x_iadd ok (nI (v112_1 + w)) dX2_faultPlace_112 (nN (nI_add _ _) (by omega)) ?_
                  refine x_istore_n ok (lv' := [(1, .int (nI (v112_1 + w))), (4, .int (nI (d + 1))), (6, .int (nI (tg T i))), (5, .int (nI i)), (3, .int (nI k)), (2, .int (nI s)), (0, .ref t)]) dX2_faultPlace_113 rfl (by decide) rfl ?_
                  refine x_iload_n ok 5 dX2_faultPlace_114 rfl rfl ?_
                  refine x_iload_n ok 4 dX2_faultPlace_115 rfl rfl ?_
                  refine x_bipush ok (nI 83) dX2_faultPlace_116 (by decide) ?_
                  have J_126 : ∀ (v126_1 : Nat), v126_1 = (if k = 83 then 1 else 0) → XX K [(t, .inr (2, [.ref a, .int (nI T.length)])), (a, .inl (cI, 56, .inl f))] [(1, .int (nI (v112_1 + w))), (4, .int (nI (d + 1))), (6, .int (nI (tg T i))), (5, .int (nI i)), (3, .int (nI k)), (2, .int (nI s)), (0, .ref t)] 126 [.int (nI v126_1), .int (nI s)] := by
                    intro v126_1 e_v126_1
                    refine x_iadd ok (nI (s + v126_1)) dX2_faultPlace_126 (nN (nI_add _ _) (by omega)) ?_
                    refine x_istore_n ok (lv' := [(2, .int (nI (s + v126_1))), (1, .int (nI (v112_1 + w))), (4, .int (nI (d + 1))), (6, .int (nI (tg T i))), (5, .int (nI i)), (3, .int (nI k)), (0, .ref t)]) dX2_faultPlace_127 rfl (by decide) rfl ?_
                    refine x_iconst ok (nI 0) dX2_faultPlace_128 (by decide) ?_
                    refine x_istore_n ok (lv' := [(3, .int (nI 0)), (2, .int (nI (s + v126_1))), (1, .int (nI (v112_1 + w))), (4, .int (nI (d + 1))), (6, .int (nI (tg T i))), (5, .int (nI i)), (0, .ref t)]) dX2_faultPlace_129 rfl (by decide) rfl ?_
                    refine x_iinc ok (v := nI (i + 1)) (lv' := [(5, .int (nI (i + 1))), (3, .int (nI 0)), (2, .int (nI (s + v126_1))), (1, .int (nI (v112_1 + w))), (4, .int (nI (d + 1))), (6, .int (nI (tg T i))), (0, .ref t)]) dX2_faultPlace_130 5 rfl (nN (nI_inc _ 1) (by omega)) (by decide) rfl ?_
                    refine x_goto ok 12 dX2_faultPlace_133 (by decide) ?_
                    refine x_loc ok [0, 4, 1, 2, 3, 6] (lv' := [(5, .int (nI (i + 1))), (4, .int (nI (d + 1))), (3, .int (nI 0)), (2, .int (nI (s + v126_1))), (1, .int (nI (v112_1 + w))), (0, .ref t)]) rfl ?_
                    exact ih_12 (i + 1) (v112_1 + w) (s + v126_1) 0 (d + 1) (by omega) (by first | assumption | omega) (by rw [e_v112_1, e_v126_1, Nat.add_comm _ w]; exact fIn_end hI c_31 c_45 (by omega) c_82 c_97) (by rw [e_v112_1, e_v126_1, Nat.add_comm _ w]; exact fIn_b (fIn_end (V := (landP T).1) (i := i) (d' := d + 1) hI c_31 c_45 (by omega) c_82 c_97) (by omega) (by omega))
                  refine x_icmp_neN ok 125 dX2_faultPlace_118 (by decide) (by omega) (by omega) (fun c_118 => ?_) (fun c_118 => ?_)
                  · skip
                    refine x_iconst ok (nI 0) dX2_faultPlace_125 (by decide) ?_
                    exact J_126 0 (by first | rfl | (simp only [if_neg c_118]; done) | (simp [c_118]; done))
                  · skip
                    refine x_iconst ok (nI 1) dX2_faultPlace_121 (by decide) ?_
                    refine x_goto ok 126 dX2_faultPlace_122 (by decide) ?_
                    exact J_126 1 (by first | rfl | (simp only [if_pos c_118]; done) | (simp [c_118]; done))
                refine x_icmp_neN ok 111 dX2_faultPlace_104 (by decide) (by omega) (by omega) (fun c_104 => ?_) (fun c_104 => ?_)
                · skip
                  refine x_iconst ok (nI 0) dX2_faultPlace_111 (by decide) ?_
                  exact J_112 0 (by first | rfl | (simp only [if_neg c_104]; done) | (simp [c_104]; done))
                · skip
                  refine x_iconst ok (nI 1) dX2_faultPlace_107 (by decide) ?_
                  refine x_goto ok 112 dX2_faultPlace_108 (by decide) ?_
                  exact J_112 1 (by first | rfl | (simp only [if_pos c_104]; done) | (simp [c_104]; done))
            · skip
              refine x_iload ok 1 dX2_faultPlace_85 rfl ?_
              exact ret () _ _ _ (nI i) dX2_faultPlace_87 (rfl) (fIn_st hI c_31 c_45 (by omega) c_82) (trivial)
          · skip
            refine x_iload ok 0 dX2_faultPlace_48 rfl ?_
            refine x_iload_n ok 5 dX2_faultPlace_50 rfl rfl ?_
            refine x_iload_n ok 4 dX2_faultPlace_51 rfl rfl ?_
            refine qX2_23 ok (As := [.int (nI (tg T i)), .int (nI w), .int (nI s)]) (st := []) (c2_canOpen l D cI cZ cS (tg T i) w s (by first | assumption | omega) (by first | assumption | omega) (by first | assumption | omega)) rfl (Nat.le_of_ble_eq_true rfl) (Nat.le_of_ble_eq_true rfl) (Nat.le_of_ble_eq_true rfl) dX2_faultPlace_52 [] (by decide) rfl (ws' := fun u => [(t, .inr (2, [.ref a, .int (nI T.length)])), (a, .inl (cI, 56, .inl f))]) (st' := fun u => [.int (bz (opB (tg T i) w s))]) (fun _ => rfl) (fun _ => rfl) (fun _ => rfl) (fun _ _ => ?_)
            refine x_if_neB ok 61 dX2_faultPlace_55 (by decide) (fun c_55 => ?_) (fun c_55 => ?_)
            · skip
              refine x_iload ok 0 dX2_faultPlace_61 rfl ?_
              refine x_istore_n ok (lv' := [(3, .int (nI (tg T i))), (6, .int (nI (tg T i))), (5, .int (nI i)), (4, .int (nI d)), (2, .int (nI s)), (1, .int (nI w)), (0, .ref t)]) dX2_faultPlace_63 rfl (by decide) rfl ?_
              refine x_iconst ok (nI 0) dX2_faultPlace_64 (by decide) ?_
              refine x_istore ok (lv' := [(4, .int (nI 0)), (3, .int (nI (tg T i))), (6, .int (nI (tg T i))), (5, .int (nI i)), (2, .int (nI s)), (1, .int (nI w)), (0, .ref t)]) dX2_faultPlace_65 (by decide) rfl ?_
              refine x_goto ok 130 dX2_faultPlace_67 (by decide) ?_
              refine x_iinc ok (v := nI (i + 1)) (lv' := [(5, .int (nI (i + 1))), (4, .int (nI 0)), (3, .int (nI (tg T i))), (6, .int (nI (tg T i))), (2, .int (nI s)), (1, .int (nI w)), (0, .ref t)]) dX2_faultPlace_130 3 rfl (nN (nI_inc _ 1) (by omega)) (by decide) rfl ?_
              refine x_goto ok 12 dX2_faultPlace_133 (by decide) ?_
              refine x_loc ok [0, 1, 2, 4, 5, 6] (lv' := [(5, .int (nI (i + 1))), (4, .int (nI 0)), (3, .int (nI (tg T i))), (2, .int (nI s)), (1, .int (nI w)), (0, .ref t)]) rfl ?_
              exact ih_12 (i + 1) w s (tg T i) 0 (by omega) (by first | assumption | omega) (fIn_in (c_45 ▸ hI) c_31 (by omega) c_55) (by omega)
            · skip
              refine x_iload ok 1 dX2_faultPlace_58 rfl ?_
              exact ret () _ _ _ (nI i) dX2_faultPlace_60 (rfl) (fIn_op (c_45 ▸ hI) c_31 (by omega) c_55) (trivial)
        · skip
          refine x_iload ok 0 dX2_faultPlace_34 rfl ?_
          refine x_bipush ok (nI 76) dX2_faultPlace_36 (by decide) ?_
          refine x_icmp_eqN ok 130 dX2_faultPlace_38 (by decide) (by omega) (by omega) (fun c_38 => ?_) (fun c_38 => ?_)
          · skip
            refine x_iinc ok (v := nI (i + 1)) (lv' := [(5, .int (nI (i + 1))), (6, .int (nI (tg T i))), (4, .int (nI d)), (3, .int (nI k)), (2, .int (nI s)), (1, .int (nI w)), (0, .ref t)]) dX2_faultPlace_130 1 rfl (nN (nI_inc _ 1) (by omega)) (by decide) rfl ?_
            refine x_goto ok 12 dX2_faultPlace_133 (by decide) ?_
            refine x_loc ok [0, 2, 3, 4, 5, 6] (lv' := [(5, .int (nI (i + 1))), (4, .int (nI d)), (3, .int (nI k)), (2, .int (nI s)), (1, .int (nI w)), (0, .ref t)]) rfl ?_
            exact ih_12 (i + 1) w s k d (by omega) (by first | assumption | omega) (by have q := fIn_L (c_31 ▸ hI) (by omega) (c_31 ▸ c_38); rw [c_31]; exact q) (by omega)
          · skip
            refine x_iload ok 1 dX2_faultPlace_41 rfl ?_
            exact ret () _ _ _ (nI i) dX2_faultPlace_43 (rfl) (by subst c_31; exact fIn_no hI c_38) (trivial)
  exact L_12 _ 0 0 0 0 0 (Nat.lt_succ_self _) (by first | assumption | omega) (fIn_0) (by decide)
