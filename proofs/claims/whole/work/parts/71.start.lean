set_option maxHeartbeats 4000000 in
set_option maxRecDepth 100000 in
theorem whole_start {p : Program} {e : Env} {s : State} {m : MethodId} {below : List Frame} {meth : Method} {c : Code} (l : Launch) (hflags : l.flags = flags0) {b L : Nat} {xs : Nat → Int32} (hL : L ≤ 2560) (C0 : lw_At p s m meth c b L xs) : W p l e room_1 s m #[Value.ref b] below meth c s.heap [] 0 0 (lw_Z below #[Value.ref b] s) (entryFrame m ([Value.ref b] : List Value).toArray 4) := by
  obtain ⟨hx, hb, hr, hml, hown, hts, hX, hbl, hlocks, hgv⟩ := id C0
  have htsA : ∀ w ∈ wA, w.before #[Value.ref b] s = true := fun w h => hts w (List.mem_filter.mp h).1
  obtain ⟨c0, iS0, hKn0⟩ := u_known (C := RX0) (T := TX0) (N := 2) (n := 2) htsA inX0 (htsA _ KI_X0)
  obtain ⟨c1, iS1, hKn1⟩ := u_known (C := RX1) (T := TX1) (N := 5) (n := 5) htsA inX1 (htsA _ KI_X1)
  obtain ⟨c2, iS2, hKn2⟩ := u_known (C := RX2) (T := TX2) (N := 2) (n := 2) htsA inX2 (htsA _ KI_X2)
  obtain ⟨c3, iS3, hKn3⟩ := u_known (C := RX3) (T := TX3) (N := 3) (n := 3) htsA inX3 (htsA _ KI_X3)
  obtain ⟨c4, iS4, hKn4⟩ := u_known (C := RX4) (T := TX4) (N := 13) (n := 13) htsA inX4 (htsA _ KI_X4)
  obtain ⟨c5, iS5, hKn5⟩ := u_known (C := RX5) (T := TX5) (N := 25) (n := 25) htsA inX5 (htsA _ KI_X5)
  obtain ⟨dC, dI, hKc⟩ : ∃ (dC : Nat → ClassId) (dI : Nat → Nat → Nat), ∀ (k : Nat) (q : vw_C), CL[k]? = some q → u_Kn s q.1 q.2.1 q.2.2 (dC k) (dI k) := by
    refine ⟨fun k => match k with | 0 => c0 | 1 => c1 | 2 => c2 | 3 => c3 | 4 => c4 | _ => c5, fun k => match k with | 0 => iS0 | 1 => iS1 | 2 => iS2 | 3 => iS3 | 4 => iS4 | _ => iS5, ?_⟩
    intro k q hq
    match k, hq with
    | 0, hq => cases hq; exact hKn0
    | 1, hq => cases hq; exact hKn1
    | 2, hq => cases hq; exact hKn2
    | 3, hq => cases hq; exact hKn3
    | 4, hq => cases hq; exact hKn4
    | 5, hq => cases hq; exact hKn5
    | k + 6, hq => simp [CL] at hq
  obtain ⟨cI, kI, aI, i1, i2, i3⟩ := Cond.arrayClass_spec (htsA _ KA_int)
  obtain ⟨cZ, kZ, aZ, z1, z2, z3⟩ := Cond.arrayClass_spec (htsA _ KA_boolean)
  have hAO : va_AO "WellEchoes$Songs" s := va_AO.of (hts (.arrayOver (.object "WellEchoes$Songs")) (List.mem_append_right _ (List.mem_of_getElem? (i := 82) (by decide +kernel))))
  obtain ⟨aS, cS, kS, s1, s2, s3, s4, s5⟩ := Cond.arrayOver_spec hAO
  have hK : va_K (dC, dI) CL (TY cI cZ cS) s := by
    refine ⟨hKc, fun k q hq => ?_⟩
    match k, hq with
    | 0, hq => cases hq; exact ⟨fun n z => ⟨fun k h => (by cases h), kI, i2, aI, i3⟩, i1⟩
    | 1, hq => cases hq; exact ⟨fun n z => ⟨fun k h => (by cases h), kZ, z2, aZ, z3⟩, z1⟩
    | 2, hq => cases hq; exact ⟨fun n z => ⟨fun k h => (by cases h), kS, s3, aS, s4⟩, kS, aS, s3, s4, s1, s5⟩
    | k + 3, hq => simp [TY] at hq
  have hNW : NW s := fun w hw => va_Nw.of ((by decide : ∀ w ∈ nestW, w.onTables = true) w hw) (hts w ((by decide +kernel : ∀ w ∈ nestW, w ∈ lw_tbl) w hw))
  obtain ⟨K, eK⟩ : ∃ K : KA × KB, K = ((p, l, e, room_1, s, m, #[Value.ref b], below, meth, c), (s.heap, (fun q : Nat => s.heap.size ≤ q), (dC, dI), TY cI cZ cS, 4, 0, 0, lw_Z below #[Value.ref b] s)) := ⟨_, rfl⟩
  have ok0 : OKX K l (dC, dI) (TY cI cZ cS) cL_law RL 4 9 375 62 2220 := by
    rw [eK]
    exact ⟨⟨hx, hb, hml, hown, htsA⟩, ⟨hK, hNW, hAO⟩, fun _ h => h, Nat.le_of_ble_eq_true rfl, Nat.le_of_ble_eq_true rfl, Nat.le_of_ble_eq_true rfl, Nat.le_of_ble_eq_true rfl, rfl, rfl, rfl, rfl⟩
  have hX0 : KXs K b L xs := by
    rw [eK]
    exact ⟨hX, hbl, Nat.not_le.mpr hbl⟩
  have key : XX K [] [(0, .ref b)] 0 [] := by
    refine nwL_7 ok0 dL_law_0 (Nat.le_of_ble_eq_true rfl) (Nat.le_of_ble_eq_true rfl) (fun x => ?_)
    have ok1 := OKX_al (a := 1) (b := 13) (rc' := 61) (rs' := 2207) ok0 (Nat.le_of_ble_eq_true rfl) (Nat.le_of_ble_eq_true rfl)
    refine x_dup ok1 dL_law_3 rfl ?_
    refine qL_9 ok1 (As := []) (st := [.ref x]) (mc := 43) (ms := 1016) (i_Well l (dC, dI) cI cZ cS x) rfl (Nat.le_of_ble_eq_true rfl) (Nat.le_of_ble_eq_true rfl) (Nat.le_of_ble_eq_true rfl) dL_law_4 [0] (by decide) rfl [] (wr := []) rfl (by decide) (by decide) (Nat.le_of_ble_eq_true rfl) (Nat.le_of_ble_eq_true rfl) (st' := fun u => [.ref x]) (fun _ => rfl) (fun u hu => ?_)
    obtain ⟨ax, ta, aw, wd, wt, an, nc, aa, rw, a0, c0, a1, c1, ar, rc, aq, qc, al, am, g, ra, ca⟩ := u
    have hu : rowR g ra (fun k => k) := hu
    have ok2 := OKX_al (a := 43) (b := 1016) (rc' := 18) (rs' := 1191) ok1 (Nat.le_of_ble_eq_true rfl) (Nat.le_of_ble_eq_true rfl)
    refine x_astore_n ok2 (lv' := [(1, .ref x), (0, .ref b)]) dL_law_7 rfl (by decide) rfl ?_
    refine x_perm ok2 [0, 1, 2, 3, 4, 5, 6, 7, 8, 9, 34, 35, 36, 37, 38, 39, 40, 41, 42, 43, 10, 11, 12, 13, 14, 15, 16, 17, 18, 19, 20, 21, 22, 23, 24, 25, 26, 27, 28, 29, 30, 31, 32, 33] (ws' := [(x, .inr (4, [.ref ax, .ref aw, .ref an, .ref aa, .ref a0, .ref a1, .int (nI 0), .int (nI 0), .long 0, .ref ar, .ref aq, .ref al, .ref am])), (ax, .inr (2, [.ref ta, .int (nI (0))])), (ta, .inl (cI, 56, .inl (fun _ => 0))), (aw, .inr (3, [.ref wd, .ref wt, .int (nI (0))])), (wd, .inl (cI, 4, .inl (fun _ => 0))), (wt, .inl (cI, 4, .inl (fun _ => 0))), (an, .inr (1, [.ref nc, .int (nI (0)), .int (nI 0), .int (nI 0), .int (nI 0)])), (nc, .inl (cI, 48, .inl (fun _ => 0))), (aa, .inr (0, [.ref rw, .int (nI (0))])), (rw, .inl (cS, 12, .inr (.inr (.inr (.inr g))))), (a0, .inr (1, [.ref c0, .int (nI 0), .int (nI 0), .int (nI 0), .int (nI 0)])), (c0, .inl (cI, 48, .inl (fun _ => 0))), (a1, .inr (1, [.ref c1, .int (nI 0), .int (nI 0), .int (nI 0), .int (nI 0)])), (c1, .inl (cI, 48, .inl (fun _ => 0))), (ar, .inr (1, [.ref rc, .int (nI 0), .int (nI 0), .int (nI 0), .int (nI 0)])), (rc, .inl (cI, 48, .inl (fun _ => 0))), (aq, .inr (1, [.ref qc, .int (nI 0), .int (nI 0), .int (nI 0), .int (nI 0)])), (qc, .inl (cI, 48, .inl (fun _ => 0))), (al, .inl (cI, 16, .inl (fun _ => 0))), (am, .inl (cI, 16, .inl (fun _ => 0)))] ++ poolW cI ra ca (fun _ => 0) (fun _ => 0) (fun _ => nI 0) (fun _ => nI 0) (fun _ _ => 0)) (by decide) rfl ?_
    have hc := cw_start (cI := cI) (cS := cS) (x := x) (ax := ax) (ta := ta) (aw := aw) (wd := wd) (wt := wt) (an := an) (nc := nc) (aa := aa) (rw := rw) (a0 := a0) (c0 := c0) (a1 := a1) (c1 := c1) (ar := ar) (rc := rc) (aq := aq) (qc := qc) (al := al) (am := am) (g := g) (ra := ra) (ca := ca) hu
    generalize [(x, .inr (4, [.ref ax, .ref aw, .ref an, .ref aa, .ref a0, .ref a1, .int (nI 0), .int (nI 0), .long 0, .ref ar, .ref aq, .ref al, .ref am])), (ax, .inr (2, [.ref ta, .int (nI (0))])), (ta, .inl (cI, 56, .inl (fun _ => 0))), (aw, .inr (3, [.ref wd, .ref wt, .int (nI (0))])), (wd, .inl (cI, 4, .inl (fun _ => 0))), (wt, .inl (cI, 4, .inl (fun _ => 0))), (an, .inr (1, [.ref nc, .int (nI (0)), .int (nI 0), .int (nI 0), .int (nI 0)])), (nc, .inl (cI, 48, .inl (fun _ => 0))), (aa, .inr (0, [.ref rw, .int (nI (0))])), (rw, .inl (cS, 12, .inr (.inr (.inr (.inr g))))), (a0, .inr (1, [.ref c0, .int (nI 0), .int (nI 0), .int (nI 0), .int (nI 0)])), (c0, .inl (cI, 48, .inl (fun _ => 0))), (a1, .inr (1, [.ref c1, .int (nI 0), .int (nI 0), .int (nI 0), .int (nI 0)])), (c1, .inl (cI, 48, .inl (fun _ => 0))), (ar, .inr (1, [.ref rc, .int (nI 0), .int (nI 0), .int (nI 0), .int (nI 0)])), (rc, .inl (cI, 48, .inl (fun _ => 0))), (aq, .inr (1, [.ref qc, .int (nI 0), .int (nI 0), .int (nI 0), .int (nI 0)])), (qc, .inl (cI, 48, .inl (fun _ => 0))), (al, .inl (cI, 16, .inl (fun _ => 0))), (am, .inl (cI, 16, .inl (fun _ => 0)))] ++ poolW cI ra ca (fun _ => 0) (fun _ => 0) (fun _ => nI 0) (fun _ => nI 0) (fun _ _ => 0) = wc at hc ⊢
    obtain ⟨⟨fs, hfs⟩, hlc⟩ := CW_hd hc
    refine nwL_10 ok2 dL_law_8 (Nat.le_of_ble_eq_true rfl) (Nat.le_of_ble_eq_true rfl) (fun y => ?_)
    have ok3 := OKX_al (a := 1) (b := 25) (rc' := 17) (rs' := 1166) ok2 (Nat.le_of_ble_eq_true rfl) (Nat.le_of_ble_eq_true rfl)
    refine x_dup ok3 dL_law_11 rfl ?_
    refine qL_12 ok3 (As := []) (st := [.ref y]) (mc := 17) (ms := 1166) (i_Model l (dC, dI) cI cZ cS y) rfl (Nat.le_of_ble_eq_true rfl) (Nat.le_of_ble_eq_true rfl) (Nat.le_of_ble_eq_true rfl) dL_law_12 [44] (by decide) (by show [(wc ++ [_])[44]?] = [some _]; rw [List.getElem?_append_right (by omega), show 44 - wc.length = 0 by omega]; rfl) (List.range 44) (wr := wc) (law_hC1 hlc) (by decide) (by decide) (Nat.le_of_ble_eq_true rfl) (Nat.le_of_ble_eq_true rfl) (st' := fun u => [.ref y]) (fun _ => rfl) (fun u hu => ?_)
    obtain ⟨mt, md, ms, mrd, mrs, mrp, mp, mb, mk, mi, m1, m2, m3, ml, mf, mw, mn⟩ := u
    have ok4 := OKX_al (a := 17) (b := 1166) (rc' := 0) (rs' := 0) ok3 (Nat.le_of_ble_eq_true rfl) (Nat.le_of_ble_eq_true rfl)
    refine x_astore_n ok4 (lv' := [(2, .ref y), (1, .ref x), (0, .ref b)]) dL_law_15 rfl (by decide) rfl ?_
    refine x_iconst ok4 (nI 0) dL_law_16 (by decide) ?_
    refine x_istore_n ok4 (lv' := [(3, .int (nI 0)), (2, .ref y), (1, .ref x), (0, .ref b)]) dL_law_17 rfl (by decide) rfl ?_
    have hend : ∀ (ws : va_W) (lv : List (Nat × Value)), XX (KX_al (KX_al (KX_al (KX_al K 1 13) 43 1016) 1 25) 17 1166) ws lv 927 [.int (nI 1)] := fun ws lv => by
      rw [eK]
      exact law_end hx hb hr hlocks (Nat.le_of_ble_eq_true rfl) (Nat.le_of_ble_eq_true rfl) ws lv
    exact law_loop ok4 (KXs_al (KXs_al (KXs_al (KXs_al hX0)))) hL hend (L + 1) 0 (by omega) (Nat.zero_le _) [] [] 0 [] 0 (nI 0) (nI 0) [] 0 ([], 0, 0, 0) ([], 0, 0, 0) 0 wc _ oks_start hc mw_start
  have hl := lv_entry ([.ref b]) (n := 4) (Nat.le_of_ble_eq_true rfl)
  rw [lg_entry_eq]
  generalize (lg_sl ([.ref b]) ++ List.replicate (4 - (lg_sl ([.ref b])).length) Slot.unset).toArray = ls at hl ⊢
  have hl : lv_has ls 4 [(0, .ref b)] := hl
  rw [eK] at key
  exact key s.heap [] ls (fun k q h => by simp at h) ⟨fun i j p q h => by simp at h, fun k q h => by simp at h⟩ va_S.rf hl
