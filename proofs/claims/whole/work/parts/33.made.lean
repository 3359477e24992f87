/-! what is made -/
theorem KX_al_al (K : KA × KB) (a b c d : Nat) : KX_al (KX_al K a b) c d = KX_al K (a + c) (b + d) := by
  obtain ⟨x, H0, A, D, tys, nL, ce, sl, Q⟩ := K
  show (x, (H0, A, D, tys, nL, ce + a + c, sl + b + d, Q)) = (x, (H0, A, D, tys, nL, ce + (a + c), sl + (b + d), Q))
  rw [Nat.add_assoc, Nat.add_assoc]
theorem INI_al {K : KA × KB} {a b : Nat} (h : INI K) : INI (KX_al K a b) := by
  obtain ⟨⟨p, l, e, R, s, m, args, below, meth, c⟩, H0, A, D, tys, nL, ce, sl, Q⟩ := K
  exact h
theorem nI_cl (n : Nat) (h : n ≤ 1000) : (nI n).toNatClampNeg = n ∧ ¬ nI n < 0 := ⟨nI_clamp (by omega), nI_pos (by omega)⟩
theorem x_newa {K : KA × KB} {l0 : Launch} {D0 : va_G} {ty0 : List (ClassId × FieldType)} {cc : ByteArray} {own : String} {nL fr lo rc rs : Nat} {ws : va_W} {lv : List (Nat × Value)} {pc : Nat} {st : List Value} (ok : OKX K l0 D0 ty0 cc own nL fr lo rc rs) {atype : ArrayType} {ty : FieldType} (t0 : Nat) {c0 : ClassId} (N' : Nat) (ht : ty0[t0]? = some (c0, ty)) (hp : ty = .int ∨ ty = .boolean) (hty : newarray.typeOf atype = ty) (harr : Cond.arrayClass ty ∈ wA) (hd : decode cc pc = .ok (.newarray atype, 2)) (hN : N' ≤ 1000) (hrc : 1 ≤ rc) (hrs : N' ≤ rs) (k : ∀ q : Nat, XX (KX_al K 1 N') (ws ++ [(q, .inl (c0, N', .inl (fun _ => 0)))]) lv (pc + 2) (.ref q :: st)) : XX K ws lv pc (.int (nI N') :: st) := by
  obtain ⟨⟨p, l, e, R, s, m, args, below, meth, c⟩, H0, A, D, tys, nL', ce, sl, Q⟩ := K
  obtain ⟨⟨hx, hb, hml, hown, hts⟩, hK, hA, hfr, hlo, hce, hsl, rfl, rfl, rfl, rfl⟩ := ok
  intro H locs ls hP hD hS hl
  obtain ⟨n1, n2⟩ := nI_cl N' hN
  have hcb : componentBytes ty ≤ 8 := by rcases hp with rfl | rfl <;> decide
  have hdf : defaultValue ty = .int 0 := by rcases hp with rfl | rfl <;> rfl
  have hRA : va_RA s c0 ty := (hK.1.2 t0 _ ht).2
  refine va_newa hx hb (ty := ty) (a0 := (N', .inl (fun _ => 0))) (by rw [hty]; exact hts _ harr) hty hK.1 hP hD hS hA (fun cA => by rw [hdf]; rfl) n2 n1 (Nat.le_trans (Nat.mul_le_mul_left _ hcb) (by omega)) (by omega) (by omega) hd (fun q cA H1 hK1 hP1 hD1 hS1 => ?_)
  have hRB : va_RA s cA ty := (hK1.2 tys.length _ (by rw [List.getElem?_append_right (Nat.le_refl _), Nat.sub_self]; rfl)).2
  have e : cA = c0 := by
    rcases hp with rfl | rfl
    · have h1 : s.vm.findClass ("[" ++ FieldType.int.toString) = some c0 := hRA
      have h2 : s.vm.findClass ("[" ++ FieldType.int.toString) = some cA := hRB
      rw [h1] at h2; exact (Option.some.inj h2).symm
    · have h1 : s.vm.findClass ("[" ++ FieldType.boolean.toString) = some c0 := hRA
      have h2 : s.vm.findClass ("[" ++ FieldType.boolean.toString) = some cA := hRB
      rw [h1] at h2; exact (Option.some.inj h2).symm
  subst e
  exact k q H1 locs ls hP1 hD1 hS1 hl
theorem x_newq {K : KA × KB} {l0 : Launch} {D0 : va_G} {ty0 : List (ClassId × FieldType)} {cc : ByteArray} {own : String} {nL fr lo rc rs : Nat} {ws : va_W} {lv : List (Nat × Value)} {pc : Nat} {st : List Value} (ok : OKX K l0 D0 ty0 cc own nL fr lo rc rs) (t0 : Nat) {c0 : ClassId} {index : Nat} (N' : Nat) (ht : ty0[t0]? = some (c0, .object "WellEchoes$Songs")) (hcl : Cond.classLink own index "WellEchoes$Songs" ∈ wA) (hd : decode cc pc = .ok (.anewarray index, 3)) (hN : N' ≤ 1000) (hrc : 1 ≤ rc) (hrs : N' ≤ rs) (k : ∀ q : Nat, XX (KX_al K 1 N') (ws ++ [(q, .inl (c0, N', .inr (.inr (.inr (.inr (fun _ => none))))))]) lv (pc + 3) (.ref q :: st)) : XX K ws lv pc (.int (nI N') :: st) := by
  obtain ⟨⟨p, l, e, R, s, m, args, below, meth, c⟩, H0, A, D, tys, nL', ce, sl, Q⟩ := K
  obtain ⟨⟨hx, hb, hml, hown, hts⟩, hK, hA, hfr, hlo, hce, hsl, rfl, rfl, rfl, rfl⟩ := ok
  intro H locs ls hP hD hS hl
  obtain ⟨n1, n2⟩ := nI_cl N' hN
  have hRA : va_RA s c0 (.object "WellEchoes$Songs") := (hK.1.2 t0 _ ht).2
  refine va_newq hx hb hown (hts _ hcl) hK.2.2 hK.1 hP hD hS hA n2 n1 (by omega) (by omega) (by omega) hd (fun q cA H1 hK1 hP1 hD1 hS1 => ?_)
  have hRB : va_RA s cA (.object "WellEchoes$Songs") := (hK1.2 tys.length _ (by rw [List.getElem?_append_right (Nat.le_refl _), Nat.sub_self]; rfl)).2
  obtain ⟨k1, p1, -, -, -, h1⟩ := hRA
  obtain ⟨k2, p2, -, -, -, h2⟩ := hRB
  rw [h1] at h2
  obtain rfl := Option.some.inj h2
  exact k q H1 locs ls hP1 hD1 hS1 hl
theorem x_new {K : KA × KB} {l0 : Launch} {D0 : va_G} {ty0 : List (ClassId × FieldType)} {cc : ByteArray} {own : String} {nL fr lo rc rs : Nat} {ws : va_W} {lv : List (Nat × Value)} {pc : Nat} {st : List Value} (ok : OKX K l0 D0 ty0 cc own nL fr lo rc rs) {C : String} {T : u_T} {N index : Nat} (ci : Nat) {tyf : Nat → FieldType} {fs : List Value} (hin : ∀ w ∈ u_ws C T N, w ∈ wA) (hty : ∀ k, k < N → parseFieldDescriptor (T k).2.2.1 = some (tyf k)) (hcl : Cond.classLink own index C ∈ wA) (hinst : Cond.instantiable C N ∈ wA) (hini : Cond.initialized C ∈ wA) (hc : CL[ci]? = some (C, T, N)) (hfs : ∀ j, j < N → defaultValue (tyf j) = vp_V fs j) (hd : decode cc pc = .ok (.new index, 3)) (hrc : 1 ≤ rc) (hrs : N ≤ rs) (k : ∀ q : Nat, XX (KX_al K 1 N) (ws ++ [(q, .inr (ci, fs))]) lv (pc + 3) (.ref q :: st)) : XX K ws lv pc st := by
  obtain ⟨⟨p, l, e, R, s, m, args, below, meth, c⟩, H0, A, D, tys, nL', ce, sl, Q⟩ := K
  obtain ⟨⟨hx, hb, hml, hown, hts⟩, hK, hA, hfr, hlo, hce, hsl, rfl, rfl, rfl, rfl⟩ := ok
  intro H locs ls hP hD hS hl
  exact va_new hx hb hts hin tyf hty hown (hts _ hcl) (hts _ hinst) (hts _ hini) hK.1 hP hD hS hA hc hfs (by omega) (by omega) hd (fun q H1 hP1 hD1 hS1 => k q H1 locs ls hP1 hD1 hS1 hl)
theorem dvX0 : ∀ j, j < 2 → defaultValue (tyX0 j) = vp_V [.null, .int 0] j := by
  intro j hj
  have : j = 0 ∨ j = 1 := by omega
  rcases this with rfl | rfl <;> rfl
theorem dvX1 : ∀ j, j < 5 → defaultValue (tyX1 j) = vp_V [.null, .int 0, .int 0, .int 0, .int 0] j := by
  intro j hj
  have : j = 0 ∨ j = 1 ∨ j = 2 ∨ j = 3 ∨ j = 4 := by omega
  rcases this with rfl | rfl | rfl | rfl | rfl <;> rfl
theorem dvX2 : ∀ j, j < 2 → defaultValue (tyX2 j) = vp_V [.null, .int 0] j := by
  intro j hj
  have : j = 0 ∨ j = 1 := by omega
  rcases this with rfl | rfl <;> rfl
theorem dvX3 : ∀ j, j < 3 → defaultValue (tyX3 j) = vp_V [.null, .null, .int 0] j := by
  intro j hj
  have : j = 0 ∨ j = 1 ∨ j = 2 := by omega
  rcases this with rfl | rfl | rfl <;> rfl
theorem dvX4 : ∀ j, j < 13 → defaultValue (tyX4 j) = vp_V [.null, .null, .null, .null, .null, .null, .int 0, .int 0, .long 0, .null, .null, .null, .null] j := by
  intro j hj
  have : j = 0 ∨ j = 1 ∨ j = 2 ∨ j = 3 ∨ j = 4 ∨ j = 5 ∨ j = 6 ∨ j = 7 ∨ j = 8 ∨ j = 9 ∨ j = 10 ∨ j = 11 ∨ j = 12 := by omega
  rcases this with rfl | rfl | rfl | rfl | rfl | rfl | rfl | rfl | rfl | rfl | rfl | rfl | rfl <;> rfl
theorem dvX5 : ∀ j, j < 25 → defaultValue (tyX5 j) = vp_V [.int 0, .null, .int 0, .int 0, .int 0, .int 0, .null, .null, .int 0, .null, .null, .null, .null, .null, .int 0, .null, .null, .long 0, .null, .null, .null, .null, .null, .null, .null] j := by
  intro j hj
  have : j = 0 ∨ j = 1 ∨ j = 2 ∨ j = 3 ∨ j = 4 ∨ j = 5 ∨ j = 6 ∨ j = 7 ∨ j = 8 ∨ j = 9 ∨ j = 10 ∨ j = 11 ∨ j = 12 ∨ j = 13 ∨ j = 14 ∨ j = 15 ∨ j = 16 ∨ j = 17 ∨ j = 18 ∨ j = 19 ∨ j = 20 ∨ j = 21 ∨ j = 22 ∨ j = 23 ∨ j = 24 := by omega
  rcases this with rfl | rfl | rfl | rfl | rfl | rfl | rfl | rfl | rfl | rfl | rfl | rfl | rfl | rfl | rfl | rfl | rfl | rfl | rfl | rfl | rfl | rfl | rfl | rfl | rfl <;> rfl
theorem nwL_7 {K : KA × KB} {l0 : Launch} {D0 : va_G} {ty0 : List (ClassId × FieldType)} {cc : ByteArray} {nL fr lo rc rs : Nat} {ws : va_W} {lv : List (Nat × Value)} {pc : Nat} {st : List Value} (ok : OKX K l0 D0 ty0 cc RL nL fr lo rc rs) (hd : decode cc pc = .ok (.new 7, 3)) (hrc : 1 ≤ rc) (hrs : 13 ≤ rs) (k : ∀ q : Nat, XX (KX_al K 1 13) (ws ++ [(q, .inr (4, [.null, .null, .null, .null, .null, .null, .int 0, .int 0, .long 0, .null, .null, .null, .null]))]) lv (pc + 3) (.ref q :: st)) : XX K ws lv pc st := x_new ok 4 inX4 tyX4_ok KCL_7 KI_X4 N_X4 rfl dvX4 hd hrc hrs k
theorem nwX4_7 {K : KA × KB} {l0 : Launch} {D0 : va_G} {ty0 : List (ClassId × FieldType)} {cc : ByteArray} {nL fr lo rc rs : Nat} {ws : va_W} {lv : List (Nat × Value)} {pc : Nat} {st : List Value} (ok : OKX K l0 D0 ty0 cc RX4 nL fr lo rc rs) (hd : decode cc pc = .ok (.new 7, 3)) (hrc : 1 ≤ rc) (hrs : 2 ≤ rs) (k : ∀ q : Nat, XX (KX_al K 1 2) (ws ++ [(q, .inr (2, [.null, .int 0]))]) lv (pc + 3) (.ref q :: st)) : XX K ws lv pc st := x_new ok 2 inX2 tyX2_ok KCX4_7 KI_X2 N_X2 rfl dvX2 hd hrc hrs k
theorem nwX4_16 {K : KA × KB} {l0 : Launch} {D0 : va_G} {ty0 : List (ClassId × FieldType)} {cc : ByteArray} {nL fr lo rc rs : Nat} {ws : va_W} {lv : List (Nat × Value)} {pc : Nat} {st : List Value} (ok : OKX K l0 D0 ty0 cc RX4 nL fr lo rc rs) (hd : decode cc pc = .ok (.new 16, 3)) (hrc : 1 ≤ rc) (hrs : 3 ≤ rs) (k : ∀ q : Nat, XX (KX_al K 1 3) (ws ++ [(q, .inr (3, [.null, .null, .int 0]))]) lv (pc + 3) (.ref q :: st)) : XX K ws lv pc st := x_new ok 3 inX3 tyX3_ok KCX4_16 KI_X3 N_X3 rfl dvX3 hd hrc hrs k
theorem nwX4_23 {K : KA × KB} {l0 : Launch} {D0 : va_G} {ty0 : List (ClassId × FieldType)} {cc : ByteArray} {nL fr lo rc rs : Nat} {ws : va_W} {lv : List (Nat × Value)} {pc : Nat} {st : List Value} (ok : OKX K l0 D0 ty0 cc RX4 nL fr lo rc rs) (hd : decode cc pc = .ok (.new 23, 3)) (hrc : 1 ≤ rc) (hrs : 5 ≤ rs) (k : ∀ q : Nat, XX (KX_al K 1 5) (ws ++ [(q, .inr (1, [.null, .int 0, .int 0, .int 0, .int 0]))]) lv (pc + 3) (.ref q :: st)) : XX K ws lv pc st := x_new ok 1 inX1 tyX1_ok KCX4_23 KI_X1 N_X1 rfl dvX1 hd hrc hrs k
theorem nwX4_30 {K : KA × KB} {l0 : Launch} {D0 : va_G} {ty0 : List (ClassId × FieldType)} {cc : ByteArray} {nL fr lo rc rs : Nat} {ws : va_W} {lv : List (Nat × Value)} {pc : Nat} {st : List Value} (ok : OKX K l0 D0 ty0 cc RX4 nL fr lo rc rs) (hd : decode cc pc = .ok (.new 30, 3)) (hrc : 1 ≤ rc) (hrs : 2 ≤ rs) (k : ∀ q : Nat, XX (KX_al K 1 2) (ws ++ [(q, .inr (0, [.null, .int 0]))]) lv (pc + 3) (.ref q :: st)) : XX K ws lv pc st := x_new ok 0 inX0 tyX0_ok KCX4_30 KI_X0 N_X0 rfl dvX0 hd hrc hrs k
theorem nwX0_9 {K : KA × KB} {l0 : Launch} {D0 : va_G} {ty0 : List (ClassId × FieldType)} {cc : ByteArray} {nL fr lo rc rs : Nat} {ws : va_W} {lv : List (Nat × Value)} {pc : Nat} {st : List Value} (ok : OKX K l0 D0 ty0 cc RX0 nL fr lo rc rs) (hd : decode cc pc = .ok (.new 9, 3)) (hrc : 1 ≤ rc) (hrs : 5 ≤ rs) (k : ∀ q : Nat, XX (KX_al K 1 5) (ws ++ [(q, .inr (1, [.null, .int 0, .int 0, .int 0, .int 0]))]) lv (pc + 3) (.ref q :: st)) : XX K ws lv pc st := x_new ok 1 inX1 tyX1_ok KCX0_9 KI_X1 N_X1 rfl dvX1 hd hrc hrs k
theorem nwL_10 {K : KA × KB} {l0 : Launch} {D0 : va_G} {ty0 : List (ClassId × FieldType)} {cc : ByteArray} {nL fr lo rc rs : Nat} {ws : va_W} {lv : List (Nat × Value)} {pc : Nat} {st : List Value} (ok : OKX K l0 D0 ty0 cc RL nL fr lo rc rs) (hd : decode cc pc = .ok (.new 10, 3)) (hrc : 1 ≤ rc) (hrs : 25 ≤ rs) (k : ∀ q : Nat, XX (KX_al K 1 25) (ws ++ [(q, .inr (5, [.int 0, .null, .int 0, .int 0, .int 0, .int 0, .null, .null, .int 0, .null, .null, .null, .null, .null, .int 0, .null, .null, .long 0, .null, .null, .null, .null, .null, .null, .null]))]) lv (pc + 3) (.ref q :: st)) : XX K ws lv pc st := x_new ok 5 inX5 tyX5_ok KCL_10 KI_X5 N_X5 rfl dvX5 hd hrc hrs k
