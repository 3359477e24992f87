abbrev TY (cI cZ cS : ClassId) : List (ClassId × FieldType) := [(cI, .int), (cZ, .boolean), (cS, .object "WellEchoes$Songs")]
theorem nN {x : Int32} {a b : Nat} (h : x = nI a) (e : a = b) : x = nI b := e ▸ h
theorem nI_inc (i k : Nat) : nI i + Int32.ofInt (k : Int) = nI (i + k) := by
  rw [show Int32.ofInt (k : Int) = nI k from rfl]; exact nI_add i k
theorem nI_dec {i : Nat} (h : 1 ≤ i) : nI i + Int32.ofInt (-1) = nI (i - 1) := by
  obtain ⟨j, rfl⟩ : ∃ j, i = j + 1 := ⟨i - 1, by omega⟩
  exact pk_m1 j
theorem nI_nn (a : Nat) (h : a < 2 ^ 31) : ¬ nI a < 0 := nI_pos h
theorem nI_gt0 (a : Nat) (h : a < 2 ^ 31) : 0 < nI a ↔ 0 < a := (show (0 : Int32) = nI 0 from rfl) ▸ nI_ltI (by omega) h
theorem nI_eq0 (a : Nat) (h : a < 2 ^ 31) : nI a = 0 ↔ a = 0 := (show (0 : Int32) = nI 0 from rfl) ▸ nI_eq h (by omega)
theorem nI_le0 (a : Nat) (h : a < 2 ^ 31) : nI a ≤ 0 ↔ a = 0 := ((show (0 : Int32) = nI 0 from rfl) ▸ nI_leI h (by omega) : nI a ≤ 0 ↔ a ≤ 0).trans (by omega)
theorem nI_ge0 (a : Nat) (h : a < 2 ^ 31) : 0 ≤ nI a := nI_pos' h
theorem bz_ne (b : Bool) : bz b = 0 ↔ ¬ b = true := by cases b <;> decide
theorem bz_10 : (nI 1 = bz true) ∧ (nI 0 = bz false) := ⟨rfl, rfl⟩
theorem x_ldc2v {K : KA × KB} {l0 : Launch} {D0 : va_G} {ty0 : List (ClassId × FieldType)} {cc : ByteArray} {own : String} {nL fr lo rc rs : Nat} {ws : va_W} {lv : List (Nat × Value)} {pc : Nat} {st : List Value} (ok : OKX K l0 D0 ty0 cc own nL fr lo rc rs) {i : Nat} {v : Int64} (hc : Cond.constantLong own i v ∈ wA) {v' : Int64} (hv : v = v') (hd : decode cc pc = .ok (.ldc2_w i, 3)) (k : XX K ws lv (pc + 3) (.long v' :: st)) : XX K ws lv pc st := by
  obtain ⟨⟨p, l, e, R, s, m, args, below, meth, c⟩, H0, A, D, tys, nL', ce, sl, Q⟩ := K
  obtain ⟨⟨hx, hb, hml, hown, hts⟩, hK, hA, hfr, hlo, hce, hsl, rfl, rfl, rfl, rfl⟩ := ok
  intro H locs ls hP hD hS hl
  subst hv; exact lv_ldc2 hx hb hown (hts _ hc) hd (k H locs ls hP hD hS hl)
theorem x_if_eqB {K : KA × KB} {l0 : Launch} {D0 : va_G} {ty0 : List (ClassId × FieldType)} {cc : ByteArray} {own : String} {nL fr lo rc rs : Nat} {ws : va_W} {lv : List (Nat × Value)} {pc : Nat} {st : List Value} (ok : OKX K l0 D0 ty0 cc own nL fr lo rc rs) {b : Bool} {off : Int} (tgt : Nat) (hd : decode cc pc = .ok (.ifCond .eq off, 3)) (ht : (pc : Int) + off = (tgt : Int)) (kt : ¬ b = true → XX K ws lv tgt st) (kf : b = true → XX K ws lv (pc + 3) st) : XX K ws lv pc (.int (bz b) :: st) := by
  obtain ⟨⟨p, l, e, R, s, m, args, below, meth, c⟩, H0, A, D, tys, nL', ce, sl, Q⟩ := K
  obtain ⟨⟨hx, hb, hml, hown, hts⟩, hK, hA, hfr, hlo, hce, hsl, rfl, rfl, rfl, rfl⟩ := ok
  intro H locs ls hP hD hS hl
  exact lv_if_eq hx hb hd ht (fun q => kt ((bz_ne b).mp q) H locs ls hP hD hS hl) (fun q => kf (Classical.byContradiction fun z => q ((bz_ne b).mpr z)) H locs ls hP hD hS hl)
theorem x_if_neB {K : KA × KB} {l0 : Launch} {D0 : va_G} {ty0 : List (ClassId × FieldType)} {cc : ByteArray} {own : String} {nL fr lo rc rs : Nat} {ws : va_W} {lv : List (Nat × Value)} {pc : Nat} {st : List Value} (ok : OKX K l0 D0 ty0 cc own nL fr lo rc rs) {b : Bool} {off : Int} (tgt : Nat) (hd : decode cc pc = .ok (.ifCond .ne off, 3)) (ht : (pc : Int) + off = (tgt : Int)) (kt : b = true → XX K ws lv tgt st) (kf : ¬ b = true → XX K ws lv (pc + 3) st) : XX K ws lv pc (.int (bz b) :: st) := by
  obtain ⟨⟨p, l, e, R, s, m, args, below, meth, c⟩, H0, A, D, tys, nL', ce, sl, Q⟩ := K
  obtain ⟨⟨hx, hb, hml, hown, hts⟩, hK, hA, hfr, hlo, hce, hsl, rfl, rfl, rfl, rfl⟩ := ok
  intro H locs ls hP hD hS hl
  exact lv_if_ne hx hb hd ht (fun q => kt (Classical.byContradiction fun z => q ((bz_ne b).mpr z)) H locs ls hP hD hS hl) (fun q => kf ((bz_ne b).mp q) H locs ls hP hD hS hl)
theorem x_icmp_eqN {K : KA × KB} {l0 : Launch} {D0 : va_G} {ty0 : List (ClassId × FieldType)} {cc : ByteArray} {own : String} {nL fr lo rc rs : Nat} {ws : va_W} {lv : List (Nat × Value)} {pc : Nat} {st : List Value} (ok : OKX K l0 D0 ty0 cc own nL fr lo rc rs) {a b : Nat} {off : Int} (tgt : Nat) (hd : decode cc pc = .ok (.if_icmp .eq off, 3)) (ht : (pc : Int) + off = (tgt : Int)) (ha : a < 2 ^ 31) (hb2 : b < 2 ^ 31) (kt : a = b → XX K ws lv tgt st) (kf : ¬ a = b → XX K ws lv (pc + 3) st) : XX K ws lv pc (.int (nI b) :: .int (nI a) :: st) := by
  obtain ⟨⟨p, l, e, R, s, m, args, below, meth, c⟩, H0, A, D, tys, nL', ce, sl, Q⟩ := K
  obtain ⟨⟨hx, hb, hml, hown, hts⟩, hK, hA, hfr, hlo, hce, hsl, rfl, rfl, rfl, rfl⟩ := ok
  intro H locs ls hP hD hS hl
  exact lv_icmp_eq hx hb hd ht (fun q => kt ((nI_eq ha hb2).mp q) H locs ls hP hD hS hl) (fun q => kf (fun z => q ((nI_eq ha hb2).mpr z)) H locs ls hP hD hS hl)
theorem x_icmp_neN {K : KA × KB} {l0 : Launch} {D0 : va_G} {ty0 : List (ClassId × FieldType)} {cc : ByteArray} {own : String} {nL fr lo rc rs : Nat} {ws : va_W} {lv : List (Nat × Value)} {pc : Nat} {st : List Value} (ok : OKX K l0 D0 ty0 cc own nL fr lo rc rs) {a b : Nat} {off : Int} (tgt : Nat) (hd : decode cc pc = .ok (.if_icmp .ne off, 3)) (ht : (pc : Int) + off = (tgt : Int)) (ha : a < 2 ^ 31) (hb2 : b < 2 ^ 31) (kt : ¬ a = b → XX K ws lv tgt st) (kf : a = b → XX K ws lv (pc + 3) st) : XX K ws lv pc (.int (nI b) :: .int (nI a) :: st) := by
  obtain ⟨⟨p, l, e, R, s, m, args, below, meth, c⟩, H0, A, D, tys, nL', ce, sl, Q⟩ := K
  obtain ⟨⟨hx, hb, hml, hown, hts⟩, hK, hA, hfr, hlo, hce, hsl, rfl, rfl, rfl, rfl⟩ := ok
  intro H locs ls hP hD hS hl
  exact lv_icmp_ne hx hb hd ht (fun q => kt (fun z => q ((nI_eq ha hb2).mpr z)) H locs ls hP hD hS hl) (fun q => kf ((nI_eq ha hb2).mp q) H locs ls hP hD hS hl)
theorem x_icmp_ltN {K : KA × KB} {l0 : Launch} {D0 : va_G} {ty0 : List (ClassId × FieldType)} {cc : ByteArray} {own : String} {nL fr lo rc rs : Nat} {ws : va_W} {lv : List (Nat × Value)} {pc : Nat} {st : List Value} (ok : OKX K l0 D0 ty0 cc own nL fr lo rc rs) {a b : Nat} {off : Int} (tgt : Nat) (hd : decode cc pc = .ok (.if_icmp .lt off, 3)) (ht : (pc : Int) + off = (tgt : Int)) (ha : a < 2 ^ 31) (hb2 : b < 2 ^ 31) (kt : a < b → XX K ws lv tgt st) (kf : ¬ a < b → XX K ws lv (pc + 3) st) : XX K ws lv pc (.int (nI b) :: .int (nI a) :: st) := by
  obtain ⟨⟨p, l, e, R, s, m, args, below, meth, c⟩, H0, A, D, tys, nL', ce, sl, Q⟩ := K
  obtain ⟨⟨hx, hb, hml, hown, hts⟩, hK, hA, hfr, hlo, hce, hsl, rfl, rfl, rfl, rfl⟩ := ok
  intro H locs ls hP hD hS hl
  exact lv_icmp_lt hx hb hd ht (fun q => kt ((nI_ltI ha hb2).mp q) H locs ls hP hD hS hl) (fun q => kf (fun z => q ((nI_ltI ha hb2).mpr z)) H locs ls hP hD hS hl)
theorem x_icmp_geN {K : KA × KB} {l0 : Launch} {D0 : va_G} {ty0 : List (ClassId × FieldType)} {cc : ByteArray} {own : String} {nL fr lo rc rs : Nat} {ws : va_W} {lv : List (Nat × Value)} {pc : Nat} {st : List Value} (ok : OKX K l0 D0 ty0 cc own nL fr lo rc rs) {a b : Nat} {off : Int} (tgt : Nat) (hd : decode cc pc = .ok (.if_icmp .ge off, 3)) (ht : (pc : Int) + off = (tgt : Int)) (ha : a < 2 ^ 31) (hb2 : b < 2 ^ 31) (kt : b ≤ a → XX K ws lv tgt st) (kf : ¬ b ≤ a → XX K ws lv (pc + 3) st) : XX K ws lv pc (.int (nI b) :: .int (nI a) :: st) := by
  obtain ⟨⟨p, l, e, R, s, m, args, below, meth, c⟩, H0, A, D, tys, nL', ce, sl, Q⟩ := K
  obtain ⟨⟨hx, hb, hml, hown, hts⟩, hK, hA, hfr, hlo, hce, hsl, rfl, rfl, rfl, rfl⟩ := ok
  intro H locs ls hP hD hS hl
  exact lv_icmp_ge hx hb hd ht (fun q => kt ((nI_leI hb2 ha).mp q) H locs ls hP hD hS hl) (fun q => kf (fun z => q ((nI_leI hb2 ha).mpr z)) H locs ls hP hD hS hl)
theorem x_icmp_gtN {K : KA × KB} {l0 : Launch} {D0 : va_G} {ty0 : List (ClassId × FieldType)} {cc : ByteArray} {own : String} {nL fr lo rc rs : Nat} {ws : va_W} {lv : List (Nat × Value)} {pc : Nat} {st : List Value} (ok : OKX K l0 D0 ty0 cc own nL fr lo rc rs) {a b : Nat} {off : Int} (tgt : Nat) (hd : decode cc pc = .ok (.if_icmp .gt off, 3)) (ht : (pc : Int) + off = (tgt : Int)) (ha : a < 2 ^ 31) (hb2 : b < 2 ^ 31) (kt : b < a → XX K ws lv tgt st) (kf : ¬ b < a → XX K ws lv (pc + 3) st) : XX K ws lv pc (.int (nI b) :: .int (nI a) :: st) := by
  obtain ⟨⟨p, l, e, R, s, m, args, below, meth, c⟩, H0, A, D, tys, nL', ce, sl, Q⟩ := K
  obtain ⟨⟨hx, hb, hml, hown, hts⟩, hK, hA, hfr, hlo, hce, hsl, rfl, rfl, rfl, rfl⟩ := ok
  intro H locs ls hP hD hS hl
  exact lv_icmp_gt hx hb hd ht (fun q => kt ((nI_ltI hb2 ha).mp q) H locs ls hP hD hS hl) (fun q => kf (fun z => q ((nI_ltI hb2 ha).mpr z)) H locs ls hP hD hS hl)
theorem x_icmp_leN {K : KA × KB} {l0 : Launch} {D0 : va_G} {ty0 : List (ClassId × FieldType)} {cc : ByteArray} {own : String} {nL fr lo rc rs : Nat} {ws : va_W} {lv : List (Nat × Value)} {pc : Nat} {st : List Value} (ok : OKX K l0 D0 ty0 cc own nL fr lo rc rs) {a b : Nat} {off : Int} (tgt : Nat) (hd : decode cc pc = .ok (.if_icmp .le off, 3)) (ht : (pc : Int) + off = (tgt : Int)) (ha : a < 2 ^ 31) (hb2 : b < 2 ^ 31) (kt : a ≤ b → XX K ws lv tgt st) (kf : ¬ a ≤ b → XX K ws lv (pc + 3) st) : XX K ws lv pc (.int (nI b) :: .int (nI a) :: st) := by
  obtain ⟨⟨p, l, e, R, s, m, args, below, meth, c⟩, H0, A, D, tys, nL', ce, sl, Q⟩ := K
  obtain ⟨⟨hx, hb, hml, hown, hts⟩, hK, hA, hfr, hlo, hce, hsl, rfl, rfl, rfl, rfl⟩ := ok
  intro H locs ls hP hD hS hl
  exact lv_icmp_le hx hb hd ht (fun q => kt ((nI_leI ha hb2).mp q) H locs ls hP hD hS hl) (fun q => kf (fun z => q ((nI_leI ha hb2).mpr z)) H locs ls hP hD hS hl)
theorem x_if_eqN {K : KA × KB} {l0 : Launch} {D0 : va_G} {ty0 : List (ClassId × FieldType)} {cc : ByteArray} {own : String} {nL fr lo rc rs : Nat} {ws : va_W} {lv : List (Nat × Value)} {pc : Nat} {st : List Value} (ok : OKX K l0 D0 ty0 cc own nL fr lo rc rs) {a : Nat} {off : Int} (tgt : Nat) (hd : decode cc pc = .ok (.ifCond .eq off, 3)) (ht : (pc : Int) + off = (tgt : Int)) (ha : a < 2 ^ 31) (kt : a = 0 → XX K ws lv tgt st) (kf : ¬ a = 0 → XX K ws lv (pc + 3) st) : XX K ws lv pc (.int (nI a) :: st) := by
  obtain ⟨⟨p, l, e, R, s, m, args, below, meth, c⟩, H0, A, D, tys, nL', ce, sl, Q⟩ := K
  obtain ⟨⟨hx, hb, hml, hown, hts⟩, hK, hA, hfr, hlo, hce, hsl, rfl, rfl, rfl, rfl⟩ := ok
  intro H locs ls hP hD hS hl
  exact lv_if_eq hx hb hd ht (fun q => kt ((nI_eq0 a ha).mp q) H locs ls hP hD hS hl) (fun q => kf (fun z => q ((nI_eq0 a ha).mpr z)) H locs ls hP hD hS hl)
theorem x_if_neN {K : KA × KB} {l0 : Launch} {D0 : va_G} {ty0 : List (ClassId × FieldType)} {cc : ByteArray} {own : String} {nL fr lo rc rs : Nat} {ws : va_W} {lv : List (Nat × Value)} {pc : Nat} {st : List Value} (ok : OKX K l0 D0 ty0 cc own nL fr lo rc rs) {a : Nat} {off : Int} (tgt : Nat) (hd : decode cc pc = .ok (.ifCond .ne off, 3)) (ht : (pc : Int) + off = (tgt : Int)) (ha : a < 2 ^ 31) (kt : ¬ a = 0 → XX K ws lv tgt st) (kf : a = 0 → XX K ws lv (pc + 3) st) : XX K ws lv pc (.int (nI a) :: st) := by
  obtain ⟨⟨p, l, e, R, s, m, args, below, meth, c⟩, H0, A, D, tys, nL', ce, sl, Q⟩ := K
  obtain ⟨⟨hx, hb, hml, hown, hts⟩, hK, hA, hfr, hlo, hce, hsl, rfl, rfl, rfl, rfl⟩ := ok
  intro H locs ls hP hD hS hl
  exact lv_if_ne hx hb hd ht (fun q => kt (fun z => q ((nI_eq0 a ha).mpr z)) H locs ls hP hD hS hl) (fun q => kf ((nI_eq0 a ha).mp q) H locs ls hP hD hS hl)
theorem x_if_gtN {K : KA × KB} {l0 : Launch} {D0 : va_G} {ty0 : List (ClassId × FieldType)} {cc : ByteArray} {own : String} {nL fr lo rc rs : Nat} {ws : va_W} {lv : List (Nat × Value)} {pc : Nat} {st : List Value} (ok : OKX K l0 D0 ty0 cc own nL fr lo rc rs) {a : Nat} {off : Int} (tgt : Nat) (hd : decode cc pc = .ok (.ifCond .gt off, 3)) (ht : (pc : Int) + off = (tgt : Int)) (ha : a < 2 ^ 31) (kt : 0 < a → XX K ws lv tgt st) (kf : ¬ 0 < a → XX K ws lv (pc + 3) st) : XX K ws lv pc (.int (nI a) :: st) := by
  obtain ⟨⟨p, l, e, R, s, m, args, below, meth, c⟩, H0, A, D, tys, nL', ce, sl, Q⟩ := K
  obtain ⟨⟨hx, hb, hml, hown, hts⟩, hK, hA, hfr, hlo, hce, hsl, rfl, rfl, rfl, rfl⟩ := ok
  intro H locs ls hP hD hS hl
  exact lv_if_gt hx hb hd ht (fun q => kt ((nI_gt0 a ha).mp q) H locs ls hP hD hS hl) (fun q => kf (fun z => q ((nI_gt0 a ha).mpr z)) H locs ls hP hD hS hl)
theorem x_if_leN {K : KA × KB} {l0 : Launch} {D0 : va_G} {ty0 : List (ClassId × FieldType)} {cc : ByteArray} {own : String} {nL fr lo rc rs : Nat} {ws : va_W} {lv : List (Nat × Value)} {pc : Nat} {st : List Value} (ok : OKX K l0 D0 ty0 cc own nL fr lo rc rs) {a : Nat} {off : Int} (tgt : Nat) (hd : decode cc pc = .ok (.ifCond .le off, 3)) (ht : (pc : Int) + off = (tgt : Int)) (ha : a < 2 ^ 31) (kt : a = 0 → XX K ws lv tgt st) (kf : ¬ a = 0 → XX K ws lv (pc + 3) st) : XX K ws lv pc (.int (nI a) :: st) := by
  obtain ⟨⟨p, l, e, R, s, m, args, below, meth, c⟩, H0, A, D, tys, nL', ce, sl, Q⟩ := K
  obtain ⟨⟨hx, hb, hml, hown, hts⟩, hK, hA, hfr, hlo, hce, hsl, rfl, rfl, rfl, rfl⟩ := ok
  intro H locs ls hP hD hS hl
  exact lv_if_le hx hb hd ht (fun q => kt ((nI_le0 a ha).mp q) H locs ls hP hD hS hl) (fun q => kf (fun z => q ((nI_le0 a ha).mpr z)) H locs ls hP hD hS hl)
theorem x_if_ltN {K : KA × KB} {l0 : Launch} {D0 : va_G} {ty0 : List (ClassId × FieldType)} {cc : ByteArray} {own : String} {nL fr lo rc rs : Nat} {ws : va_W} {lv : List (Nat × Value)} {pc : Nat} {st : List Value} (ok : OKX K l0 D0 ty0 cc own nL fr lo rc rs) {a : Nat} {off : Int} (hd : decode cc pc = .ok (.ifCond .lt off, 3)) (ha : a < 2 ^ 31) (hto : 0 ≤ (pc : Int) + off) (k : XX K ws lv (pc + 3) st) : XX K ws lv pc (.int (nI a) :: st) := by
  obtain ⟨⟨p, l, e, R, s, m, args, below, meth, c⟩, H0, A, D, tys, nL', ce, sl, Q⟩ := K
  obtain ⟨⟨hx, hb, hml, hown, hts⟩, hK, hA, hfr, hlo, hce, hsl, rfl, rfl, rfl, rfl⟩ := ok
  intro H locs ls hP hD hS hl
  exact lv_if_lt hx hb hd (tgt := ((pc : Int) + off).toNat) (by omega) (fun q => absurd q (nI_nn a ha)) (fun _ => k H locs ls hP hD hS hl)
theorem x_if_geN {K : KA × KB} {l0 : Launch} {D0 : va_G} {ty0 : List (ClassId × FieldType)} {cc : ByteArray} {own : String} {nL fr lo rc rs : Nat} {ws : va_W} {lv : List (Nat × Value)} {pc : Nat} {st : List Value} (ok : OKX K l0 D0 ty0 cc own nL fr lo rc rs) {a : Nat} {off : Int} (tgt : Nat) (hd : decode cc pc = .ok (.ifCond .ge off, 3)) (ht : (pc : Int) + off = (tgt : Int)) (ha : a < 2 ^ 31) (k : XX K ws lv tgt st) : XX K ws lv pc (.int (nI a) :: st) := by
  obtain ⟨⟨p, l, e, R, s, m, args, below, meth, c⟩, H0, A, D, tys, nL', ce, sl, Q⟩ := K
  obtain ⟨⟨hx, hb, hml, hown, hts⟩, hK, hA, hfr, hlo, hce, hsl, rfl, rfl, rfl, rfl⟩ := ok
  intro H locs ls hP hD hS hl
  exact lv_if_ge hx hb hd ht (fun _ => k H locs ls hP hD hS hl) (fun q => absurd (nI_ge0 a ha) q)
theorem x_objInit {K : KA × KB} {l0 : Launch} {D0 : va_G} {ty0 : List (ClassId × FieldType)} {cc : ByteArray} {own : String} {nL fr lo rc rs : Nat} {ws : va_W} {lv : List (Nat × Value)} {pc : Nat} {st : List Value} (ok : OKX K l0 D0 ty0 cc own nL fr lo rc rs) {a idx : Nat} (h1 : Cond.methodLink own idx objectInit ∈ wA) (g1 : 1 ≤ fr) (g2 : (st.map fun v => v.category).sum + 12 ≤ lo) (hd : decode cc pc = .ok (.invokespecial idx, 3)) (k : XX K ws lv (pc + 3) st) : XX K ws lv pc (.ref a :: st) := by
  obtain ⟨⟨p, l, e, R, s, m, args, below, meth, c⟩, H0, A, D, tys, nL', ce, sl, Q⟩ := K
  obtain ⟨⟨hx, hb, hml, hown, hts⟩, hK, hA, hfr, hlo, hce, hsl, rfl, rfl, rfl, rfl⟩ := ok
  intro H locs ls hP hD hS hl
  exact W.objInit hx hb hown (hts _ h1) (hts _ M_objI) (hts _ M_objC) rfl (by rw [hml]; exact hl.1) rfl hd (Nat.le_trans g1 hfr) (by show 2 * 0 + _ + 12 ≤ _; omega) (k H locs ls hP hD hS hl)
theorem i32_toInt_nat {x : Int32} {j : Nat} (h : x.toInt = (j : Int)) (hj : j < 2 ^ 31) : x = nI j := Int32.toInt_inj.mp (by rw [h, nI_toInt hj])
theorem x_table {K : KA × KB} {l0 : Launch} {D0 : va_G} {ty0 : List (ClassId × FieldType)} {cc : ByteArray} {own : String} {nL fr lo rc rs : Nat} {ws : va_W} {lv : List (Nat × Value)} {pc : Nat} {st : List Value} (ok : OKX K l0 D0 ty0 cc own nL fr lo rc rs) {dflt lo0 hi : Int} {offs : Array Int} {len : Nat} {x : Int32} {tgts : List Nat} (td : Nat) (hd : decode cc pc = .ok (.tableswitch dflt lo0 hi offs, len)) (hlo0 : lo0 = 0) (htg : offs.toList = tgts.map (fun t : Nat => (t : Int) - (pc : Int))) (htd : (pc : Int) + dflt = (td : Int)) (hhi : hi + 1 = offs.size ∧ offs.size < 2 ^ 31) (kd : ¬ (0 ≤ x.toInt ∧ x.toInt < offs.size) → XX K ws lv td st) (k : ∀ (j t : Nat), tgts[j]? = some t → x = nI j → XX K ws lv t st) : XX K ws lv pc (.int x :: st) := by
  obtain ⟨⟨p, l, e, R, s, m, args, below, meth, c⟩, H0, A, D, tys, nL', ce, sl, Q⟩ := K
  obtain ⟨⟨hx, hb, hml, hown, hts⟩, hK, hA, hfr, hlo, hce, hsl, rfl, rfl, rfl, rfl⟩ := ok
  intro H locs ls hP hD hS hl
  subst hlo0
  by_cases h : x.toInt < 0 ∨ hi < x.toInt
  · exact lv_tableOut hx hb hd h htd (kd (by omega) H locs ls hP hD hS hl)
  · have h1 : ¬ x.toInt < 0 := fun q => h (Or.inl q)
    have h2 : ¬ hi < x.toInt := fun q => h (Or.inr q)
    obtain ⟨j, hj⟩ : ∃ j : Nat, x.toInt = (j : Int) := ⟨x.toInt.toNat, by omega⟩
    have hl2 : j < tgts.length := by
      have := congrArg List.length htg
      simp only [Array.length_toList, List.length_map] at this
      omega
    have ht : tgts[j]? = some tgts[j] := List.getElem?_eq_getElem hl2
    have ho : offs[(x.toInt - 0).toNat]? = some ((tgts[j] : Int) - pc) := by
      have e1 : (x.toInt - 0).toNat = j := by omega
      rw [e1, ← Array.getElem?_toList, htg, List.getElem?_map, ht]
      rfl
    exact lv_tableIn hx hb hd h1 h2 ho (by omega) (k j _ ht (i32_toInt_nat hj (by omega)) H locs ls hP hD hS hl)
