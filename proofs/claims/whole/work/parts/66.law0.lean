/-! THE CLAIM OUT OF ONE WALK OF THE LAW'S BODY. Your part is whole_start (and what it stands on); all else here is the same for every law, but numbers. -/
def R_law : String := "WellEchoesLaw"
def lw_P (b : Addr) (xs : List Int32) (args : Array Value) (s : State) : Prop := args = #[.ref b] ∧ s.IntsAt b xs ∧ xs.length ≤ 2560 ∧ (Jvm.Cond.and given_1 narrow_1).before args s = true
def lw_Q (_ : Array Value) (s : State) (o : Outcome) (t : State) : Prop := o = .returned (some (.int 1)) ∧ Framed s o t [] 600000 7302250
def lw_Z (below : List Frame) (a : Array Value) (s : State) : State → Prop := fun t => ∃ o, t.status = .running ∧ Ended t below o ∧ lw_Q a s o t
/-- the law's own end, with 1 on the stack, nothing written that was there before, its room as the claim has it -/
theorem lw_ret {p : Program} {l : Launch} {e : Env} {s : State} {m : MethodId} {below : List Frame} {meth : Method} {c : Code} {b : Nat} (hx : p.tables.exec = Jvm.exec) (hb : c.code = code) (hr : meth.sig.returnType = ret) (hlocks : meth.locks = false) {pc : Nat} {H : Heap} {ls : Array Slot} (hdg : decode code pc = .ok (.ireturn, 1)) : W p l e room_1 s m #[Value.ref b] below meth c H [] 600000 7302250 (lw_Z below #[Value.ref b] s) (F0 m pc ls [.int 1]) := by
  intro T hT X
  obtain ⟨fs, hret, hrun, hended, hW, hframe⟩ := X.leave (v := some (.int 1)) (hlocks := hlocks) (fun h => by rw [hr] at h; cases h)
  have hmeth' : T.vm.method? m = some meth := X.method'
  refine ⟨T.setFrames fs, ?_, .returned (some (.int 1)), hrun, hended, rfl, ⟨_, rfl⟩, hW, hframe⟩
  jvm_step X.here [X.here.top, hx, hb, hdg, hmeth', hr, ret, narrow_b1]
  (try refine ⟨rfl, ?_⟩); (try refine ⟨rfl, ?_⟩)
  first | (intro acts; rw [hret _ acts rfl rfl rfl]) | rw [hret _ _ rfl rfl rfl]
  exact Steps.refl _
/-- what holds at the law's entry: the machine, the code, the tables' words (any of lw_tbl by 'hts w (by decide +kernel)'), the script of L ints xs at the cell b, what the Statement gives of the start (any of its parts by flat_of_before) -/
def lw_At (p : Program) (s : State) (m : MethodId) (meth : Method) (c : Code) (b L : Nat) (xs : Nat → Int32) : Prop :=
  p.tables.exec = Jvm.exec ∧ c.code = code ∧ meth.sig.returnType = ret ∧ c.maxLocals = 4 ∧ s.vm.findClass R_law = some m.cls ∧ (∀ w ∈ lw_tbl, w.before #[Value.ref b] s = true) ∧ va_X b L xs s s.heap ∧ b < s.heap.size ∧ meth.locks = false ∧ (Jvm.Cond.and given_1 narrow_1).before #[Value.ref b] s = true
theorem nI_off (a : Nat) : nI a = Int32.ofNat a := rfl
/-- the script, in the judgement's words -/
def KXs (K : KA × KB) (b N : Nat) (xs : Nat → Int32) : Prop :=
  match K with
  | ((_p, _l, _e, _R, s, _m, _args, _below, _meth, _c), (H0, A, _D, _tys, _nL, _ce, _sl, _Q)) => va_X b N xs s H0 ∧ b < H0.size ∧ ¬ A b
theorem KXs_al {K : KA × KB} {b N a1 a2 : Nat} {xs : Nat → Int32} (h : KXs K b N xs) : KXs (KX_al K a1 a2) b N xs := by
  obtain ⟨⟨p, l, e, R, s, m, args, below, meth, c⟩, H0, A, D, tys, nL', ce, sl, Q⟩ := K
  exact h
theorem x_sld {K : KA × KB} {l0 : Launch} {D0 : va_G} {ty0 : List (ClassId × FieldType)} {cc : ByteArray} {own : String} {nL fr lo rc rs : Nat} {ws : va_W} {lv : List (Nat × Value)} {pc : Nat} {st : List Value} (ok : OKX K l0 D0 ty0 cc own nL fr lo rc rs) {b N : Nat} {xs : Nat → Int32} (hX : KXs K b N xs) (hN : N ≤ 2560) (i : Nat) (hi : i < N) (hd : decode cc pc = .ok (.iaload, 1)) (k : XX K ws lv (pc + 1) (.int (xs i) :: st)) : XX K ws lv pc (.int (nI i) :: .ref b :: st) := by
  obtain ⟨⟨p, l, e, R, s, m, args, below, meth, c⟩, H0, A, D, tys, nL', ce, sl, Q⟩ := K
  obtain ⟨⟨hx, hb, hml, hown, hts⟩, hK, hA, hfr, hlo, hce, hsl, rfl, rfl, rfl, rfl⟩ := ok
  obtain ⟨h1, h2, h3⟩ := hX
  intro H locs ls hP hD hS hl
  refine va_sld hx hb h1 h2 h3 hS (vp_in_nI hi (by omega)) hd ?_
  rw [nI_clamp (by omega)]
  exact k H locs ls hP hD hS hl
theorem x_slen {K : KA × KB} {l0 : Launch} {D0 : va_G} {ty0 : List (ClassId × FieldType)} {cc : ByteArray} {own : String} {nL fr lo rc rs : Nat} {ws : va_W} {lv : List (Nat × Value)} {pc : Nat} {st : List Value} (ok : OKX K l0 D0 ty0 cc own nL fr lo rc rs) {b N : Nat} {xs : Nat → Int32} (hX : KXs K b N xs) (hd : decode cc pc = .ok (.arraylength, 1)) (k : XX K ws lv (pc + 1) (.int (nI N) :: st)) : XX K ws lv pc (.ref b :: st) := by
  obtain ⟨⟨p, l, e, R, s, m, args, below, meth, c⟩, H0, A, D, tys, nL', ce, sl, Q⟩ := K
  obtain ⟨⟨hx, hb, hml, hown, hts⟩, hK, hA, hfr, hlo, hce, hsl, rfl, rfl, rfl, rfl⟩ := ok
  obtain ⟨h1, h2, h3⟩ := hX
  intro H locs ls hP hD hS hl
  exact va_slen hx hb h1 h2 h3 hS hd (k H locs ls hP hD hS hl)
theorem lg_self (v : Int64) : lg_cmp v v = 0 := by
  have h : ¬ v < v := fun q => by
    rw [Int64.lt_iff_toInt_lt] at q
    omega
  rw [lg_cmp, if_neg h, if_pos rfl]
/-- the loop's head, with j calls read -/
def LI (K : KA × KB) (cI cZ cS : ClassId) (x y b j : Nat) : Prop := ∀ (T : List Nat) (Ws : List (Nat × Nat)) (ll : Nat) (L : List Sg) (li : Nat) (ye : Int32) (br : Int32) (As : List SS) (sk : Nat) (s0 : SS) (s1 : SS) (sd : Int64) (wc wm : va_W), OKS j T Ws L li As sk s0 s1 → CW cI cS x T Ws ll L li ye br As sk s0 s1 sd wc → MW cI cZ y T Ws ll L li ye br As sk s0 s1 sd wm → XX K (wc ++ wm) [(3, .int (nI (j * 5))), (2, .ref y), (1, .ref x), (0, .ref b)] 18 []
theorem law_nx {K : KA × KB} {l : Launch} {D : va_G} {cI cZ cS : ClassId} {x y b k : Nat} (ok : OKX K l D (TY cI cZ cS) cL_law RL 4 9 375 0 0) (ih : LI K cI cZ cS x y b (k + 1)) {T : List Nat} {Ws : List (Nat × Nat)} {ll : Nat} {L : List Sg} {li : Nat} {ye : Int32} {br : Int32} {As : List SS} {sk : Nat} {s0 : SS} {s1 : SS} {sd : Int64} {wc wm : va_W} (hS : OKS (k + 1) T Ws L li As sk s0 s1) (hc : CW cI cS x T Ws ll L li ye br As sk s0 s1 sd wc) (hm : MW cI cZ y T Ws ll L li ye br As sk s0 s1 sd wm) : XX K (wc ++ wm) [(3, .int (nI (k * 5))), (2, .ref y), (1, .ref x), (0, .ref b)] 920 [] := by
  refine x_iinc ok (v := nI (k * 5 + 5)) (lv' := [(3, .int (nI (k * 5 + 5))), (2, .ref y), (1, .ref x), (0, .ref b)]) dL_law_920 0 rfl (nI_inc _ 5) (by decide) rfl ?_
  refine x_goto ok 18 dL_law_923 (by decide) ?_
  have q := ih T Ws ll L li ye br As sk s0 s1 sd wc wm hS hc hm
  rw [show (k + 1) * 5 = k * 5 + 5 by omega] at q
  exact q
