/-! THE JUDGEMENT XX: a walk over a world of named cells; the context in one K -/
abbrev CL : List vw_C := [(RX0, TX0, 2), (RX1, TX1, 5), (RX2, TX2, 2), (RX3, TX3, 3), (RX4, TX4, 13), (RX5, TX5, 25)]
def wA : List Cond := lw_tbl.filter goodWord
theorem wA_mem {w : Cond} (h : w ∈ lw_tbl) (g : goodWord w = true) : w ∈ wA := List.mem_filter.mpr ⟨h, g⟩
theorem wA_t {w : Cond} (i : Nat) (h : tables_1[i]? = some w) (g : goodWord w = true) : w ∈ wA := wA_mem (List.mem_append_right _ (List.mem_of_getElem? h)) g
theorem wA_p {w : Cond} (i : Nat) (h : (k2_sels lw_privs)[i]? = some w) (g : goodWord w = true) : w ∈ wA := wA_mem (List.mem_append_left _ (List.mem_of_getElem? h)) g
theorem wA_g {w : Cond} (h : w ∈ wA) : (w.onTables && w.keeps) = true ∨ ∃ ty, w = .arrayClass ty := good_of_word (List.mem_filter.mp h).2
theorem wA_in : GoodIn wA wA := fun _ h => ⟨h, wA_g h⟩
theorem wA_cons {w : Cond} (hw : w ∈ wA) {ws : List Cond} (h : GoodIn wA ws) : GoodIn wA (w :: ws) := fun v hv => by
  rcases List.mem_cons.mp hv with rfl | hv
  · exact ⟨hw, wA_g hw⟩
  · exact h v hv
/-- the nest mates' links, and the array of Songs -/
def nestW : List Cond := [
  .fieldLinkNest RX4 60 "WellEchoes$Text" "length" "I" RX4, .fieldLinkNest RX4 68 "WellEchoes$Wells" "count" "I" RX4,
  .fieldLinkNest RX4 88 "WellEchoes$Songs" "count" "I" RX4, .fieldLinkNest RX4 109 "WellEchoes$Songs" "lids" "I" RX4,
  .fieldLinkNest RX4 103 "WellEchoes$Songs" "years" "I" RX4, .fieldLinkNest RX4 106 "WellEchoes$Songs" "breath" "I" RX4,
  .fieldLinkNest RX4 74 "WellEchoes$Acts" "count" "I" RX4,
  .methodLinkNest RX4 9 yX2_init RX4, .methodLinkNest RX4 18 yX3_init RX4, .methodLinkNest RX4 25 yX1_init RX4,
  .methodLinkNest RX0 17 yX1_init RX4, .methodLinkNest RX2 34 yX4_isWithin RX4]
def NW (U : State) : Prop := ∀ w ∈ nestW, va_Nw w U
theorem NW.warm {s U : State} (hW : s.WarmedH U.vm) (h : NW s) : NW U := by
  intro w hw
  have h1 := h w hw
  simp only [nestW, List.mem_cons, List.not_mem_nil, or_false] at hw
  rcases hw with rfl | rfl | rfl | rfl | rfl | rfl | rfl | rfl | rfl | rfl | rfl | rfl
  all_goals first | exact va_Nw.warmF hW h1 | exact va_Nw.warmM hW h1
theorem NW.same {u U : State} (hv : u.vm = U.vm) (h : NW u) : NW U := by
  intro w hw
  have h1 := h w hw
  simp only [nestW, List.mem_cons, List.not_mem_nil, or_false] at hw
  rcases hw with rfl | rfl | rfl | rfl | rfl | rfl | rfl | rfl | rfl | rfl | rfl | rfl
  all_goals exact va_Nw.same rfl hv h1
def VK (D : va_G) (tys : List (ClassId × FieldType)) (U : State) : Prop := va_K D CL tys U ∧ NW U ∧ va_AO "WellEchoes$Songs" U
theorem VK.warm {D : va_G} {tys : List (ClassId × FieldType)} {s U : State} (hW : s.WarmedH U.vm) (h : VK D tys s) : VK D tys U := ⟨va_K.moved hW.alike h.1, h.2.1.warm hW, h.2.2.moved hW.alike⟩
theorem VK.same {D : va_G} {tys : List (ClassId × FieldType)} {u U : State} (hv : u.vm = U.vm) (h : VK D tys u) : VK D tys U := ⟨va_K.moved (by rw [hv]; exact Vm.Alike.refl U.vm) h.1, h.2.1.same hv, h.2.2.moved (by rw [hv]; exact Vm.Alike.refl U.vm)⟩
abbrev KA : Type := Program × Launch × Env × Room × State × MethodId × Array Value × List Frame × Method × Code
abbrev KB : Type := Heap × (Nat → Prop) × va_G × List (ClassId × FieldType) × Nat × Nat × Nat × (State → Prop)
def XX (K : KA × KB) (ws : va_W) (lv : List (Nat × Value)) (pc : Nat) (st : List Value) : Prop :=
  match K with
  | ((p, l, e, R, s, m, args, below, meth, c), (H0, A, D, tys, nL, ce, sl, Q)) =>
    ∀ (H : Heap) (locs : List Loc) (ls : Array Slot), va_P D CL ws H → va_D A ws → va_S A H0 H locs → lv_has ls nL lv → W p l e R s m args below meth c H locs ce sl Q (F0 m pc ls st)
/-- the context's facts: code, class, room left (frames, locals' words, cells, slots) -/
def OKX (K : KA × KB) (l0 : Launch) (D0 : va_G) (tys0 : List (ClassId × FieldType)) (cc : ByteArray) (own : String) (nL0 fr lo rc rs : Nat) : Prop :=
  match K with
  | ((p, l, _e, R, s, m, args, _below, _meth, c), (H0, A, D, tys, nL, ce, sl, _Q)) =>
    (p.tables.exec = Jvm.exec ∧ c.code = cc ∧ c.maxLocals = nL ∧ s.vm.findClass own = some m.cls ∧ ∀ w ∈ wA, w.before args s = true) ∧ VK D tys s ∧ (∀ q : Nat, H0.size ≤ q → A q) ∧ fr ≤ R.frames ∧ lo ≤ R.locals ∧ ce + rc ≤ R.cells ∧ sl + rs ≤ R.slots ∧ l = l0 ∧ D = D0 ∧ tys = tys0 ∧ nL = nL0
def KX_al (K : KA × KB) (a b : Nat) : KA × KB :=
  match K with
  | (x, (H0, A, D, tys, nL, ce, sl, Q)) => (x, (H0, A, D, tys, nL, ce + a, sl + b, Q))
def QG {σ : Type} (rv : σ → Option Value) (post : σ → Prop) (B : σ → State → Prop) (A : Nat → Prop) : Array Value → State → Outcome → State → Prop := fun _ st oc t => (∃ u : σ, oc = .returned (rv u) ∧ post u ∧ B u t) ∧ va_F A st t
/-- A CONTRACT: from the world wc, with the arguments av, y returns rv u, the world is cs u, and po u holds; mc cells of ms slots are new -/
def CO (l : Launch) (D : va_G) (tys : List (ClassId × FieldType)) (y : MethodName) (bytes : ByteArray) (maxL : Nat) (ret : Option FieldType) (fr lo mc ms : Nat) (av : List Value) (wc : va_W) {σ : Type} (rv : σ → Option Value) (cs : σ → va_W) (po : σ → Prop) : Prop :=
  ∀ sz : Nat, Met l y (Cond.code y bytes maxL ret :: wA) { frames := fr, cells := mc, slots := ms, locals := lo } (va_Pc av (fun U => U.heap.size = sz ∧ va_P D CL wc U.heap ∧ VK D tys U ∧ va_D (fun _ => True) wc)) (QG rv po (fun u t => va_P D CL (cs u) t.heap ∧ va_D (va_A wc sz) (cs u)) (va_A wc sz)) mc ms (va_A wc sz)
theorem fm_of {α β : Type} {f : α → Option β} {is : List α} {ws : List β} (h : is.map f = ws.map some) : is.filterMap f = ws := by
  have h1 : is.filterMap f = (is.map f).filterMap id := by rw [List.filterMap_map]; rfl
  rw [h1, h, List.filterMap_map]
  exact List.filterMap_some
theorem KX_al0 (K : KA × KB) : KX_al K 0 0 = K := by
  obtain ⟨x, H0, A, D, tys, nL, ce, sl, Q⟩ := K
  rfl
theorem OKX_al {K : KA × KB} {l0 : Launch} {D0 : va_G} {tys0 : List (ClassId × FieldType)} {cc : ByteArray} {own : String} {nL fr lo rc rs a b rc' rs' : Nat} (ok : OKX K l0 D0 tys0 cc own nL fr lo rc rs) (h1 : a + rc' ≤ rc) (h2 : b + rs' ≤ rs) : OKX (KX_al K a b) l0 D0 tys0 cc own nL fr lo rc' rs' := by
  obtain ⟨⟨p, l, e, R, s, m, args, below, meth, c⟩, H0, A, D, tys, nL, ce, sl, Q⟩ := K
  obtain ⟨a1, a2, a3, a4, a5, a6, a7, a8⟩ := ok
  exact ⟨a1, a2, a3, a4, a5, by omega, by omega, a8⟩
def INI (K : KA × KB) : Prop :=
  match K with
  | ((_p, _l, _e, _R, _s, _m, _args, _below, meth, _c), _) => meth.name = "<init>"
def bz (b : Bool) : Int32 := if b = true then 1 else 0
theorem bz_t : bz true = 1 := rfl
theorem bz_f : bz false = 0 := rfl
theorem bz_nar (b : Bool) : narrow .boolean (.int (bz b)) = .int (bz b) := by cases b <;> rfl
theorem CO_mki {l : Launch} {D : va_G} {tys : List (ClassId × FieldType)} {y : MethodName} {bytes : ByteArray} {maxL : Nat} {fr lo : Nat} {av : List Value} {wc : va_W} {σ : Type} {vf : σ → Int32} {cs : σ → va_W} {po : σ → Prop}
    (hy : plainName y.cls = true) (hn : (lg_sl av).length ≤ maxL)
    (h : ∀ K : KA × KB, OKX K l D tys bytes y.cls maxL fr lo 0 0 → (∀ (u : σ) (ws : va_W) (lv : List (Nat × Value)) (pc : Nat) (v : Int32), decode bytes pc = .ok (.ireturn, 1) → cs u = ws → vf u = v → po u → XX K ws lv pc [.int v]) → XX K wc (lv_args 0 av) 0 []) : CO l D tys y bytes maxL (some .int) fr lo 0 0 av wc (fun u => some (.int (vf u))) cs po := by
  intro sz
  refine Met.ofW (cc := bytes) (maxL := maxL) (ret := (some .int)) hy rfl ?_
  intro p e s m args below meth c s₁ B hml hv
  obtain ⟨rfl, hsz, hP, hK, hD0⟩ := hv
  have hx := B.exec
  have hb := B.bytes
  have hr := B.returns
  have hts := atoms_spec (ws := Cond.code y bytes maxL (some .int) :: wA) B.pre
  have hown : s.vm.findClass y.cls = some m.cls := findClass_of_methodNamed B.named
  have hlocks := B.notSynchronized
  subst hsz
  rw [lg_entry_eq]
  have hl := lv_entry av hn
  have hS0 : va_S (va_A wc s.heap.size) s.heap s.heap [] := va_S.rf
  refine h ((p, l, e, { frames := fr, cells := 0, slots := 0, locals := lo }, s, m, av.toArray, below, meth, c), (s.heap, va_A wc s.heap.size, D, tys, maxL, 0, 0, MQ below (QG (fun u => some (.int (vf u))) po (fun u t => va_P D CL (cs u) t.heap ∧ va_D (va_A wc s.heap.size) (cs u)) (va_A wc s.heap.size)) av.toArray s 0 0 (va_A wc s.heap.size))) ⟨⟨hx, hb, hml, hown, fun w hw => hts w (List.mem_cons_of_mem _ hw)⟩, hK, fun q hq => Or.inr hq, Nat.le_refl _, Nat.le_refl _, Nat.le_refl _, Nat.le_refl _, rfl, rfl, rfl, rfl⟩ ?_ s.heap [] _ hP hD0.self hS0 hl
  · intro u ws lv pc v hd hc hv hp
    subst hv
    subst hc
    intro H locs ls hP hD hS hl
    exact W.iret hx hb hr (fun t ht hW => ⟨⟨u, rfl, hp, by rw [ht]; exact hP, hD⟩, hS.F ht⟩) hS.2.2 hd
theorem CO_mkz {l : Launch} {D : va_G} {tys : List (ClassId × FieldType)} {y : MethodName} {bytes : ByteArray} {maxL : Nat} {fr lo : Nat} {av : List Value} {wc : va_W} {σ : Type} {vf : σ → Bool} {cs : σ → va_W} {po : σ → Prop}
    (hy : plainName y.cls = true) (hn : (lg_sl av).length ≤ maxL)
    (h : ∀ K : KA × KB, OKX K l D tys bytes y.cls maxL fr lo 0 0 → (∀ (u : σ) (ws : va_W) (lv : List (Nat × Value)) (pc : Nat) (v : Bool), decode bytes pc = .ok (.ireturn, 1) → cs u = ws → vf u = v → po u → XX K ws lv pc [.int (bz v)]) → XX K wc (lv_args 0 av) 0 []) : CO l D tys y bytes maxL (some .boolean) fr lo 0 0 av wc (fun u => some (.int (bz (vf u)))) cs po := by
  intro sz
  refine Met.ofW (cc := bytes) (maxL := maxL) (ret := (some .boolean)) hy rfl ?_
  intro p e s m args below meth c s₁ B hml hv
  obtain ⟨rfl, hsz, hP, hK, hD0⟩ := hv
  have hx := B.exec
  have hb := B.bytes
  have hr := B.returns
  have hts := atoms_spec (ws := Cond.code y bytes maxL (some .boolean) :: wA) B.pre
  have hown : s.vm.findClass y.cls = some m.cls := findClass_of_methodNamed B.named
  have hlocks := B.notSynchronized
  subst hsz
  rw [lg_entry_eq]
  have hl := lv_entry av hn
  have hS0 : va_S (va_A wc s.heap.size) s.heap s.heap [] := va_S.rf
  refine h ((p, l, e, { frames := fr, cells := 0, slots := 0, locals := lo }, s, m, av.toArray, below, meth, c), (s.heap, va_A wc s.heap.size, D, tys, maxL, 0, 0, MQ below (QG (fun u => some (.int (bz (vf u)))) po (fun u t => va_P D CL (cs u) t.heap ∧ va_D (va_A wc s.heap.size) (cs u)) (va_A wc s.heap.size)) av.toArray s 0 0 (va_A wc s.heap.size))) ⟨⟨hx, hb, hml, hown, fun w hw => hts w (List.mem_cons_of_mem _ hw)⟩, hK, fun q hq => Or.inr hq, Nat.le_refl _, Nat.le_refl _, Nat.le_refl _, Nat.le_refl _, rfl, rfl, rfl, rfl⟩ ?_ s.heap [] _ hP hD0.self hS0 hl
  · intro u ws lv pc v hd hc hv hp
    subst hv
    subst hc
    intro H locs ls hP hD hS hl
    exact W.zret hx hb hr (bz_nar _) (fun t ht hW => ⟨⟨u, rfl, hp, by rw [ht]; exact hP, hD⟩, hS.F ht⟩) hS.2.2 hd
theorem CO_mkl {l : Launch} {D : va_G} {tys : List (ClassId × FieldType)} {y : MethodName} {bytes : ByteArray} {maxL : Nat} {fr lo : Nat} {av : List Value} {wc : va_W} {σ : Type} {vf : σ → Int64} {cs : σ → va_W} {po : σ → Prop}
    (hy : plainName y.cls = true) (hn : (lg_sl av).length ≤ maxL)
    (h : ∀ K : KA × KB, OKX K l D tys bytes y.cls maxL fr lo 0 0 → (∀ (u : σ) (ws : va_W) (lv : List (Nat × Value)) (pc : Nat) (v : Int64), decode bytes pc = .ok (.lreturn, 1) → cs u = ws → vf u = v → po u → XX K ws lv pc [.long v]) → XX K wc (lv_args 0 av) 0 []) : CO l D tys y bytes maxL (some .long) fr lo 0 0 av wc (fun u => some (.long (vf u))) cs po := by
  intro sz
  refine Met.ofW (cc := bytes) (maxL := maxL) (ret := (some .long)) hy rfl ?_
  intro p e s m args below meth c s₁ B hml hv
  obtain ⟨rfl, hsz, hP, hK, hD0⟩ := hv
  have hx := B.exec
  have hb := B.bytes
  have hr := B.returns
  have hts := atoms_spec (ws := Cond.code y bytes maxL (some .long) :: wA) B.pre
  have hown : s.vm.findClass y.cls = some m.cls := findClass_of_methodNamed B.named
  have hlocks := B.notSynchronized
  subst hsz
  rw [lg_entry_eq]
  have hl := lv_entry av hn
  have hS0 : va_S (va_A wc s.heap.size) s.heap s.heap [] := va_S.rf
  refine h ((p, l, e, { frames := fr, cells := 0, slots := 0, locals := lo }, s, m, av.toArray, below, meth, c), (s.heap, va_A wc s.heap.size, D, tys, maxL, 0, 0, MQ below (QG (fun u => some (.long (vf u))) po (fun u t => va_P D CL (cs u) t.heap ∧ va_D (va_A wc s.heap.size) (cs u)) (va_A wc s.heap.size)) av.toArray s 0 0 (va_A wc s.heap.size))) ⟨⟨hx, hb, hml, hown, fun w hw => hts w (List.mem_cons_of_mem _ hw)⟩, hK, fun q hq => Or.inr hq, Nat.le_refl _, Nat.le_refl _, Nat.le_refl _, Nat.le_refl _, rfl, rfl, rfl, rfl⟩ ?_ s.heap [] _ hP hD0.self hS0 hl
  · intro u ws lv pc v hd hc hv hp
    subst hv
    subst hc
    intro H locs ls hP hD hS hl
    exact W.lret hx hb hr (fun t ht hW => ⟨⟨u, rfl, hp, by rw [ht]; exact hP, hD⟩, hS.F ht⟩) hS.2.2 hd
theorem CO_mkq {l : Launch} {D : va_G} {tys : List (ClassId × FieldType)} {y : MethodName} {bytes : ByteArray} {maxL : Nat} {fr lo : Nat} {av : List Value} {wc : va_W} {σ : Type} {vf : σ → Nat} {cs : σ → va_W} {po : σ → Prop}
    (hy : plainName y.cls = true) (hn : (lg_sl av).length ≤ maxL)
    (h : ∀ K : KA × KB, OKX K l D tys bytes y.cls maxL fr lo 0 0 → (∀ (u : σ) (ws : va_W) (lv : List (Nat × Value)) (pc : Nat) (v : Nat), decode bytes pc = .ok (.areturn, 1) → cs u = ws → vf u = v → po u → XX K ws lv pc [.ref v]) → XX K wc (lv_args 0 av) 0 []) : CO l D tys y bytes maxL (some (.object "WellEchoes$Songs")) fr lo 0 0 av wc (fun u => some (.ref (vf u))) cs po := by
  intro sz
  refine Met.ofW (cc := bytes) (maxL := maxL) (ret := (some (.object "WellEchoes$Songs"))) hy rfl ?_
  intro p e s m args below meth c s₁ B hml hv
  obtain ⟨rfl, hsz, hP, hK, hD0⟩ := hv
  have hx := B.exec
  have hb := B.bytes
  have hr := B.returns
  have hts := atoms_spec (ws := Cond.code y bytes maxL (some (.object "WellEchoes$Songs")) :: wA) B.pre
  have hown : s.vm.findClass y.cls = some m.cls := findClass_of_methodNamed B.named
  have hlocks := B.notSynchronized
  subst hsz
  rw [lg_entry_eq]
  have hl := lv_entry av hn
  have hS0 : va_S (va_A wc s.heap.size) s.heap s.heap [] := va_S.rf
  refine h ((p, l, e, { frames := fr, cells := 0, slots := 0, locals := lo }, s, m, av.toArray, below, meth, c), (s.heap, va_A wc s.heap.size, D, tys, maxL, 0, 0, MQ below (QG (fun u => some (.ref (vf u))) po (fun u t => va_P D CL (cs u) t.heap ∧ va_D (va_A wc s.heap.size) (cs u)) (va_A wc s.heap.size)) av.toArray s 0 0 (va_A wc s.heap.size))) ⟨⟨hx, hb, hml, hown, fun w hw => hts w (List.mem_cons_of_mem _ hw)⟩, hK, fun q hq => Or.inr hq, Nat.le_refl _, Nat.le_refl _, Nat.le_refl _, Nat.le_refl _, rfl, rfl, rfl, rfl⟩ ?_ s.heap [] _ hP hD0.self hS0 hl
  · intro u ws lv pc v hd hc hv hp
    subst hv
    subst hc
    intro H locs ls hP hD hS hl
    exact W.aret hx hb hr (Or.inl ⟨_, rfl⟩) (Or.inr ⟨_, rfl⟩) (fun t ht hW => ⟨⟨u, rfl, hp, by rw [ht]; exact hP, hD⟩, hS.F ht⟩) hS.2.2 hd
theorem CO_mkv {l : Launch} {D : va_G} {tys : List (ClassId × FieldType)} {y : MethodName} {bytes : ByteArray} {maxL : Nat} {fr lo : Nat} {av : List Value} {wc : va_W} {σ : Type} {cs : σ → va_W} {po : σ → Prop}
    (hy : plainName y.cls = true) (hn : (lg_sl av).length ≤ maxL)
    (h : ∀ K : KA × KB, OKX K l D tys bytes y.cls maxL fr lo 0 0 → (∀ (u : σ) (ws : va_W) (lv : List (Nat × Value)) (pc : Nat), decode bytes pc = .ok (.return_, 1) → cs u = ws → po u → XX K ws lv pc []) → XX K wc (lv_args 0 av) 0 []) : CO l D tys y bytes maxL none fr lo 0 0 av wc (fun _ => none) cs po := by
  intro sz
  refine Met.ofW (cc := bytes) (maxL := maxL) (ret := none) hy rfl ?_
  intro p e s m args below meth c s₁ B hml hv
  obtain ⟨rfl, hsz, hP, hK, hD0⟩ := hv
  have hx := B.exec
  have hb := B.bytes
  have hr := B.returns
  have hts := atoms_spec (ws := Cond.code y bytes maxL none :: wA) B.pre
  have hown : s.vm.findClass y.cls = some m.cls := findClass_of_methodNamed B.named
  have hlocks := B.notSynchronized
  subst hsz
  rw [lg_entry_eq]
  have hl := lv_entry av hn
  have hS0 : va_S (va_A wc s.heap.size) s.heap s.heap [] := va_S.rf
  refine h ((p, l, e, { frames := fr, cells := 0, slots := 0, locals := lo }, s, m, av.toArray, below, meth, c), (s.heap, va_A wc s.heap.size, D, tys, maxL, 0, 0, MQ below (QG (fun _ => none) po (fun u t => va_P D CL (cs u) t.heap ∧ va_D (va_A wc s.heap.size) (cs u)) (va_A wc s.heap.size)) av.toArray s 0 0 (va_A wc s.heap.size))) ⟨⟨hx, hb, hml, hown, fun w hw => hts w (List.mem_cons_of_mem _ hw)⟩, hK, fun q hq => Or.inr hq, Nat.le_refl _, Nat.le_refl _, Nat.le_refl _, Nat.le_refl _, rfl, rfl, rfl, rfl⟩ ?_ s.heap [] _ hP hD0.self hS0 hl
  · intro u ws lv pc hd hc hp
    subst hc
    intro H locs ls hP hD hS hl
    exact W.vret hx hb hr (fun t ht hW => ⟨⟨u, rfl, hp, by rw [ht]; exact hP, hD⟩, hS.F ht⟩) hS.2.2 hd
theorem CO_mkI {l : Launch} {D : va_G} {tys : List (ClassId × FieldType)} {y : MethodName} {bytes : ByteArray} {maxL : Nat} {fr lo mc ms : Nat} {av : List Value} {wc : va_W} {σ : Type} {cs : σ → va_W} {po : σ → Prop}
    (hy : plainName y.cls = true) (hn : (lg_sl av).length ≤ maxL) (hi : y.name = "<init>")
    (h : ∀ K : KA × KB, OKX K l D tys bytes y.cls maxL fr lo mc ms → INI K → (∀ (u : σ) (a b : Nat) (ws : va_W) (lv : List (Nat × Value)) (pc : Nat), decode bytes pc = .ok (.return_, 1) → a ≤ mc → b ≤ ms → cs u = ws → po u → XX (KX_al K a b) ws lv pc []) → XX K wc (lv_args 0 av) 0 []) : CO l D tys y bytes maxL none fr lo mc ms av wc (fun _ => none) cs po := by
  intro sz
  refine Met.ofW (cc := bytes) (maxL := maxL) (ret := none) hy rfl ?_
  intro p e s m args below meth c s₁ B hml hv
  obtain ⟨rfl, hsz, hP, hK, hD0⟩ := hv
  have hx := B.exec
  have hb := B.bytes
  have hr := B.returns
  have hts := atoms_spec (ws := Cond.code y bytes maxL none :: wA) B.pre
  have hown : s.vm.findClass y.cls = some m.cls := findClass_of_methodNamed B.named
  have hlocks := B.notSynchronized
  have hin : meth.name = y.name := (name_of_methodNamed B.named B.method).1
  subst hsz
  rw [lg_entry_eq]
  have hl := lv_entry av hn
  have hS0 : va_S (va_A wc s.heap.size) s.heap s.heap [] := va_S.rf
  refine h ((p, l, e, { frames := fr, cells := mc, slots := ms, locals := lo }, s, m, av.toArray, below, meth, c), (s.heap, va_A wc s.heap.size, D, tys, maxL, 0, 0, MQ below (QG (fun _ => none) po (fun u t => va_P D CL (cs u) t.heap ∧ va_D (va_A wc s.heap.size) (cs u)) (va_A wc s.heap.size)) av.toArray s mc ms (va_A wc s.heap.size))) ⟨⟨hx, hb, hml, hown, fun w hw => hts w (List.mem_cons_of_mem _ hw)⟩, hK, fun q hq => Or.inr hq, Nat.le_refl _, Nat.le_refl _, Nat.le_of_eq (Nat.zero_add _), Nat.le_of_eq (Nat.zero_add _), rfl, rfl, rfl, rfl⟩ (hin.trans hi) ?_ s.heap [] _ hP hD0.self hS0 hl
  · intro u a b ws lv pc hd ha hb' hc hp
    subst hc
    intro H locs ls hP hD hS hl
    refine W.widen (k := mc) (n := ms) (by omega) (by omega) ?_
    exact W.vret hx hb hr (fun t ht hW => ⟨⟨u, rfl, hp, by rw [ht]; exact hP, hD⟩, hS.F ht⟩) hS.2.2 hd
theorem x_iconst {K : KA × KB} {l0 : Launch} {D0 : va_G} {ty0 : List (ClassId × FieldType)} {cc : ByteArray} {own : String} {nL fr lo rc rs : Nat} {ws : va_W} {lv : List (Nat × Value)} {pc : Nat} {st : List Value} (ok : OKX K l0 D0 ty0 cc own nL fr lo rc rs) {n : Int} (v : Int32) (hd : decode cc pc = .ok (.iconst n, 1)) (hv : Int32.ofInt n = v) (k : XX K ws lv (pc + 1) (.int v :: st)) : XX K ws lv pc st := by
  obtain ⟨⟨p, l, e, R, s, m, args, below, meth, c⟩, H0, A, D, tys, nL', ce, sl, Q⟩ := K
  obtain ⟨⟨hx, hb, hml, hown, hts⟩, hK, hA, hfr, hlo, hce, hsl, rfl, rfl, rfl, rfl⟩ := ok
  intro H locs ls hP hD hS hl
  exact lv_iconst hx hb hd hv (k H locs ls hP hD hS hl)
theorem x_bipush {K : KA × KB} {l0 : Launch} {D0 : va_G} {ty0 : List (ClassId × FieldType)} {cc : ByteArray} {own : String} {nL fr lo rc rs : Nat} {ws : va_W} {lv : List (Nat × Value)} {pc : Nat} {st : List Value} (ok : OKX K l0 D0 ty0 cc own nL fr lo rc rs) {n : Int} (v : Int32) (hd : decode cc pc = .ok (.bipush n, 2)) (hv : (Int8.ofInt n).toInt32 = v) (k : XX K ws lv (pc + 2) (.int v :: st)) : XX K ws lv pc st := by
  obtain ⟨⟨p, l, e, R, s, m, args, below, meth, c⟩, H0, A, D, tys, nL', ce, sl, Q⟩ := K
  obtain ⟨⟨hx, hb, hml, hown, hts⟩, hK, hA, hfr, hlo, hce, hsl, rfl, rfl, rfl, rfl⟩ := ok
  intro H locs ls hP hD hS hl
  exact lv_bipush hx hb hd hv (k H locs ls hP hD hS hl)
theorem x_sipush {K : KA × KB} {l0 : Launch} {D0 : va_G} {ty0 : List (ClassId × FieldType)} {cc : ByteArray} {own : String} {nL fr lo rc rs : Nat} {ws : va_W} {lv : List (Nat × Value)} {pc : Nat} {st : List Value} (ok : OKX K l0 D0 ty0 cc own nL fr lo rc rs) {n : Int} (v : Int32) (hd : decode cc pc = .ok (.sipush n, 3)) (hv : (Int16.ofInt n).toInt32 = v) (k : XX K ws lv (pc + 3) (.int v :: st)) : XX K ws lv pc st := by
  obtain ⟨⟨p, l, e, R, s, m, args, below, meth, c⟩, H0, A, D, tys, nL', ce, sl, Q⟩ := K
  obtain ⟨⟨hx, hb, hml, hown, hts⟩, hK, hA, hfr, hlo, hce, hsl, rfl, rfl, rfl, rfl⟩ := ok
  intro H locs ls hP hD hS hl
  exact lv_sipush hx hb hd hv (k H locs ls hP hD hS hl)
theorem x_lconst {K : KA × KB} {l0 : Launch} {D0 : va_G} {ty0 : List (ClassId × FieldType)} {cc : ByteArray} {own : String} {nL fr lo rc rs : Nat} {ws : va_W} {lv : List (Nat × Value)} {pc : Nat} {st : List Value} (ok : OKX K l0 D0 ty0 cc own nL fr lo rc rs) {n : Fin 2} (v : Int64) (hd : decode cc pc = .ok (.lconst n, 1)) (hv : Int64.ofNat (n : Nat) = v) (k : XX K ws lv (pc + 1) (.long v :: st)) : XX K ws lv pc st := by
  obtain ⟨⟨p, l, e, R, s, m, args, below, meth, c⟩, H0, A, D, tys, nL', ce, sl, Q⟩ := K
  obtain ⟨⟨hx, hb, hml, hown, hts⟩, hK, hA, hfr, hlo, hce, hsl, rfl, rfl, rfl, rfl⟩ := ok
  intro H locs ls hP hD hS hl
  exact lv_lconst hx hb hd hv (k H locs ls hP hD hS hl)
theorem x_iload_n {K : KA × KB} {l0 : Launch} {D0 : va_G} {ty0 : List (ClassId × FieldType)} {cc : ByteArray} {own : String} {nL fr lo rc rs : Nat} {ws : va_W} {lv : List (Nat × Value)} {pc : Nat} {st : List Value} (ok : OKX K l0 D0 ty0 cc own nL fr lo rc rs) (j : Nat) {k : Fin 4} {i : Nat} {x : Int32} (hd : decode cc pc = .ok (.iload_n k, 1)) (hi : (k : Nat) = i) (hl0 : lv[j]? = some (i, .int x)) (k : XX K ws lv (pc + 1) (.int x :: st)) : XX K ws lv pc st := by
  obtain ⟨⟨p, l, e, R, s, m, args, below, meth, c⟩, H0, A, D, tys, nL', ce, sl, Q⟩ := K
  obtain ⟨⟨hx, hb, hml, hown, hts⟩, hK, hA, hfr, hlo, hce, hsl, rfl, rfl, rfl, rfl⟩ := ok
  intro H locs ls hP hD hS hl
  exact lv_iload_n hx hb hd hi (lv_at hl j hl0) (k H locs ls hP hD hS hl)
theorem x_iload {K : KA × KB} {l0 : Launch} {D0 : va_G} {ty0 : List (ClassId × FieldType)} {cc : ByteArray} {own : String} {nL fr lo rc rs : Nat} {ws : va_W} {lv : List (Nat × Value)} {pc : Nat} {st : List Value} (ok : OKX K l0 D0 ty0 cc own nL fr lo rc rs) (j : Nat) {i : Nat} {x : Int32} (hd : decode cc pc = .ok (.iload i, 2)) (hl0 : lv[j]? = some (i, .int x)) (k : XX K ws lv (pc + 2) (.int x :: st)) : XX K ws lv pc st := by
  obtain ⟨⟨p, l, e, R, s, m, args, below, meth, c⟩, H0, A, D, tys, nL', ce, sl, Q⟩ := K
  obtain ⟨⟨hx, hb, hml, hown, hts⟩, hK, hA, hfr, hlo, hce, hsl, rfl, rfl, rfl, rfl⟩ := ok
  intro H locs ls hP hD hS hl
  exact lv_iload hx hb hd (lv_at hl j hl0) (k H locs ls hP hD hS hl)
theorem x_istore_n {K : KA × KB} {l0 : Launch} {D0 : va_G} {ty0 : List (ClassId × FieldType)} {cc : ByteArray} {own : String} {nL fr lo rc rs : Nat} {ws : va_W} {lv : List (Nat × Value)} {pc : Nat} {st : List Value} (ok : OKX K l0 D0 ty0 cc own nL fr lo rc rs) {k : Fin 4} {i : Nat} {x : Int32} {lv' : List (Nat × Value)} (hd : decode cc pc = .ok (.istore_n k, 1)) (hi : (k : Nat) = i) (hn : i < nL) (hl0 : (i, Value.int x) :: lv.filter (fun q => !(q.1 == i) && !(q.1 + 1 == i && q.2.category == 2)) = lv') (k : XX K ws lv' (pc + 1) st) : XX K ws lv pc (.int x :: st) := by
  obtain ⟨⟨p, l, e, R, s, m, args, below, meth, c⟩, H0, A, D, tys, nL', ce, sl, Q⟩ := K
  obtain ⟨⟨hx, hb, hml, hown, hts⟩, hK, hA, hfr, hlo, hce, hsl, rfl, rfl, rfl, rfl⟩ := ok
  intro H locs ls hP hD hS hl
  exact lv_istore_n hx hb hd hi hl hn hl0 (fun ls hl => k H locs ls hP hD hS hl)
theorem x_istore {K : KA × KB} {l0 : Launch} {D0 : va_G} {ty0 : List (ClassId × FieldType)} {cc : ByteArray} {own : String} {nL fr lo rc rs : Nat} {ws : va_W} {lv : List (Nat × Value)} {pc : Nat} {st : List Value} (ok : OKX K l0 D0 ty0 cc own nL fr lo rc rs) {i : Nat} {x : Int32} {lv' : List (Nat × Value)} (hd : decode cc pc = .ok (.istore i, 2)) (hn : i < nL) (hl0 : (i, Value.int x) :: lv.filter (fun q => !(q.1 == i) && !(q.1 + 1 == i && q.2.category == 2)) = lv') (k : XX K ws lv' (pc + 2) st) : XX K ws lv pc (.int x :: st) := by
  obtain ⟨⟨p, l, e, R, s, m, args, below, meth, c⟩, H0, A, D, tys, nL', ce, sl, Q⟩ := K
  obtain ⟨⟨hx, hb, hml, hown, hts⟩, hK, hA, hfr, hlo, hce, hsl, rfl, rfl, rfl, rfl⟩ := ok
  intro H locs ls hP hD hS hl
  exact lv_istore hx hb hd hl hn hl0 (fun ls hl => k H locs ls hP hD hS hl)
theorem x_lload_n {K : KA × KB} {l0 : Launch} {D0 : va_G} {ty0 : List (ClassId × FieldType)} {cc : ByteArray} {own : String} {nL fr lo rc rs : Nat} {ws : va_W} {lv : List (Nat × Value)} {pc : Nat} {st : List Value} (ok : OKX K l0 D0 ty0 cc own nL fr lo rc rs) (j : Nat) {k : Fin 4} {i : Nat} {x : Int64} (hd : decode cc pc = .ok (.lload_n k, 1)) (hi : (k : Nat) = i) (hl0 : lv[j]? = some (i, .long x)) (k : XX K ws lv (pc + 1) (.long x :: st)) : XX K ws lv pc st := by
  obtain ⟨⟨p, l, e, R, s, m, args, below, meth, c⟩, H0, A, D, tys, nL', ce, sl, Q⟩ := K
  obtain ⟨⟨hx, hb, hml, hown, hts⟩, hK, hA, hfr, hlo, hce, hsl, rfl, rfl, rfl, rfl⟩ := ok
  intro H locs ls hP hD hS hl
  exact lv_lload_n hx hb hd hi (lv_at hl j hl0) (k H locs ls hP hD hS hl)
theorem x_lload {K : KA × KB} {l0 : Launch} {D0 : va_G} {ty0 : List (ClassId × FieldType)} {cc : ByteArray} {own : String} {nL fr lo rc rs : Nat} {ws : va_W} {lv : List (Nat × Value)} {pc : Nat} {st : List Value} (ok : OKX K l0 D0 ty0 cc own nL fr lo rc rs) (j : Nat) {i : Nat} {x : Int64} (hd : decode cc pc = .ok (.lload i, 2)) (hl0 : lv[j]? = some (i, .long x)) (k : XX K ws lv (pc + 2) (.long x :: st)) : XX K ws lv pc st := by
  obtain ⟨⟨p, l, e, R, s, m, args, below, meth, c⟩, H0, A, D, tys, nL', ce, sl, Q⟩ := K
  obtain ⟨⟨hx, hb, hml, hown, hts⟩, hK, hA, hfr, hlo, hce, hsl, rfl, rfl, rfl, rfl⟩ := ok
  intro H locs ls hP hD hS hl
  exact lv_lload hx hb hd (lv_at hl j hl0) (k H locs ls hP hD hS hl)
theorem x_lstore_n {K : KA × KB} {l0 : Launch} {D0 : va_G} {ty0 : List (ClassId × FieldType)} {cc : ByteArray} {own : String} {nL fr lo rc rs : Nat} {ws : va_W} {lv : List (Nat × Value)} {pc : Nat} {st : List Value} (ok : OKX K l0 D0 ty0 cc own nL fr lo rc rs) {k : Fin 4} {i : Nat} {x : Int64} {lv' : List (Nat × Value)} (hd : decode cc pc = .ok (.lstore_n k, 1)) (hi : (k : Nat) = i) (hn : i + 1 < nL) (hl0 : (i, Value.long x) :: lv.filter (fun q => !(q.1 == i) && (!(q.1 == i + 1) && !(q.1 + 1 == i && q.2.category == 2))) = lv') (k : XX K ws lv' (pc + 1) st) : XX K ws lv pc (.long x :: st) := by
  obtain ⟨⟨p, l, e, R, s, m, args, below, meth, c⟩, H0, A, D, tys, nL', ce, sl, Q⟩ := K
  obtain ⟨⟨hx, hb, hml, hown, hts⟩, hK, hA, hfr, hlo, hce, hsl, rfl, rfl, rfl, rfl⟩ := ok
  intro H locs ls hP hD hS hl
  exact lv_lstore_n hx hb hd hi hl hn hl0 (fun ls hl => k H locs ls hP hD hS hl)
theorem x_lstore {K : KA × KB} {l0 : Launch} {D0 : va_G} {ty0 : List (ClassId × FieldType)} {cc : ByteArray} {own : String} {nL fr lo rc rs : Nat} {ws : va_W} {lv : List (Nat × Value)} {pc : Nat} {st : List Value} (ok : OKX K l0 D0 ty0 cc own nL fr lo rc rs) {i : Nat} {x : Int64} {lv' : List (Nat × Value)} (hd : decode cc pc = .ok (.lstore i, 2)) (hn : i + 1 < nL) (hl0 : (i, Value.long x) :: lv.filter (fun q => !(q.1 == i) && (!(q.1 == i + 1) && !(q.1 + 1 == i && q.2.category == 2))) = lv') (k : XX K ws lv' (pc + 2) st) : XX K ws lv pc (.long x :: st) := by
  obtain ⟨⟨p, l, e, R, s, m, args, below, meth, c⟩, H0, A, D, tys, nL', ce, sl, Q⟩ := K
  obtain ⟨⟨hx, hb, hml, hown, hts⟩, hK, hA, hfr, hlo, hce, hsl, rfl, rfl, rfl, rfl⟩ := ok
  intro H locs ls hP hD hS hl
  exact lv_lstore hx hb hd hl hn hl0 (fun ls hl => k H locs ls hP hD hS hl)
theorem x_aload_n {K : KA × KB} {l0 : Launch} {D0 : va_G} {ty0 : List (ClassId × FieldType)} {cc : ByteArray} {own : String} {nL fr lo rc rs : Nat} {ws : va_W} {lv : List (Nat × Value)} {pc : Nat} {st : List Value} (ok : OKX K l0 D0 ty0 cc own nL fr lo rc rs) (j : Nat) {k : Fin 4} {i : Nat} {x : Nat} (hd : decode cc pc = .ok (.aload_n k, 1)) (hi : (k : Nat) = i) (hl0 : lv[j]? = some (i, .ref x)) (k : XX K ws lv (pc + 1) (.ref x :: st)) : XX K ws lv pc st := by
  obtain ⟨⟨p, l, e, R, s, m, args, below, meth, c⟩, H0, A, D, tys, nL', ce, sl, Q⟩ := K
  obtain ⟨⟨hx, hb, hml, hown, hts⟩, hK, hA, hfr, hlo, hce, hsl, rfl, rfl, rfl, rfl⟩ := ok
  intro H locs ls hP hD hS hl
  exact lv_aload_n hx hb hd hi (lv_at hl j hl0) (k H locs ls hP hD hS hl)
theorem x_aload {K : KA × KB} {l0 : Launch} {D0 : va_G} {ty0 : List (ClassId × FieldType)} {cc : ByteArray} {own : String} {nL fr lo rc rs : Nat} {ws : va_W} {lv : List (Nat × Value)} {pc : Nat} {st : List Value} (ok : OKX K l0 D0 ty0 cc own nL fr lo rc rs) (j : Nat) {i : Nat} {x : Nat} (hd : decode cc pc = .ok (.aload i, 2)) (hl0 : lv[j]? = some (i, .ref x)) (k : XX K ws lv (pc + 2) (.ref x :: st)) : XX K ws lv pc st := by
  obtain ⟨⟨p, l, e, R, s, m, args, below, meth, c⟩, H0, A, D, tys, nL', ce, sl, Q⟩ := K
  obtain ⟨⟨hx, hb, hml, hown, hts⟩, hK, hA, hfr, hlo, hce, hsl, rfl, rfl, rfl, rfl⟩ := ok
  intro H locs ls hP hD hS hl
  exact lv_aload hx hb hd (lv_at hl j hl0) (k H locs ls hP hD hS hl)
theorem x_astore_n {K : KA × KB} {l0 : Launch} {D0 : va_G} {ty0 : List (ClassId × FieldType)} {cc : ByteArray} {own : String} {nL fr lo rc rs : Nat} {ws : va_W} {lv : List (Nat × Value)} {pc : Nat} {st : List Value} (ok : OKX K l0 D0 ty0 cc own nL fr lo rc rs) {k : Fin 4} {i : Nat} {x : Nat} {lv' : List (Nat × Value)} (hd : decode cc pc = .ok (.astore_n k, 1)) (hi : (k : Nat) = i) (hn : i < nL) (hl0 : (i, Value.ref x) :: lv.filter (fun q => !(q.1 == i) && !(q.1 + 1 == i && q.2.category == 2)) = lv') (k : XX K ws lv' (pc + 1) st) : XX K ws lv pc (.ref x :: st) := by
  obtain ⟨⟨p, l, e, R, s, m, args, below, meth, c⟩, H0, A, D, tys, nL', ce, sl, Q⟩ := K
  obtain ⟨⟨hx, hb, hml, hown, hts⟩, hK, hA, hfr, hlo, hce, hsl, rfl, rfl, rfl, rfl⟩ := ok
  intro H locs ls hP hD hS hl
  exact lv_astore_n hx hb hd hi hl hn hl0 (fun ls hl => k H locs ls hP hD hS hl)
theorem x_astore {K : KA × KB} {l0 : Launch} {D0 : va_G} {ty0 : List (ClassId × FieldType)} {cc : ByteArray} {own : String} {nL fr lo rc rs : Nat} {ws : va_W} {lv : List (Nat × Value)} {pc : Nat} {st : List Value} (ok : OKX K l0 D0 ty0 cc own nL fr lo rc rs) {i : Nat} {x : Nat} {lv' : List (Nat × Value)} (hd : decode cc pc = .ok (.astore i, 2)) (hn : i < nL) (hl0 : (i, Value.ref x) :: lv.filter (fun q => !(q.1 == i) && !(q.1 + 1 == i && q.2.category == 2)) = lv') (k : XX K ws lv' (pc + 2) st) : XX K ws lv pc (.ref x :: st) := by
  obtain ⟨⟨p, l, e, R, s, m, args, below, meth, c⟩, H0, A, D, tys, nL', ce, sl, Q⟩ := K
  obtain ⟨⟨hx, hb, hml, hown, hts⟩, hK, hA, hfr, hlo, hce, hsl, rfl, rfl, rfl, rfl⟩ := ok
  intro H locs ls hP hD hS hl
  exact lv_astore hx hb hd hl hn hl0 (fun ls hl => k H locs ls hP hD hS hl)
theorem x_iinc {K : KA × KB} {l0 : Launch} {D0 : va_G} {ty0 : List (ClassId × FieldType)} {cc : ByteArray} {own : String} {nL fr lo rc rs : Nat} {ws : va_W} {lv : List (Nat × Value)} {pc : Nat} {st : List Value} (ok : OKX K l0 D0 ty0 cc own nL fr lo rc rs) {i : Nat} {n : Int} {x v : Int32} {lv' : List (Nat × Value)} (hd : decode cc pc = .ok (.iinc i n, 3)) (j0 : Nat) (hk : lv[j0]? = some (i, .int x)) (hv : x + Int32.ofInt n = v) (hn : i < nL) (hl0 : (i, Value.int v) :: lv.filter (fun q => !(q.1 == i) && !(q.1 + 1 == i && q.2.category == 2)) = lv') (k : XX K ws lv' (pc + 3) st) : XX K ws lv pc st := by
  obtain ⟨⟨p, l, e, R, s, m, args, below, meth, c⟩, H0, A, D, tys, nL', ce, sl, Q⟩ := K
  obtain ⟨⟨hx, hb, hml, hown, hts⟩, hK, hA, hfr, hlo, hce, hsl, rfl, rfl, rfl, rfl⟩ := ok
  intro H locs ls hP hD hS hl
  exact lv_iinc hx hb hd hl hk hv hn hl0 (fun ls hl => k H locs ls hP hD hS hl)
theorem x_iadd {K : KA × KB} {l0 : Launch} {D0 : va_G} {ty0 : List (ClassId × FieldType)} {cc : ByteArray} {own : String} {nL fr lo rc rs : Nat} {ws : va_W} {lv : List (Nat × Value)} {pc : Nat} {st : List Value} (ok : OKX K l0 D0 ty0 cc own nL fr lo rc rs) {x y : Int32} (v : Int32) (hd : decode cc pc = .ok (.iadd, 1)) (hv : x + y = v) (k : XX K ws lv (pc + 1) (.int v :: st)) : XX K ws lv pc (.int y :: .int x :: st) := by
  obtain ⟨⟨p, l, e, R, s, m, args, below, meth, c⟩, H0, A, D, tys, nL', ce, sl, Q⟩ := K
  obtain ⟨⟨hx, hb, hml, hown, hts⟩, hK, hA, hfr, hlo, hce, hsl, rfl, rfl, rfl, rfl⟩ := ok
  intro H locs ls hP hD hS hl
  subst hv; exact lv_iadd hx hb hd (k H locs ls hP hD hS hl)
theorem x_isub {K : KA × KB} {l0 : Launch} {D0 : va_G} {ty0 : List (ClassId × FieldType)} {cc : ByteArray} {own : String} {nL fr lo rc rs : Nat} {ws : va_W} {lv : List (Nat × Value)} {pc : Nat} {st : List Value} (ok : OKX K l0 D0 ty0 cc own nL fr lo rc rs) {x y : Int32} (v : Int32) (hd : decode cc pc = .ok (.isub, 1)) (hv : x - y = v) (k : XX K ws lv (pc + 1) (.int v :: st)) : XX K ws lv pc (.int y :: .int x :: st) := by
  obtain ⟨⟨p, l, e, R, s, m, args, below, meth, c⟩, H0, A, D, tys, nL', ce, sl, Q⟩ := K
  obtain ⟨⟨hx, hb, hml, hown, hts⟩, hK, hA, hfr, hlo, hce, hsl, rfl, rfl, rfl, rfl⟩ := ok
  intro H locs ls hP hD hS hl
  subst hv; exact lv_isub hx hb hd (k H locs ls hP hD hS hl)
theorem x_imul {K : KA × KB} {l0 : Launch} {D0 : va_G} {ty0 : List (ClassId × FieldType)} {cc : ByteArray} {own : String} {nL fr lo rc rs : Nat} {ws : va_W} {lv : List (Nat × Value)} {pc : Nat} {st : List Value} (ok : OKX K l0 D0 ty0 cc own nL fr lo rc rs) {x y : Int32} (v : Int32) (hd : decode cc pc = .ok (.imul, 1)) (hv : x * y = v) (k : XX K ws lv (pc + 1) (.int v :: st)) : XX K ws lv pc (.int y :: .int x :: st) := by
  obtain ⟨⟨p, l, e, R, s, m, args, below, meth, c⟩, H0, A, D, tys, nL', ce, sl, Q⟩ := K
  obtain ⟨⟨hx, hb, hml, hown, hts⟩, hK, hA, hfr, hlo, hce, hsl, rfl, rfl, rfl, rfl⟩ := ok
  intro H locs ls hP hD hS hl
  subst hv; exact lv_imul hx hb hd (k H locs ls hP hD hS hl)
theorem x_iand {K : KA × KB} {l0 : Launch} {D0 : va_G} {ty0 : List (ClassId × FieldType)} {cc : ByteArray} {own : String} {nL fr lo rc rs : Nat} {ws : va_W} {lv : List (Nat × Value)} {pc : Nat} {st : List Value} (ok : OKX K l0 D0 ty0 cc own nL fr lo rc rs) {x y : Int32} (v : Int32) (hd : decode cc pc = .ok (.iand, 1)) (hv : x &&& y = v) (k : XX K ws lv (pc + 1) (.int v :: st)) : XX K ws lv pc (.int y :: .int x :: st) := by
  obtain ⟨⟨p, l, e, R, s, m, args, below, meth, c⟩, H0, A, D, tys, nL', ce, sl, Q⟩ := K
  obtain ⟨⟨hx, hb, hml, hown, hts⟩, hK, hA, hfr, hlo, hce, hsl, rfl, rfl, rfl, rfl⟩ := ok
  intro H locs ls hP hD hS hl
  subst hv; exact lv_iand hx hb hd (k H locs ls hP hD hS hl)
theorem x_ior {K : KA × KB} {l0 : Launch} {D0 : va_G} {ty0 : List (ClassId × FieldType)} {cc : ByteArray} {own : String} {nL fr lo rc rs : Nat} {ws : va_W} {lv : List (Nat × Value)} {pc : Nat} {st : List Value} (ok : OKX K l0 D0 ty0 cc own nL fr lo rc rs) {x y : Int32} (v : Int32) (hd : decode cc pc = .ok (.ior, 1)) (hv : x ||| y = v) (k : XX K ws lv (pc + 1) (.int v :: st)) : XX K ws lv pc (.int y :: .int x :: st) := by
  obtain ⟨⟨p, l, e, R, s, m, args, below, meth, c⟩, H0, A, D, tys, nL', ce, sl, Q⟩ := K
  obtain ⟨⟨hx, hb, hml, hown, hts⟩, hK, hA, hfr, hlo, hce, hsl, rfl, rfl, rfl, rfl⟩ := ok
  intro H locs ls hP hD hS hl
  subst hv; exact lv_ior hx hb hd (k H locs ls hP hD hS hl)
theorem x_ixor {K : KA × KB} {l0 : Launch} {D0 : va_G} {ty0 : List (ClassId × FieldType)} {cc : ByteArray} {own : String} {nL fr lo rc rs : Nat} {ws : va_W} {lv : List (Nat × Value)} {pc : Nat} {st : List Value} (ok : OKX K l0 D0 ty0 cc own nL fr lo rc rs) {x y : Int32} (v : Int32) (hd : decode cc pc = .ok (.ixor, 1)) (hv : x ^^^ y = v) (k : XX K ws lv (pc + 1) (.int v :: st)) : XX K ws lv pc (.int y :: .int x :: st) := by
  obtain ⟨⟨p, l, e, R, s, m, args, below, meth, c⟩, H0, A, D, tys, nL', ce, sl, Q⟩ := K
  obtain ⟨⟨hx, hb, hml, hown, hts⟩, hK, hA, hfr, hlo, hce, hsl, rfl, rfl, rfl, rfl⟩ := ok
  intro H locs ls hP hD hS hl
  subst hv; exact lv_ixor hx hb hd (k H locs ls hP hD hS hl)
theorem x_ishl {K : KA × KB} {l0 : Launch} {D0 : va_G} {ty0 : List (ClassId × FieldType)} {cc : ByteArray} {own : String} {nL fr lo rc rs : Nat} {ws : va_W} {lv : List (Nat × Value)} {pc : Nat} {st : List Value} (ok : OKX K l0 D0 ty0 cc own nL fr lo rc rs) {x y : Int32} (v : Int32) (hd : decode cc pc = .ok (.ishl, 1)) (hv : x <<< (y &&& 31) = v) (k : XX K ws lv (pc + 1) (.int v :: st)) : XX K ws lv pc (.int y :: .int x :: st) := by
  obtain ⟨⟨p, l, e, R, s, m, args, below, meth, c⟩, H0, A, D, tys, nL', ce, sl, Q⟩ := K
  obtain ⟨⟨hx, hb, hml, hown, hts⟩, hK, hA, hfr, hlo, hce, hsl, rfl, rfl, rfl, rfl⟩ := ok
  intro H locs ls hP hD hS hl
  subst hv; exact lv_ishl hx hb hd (k H locs ls hP hD hS hl)
theorem x_ishr {K : KA × KB} {l0 : Launch} {D0 : va_G} {ty0 : List (ClassId × FieldType)} {cc : ByteArray} {own : String} {nL fr lo rc rs : Nat} {ws : va_W} {lv : List (Nat × Value)} {pc : Nat} {st : List Value} (ok : OKX K l0 D0 ty0 cc own nL fr lo rc rs) {x y : Int32} (v : Int32) (hd : decode cc pc = .ok (.ishr, 1)) (hv : x >>> (y &&& 31) = v) (k : XX K ws lv (pc + 1) (.int v :: st)) : XX K ws lv pc (.int y :: .int x :: st) := by
  obtain ⟨⟨p, l, e, R, s, m, args, below, meth, c⟩, H0, A, D, tys, nL', ce, sl, Q⟩ := K
  obtain ⟨⟨hx, hb, hml, hown, hts⟩, hK, hA, hfr, hlo, hce, hsl, rfl, rfl, rfl, rfl⟩ := ok
  intro H locs ls hP hD hS hl
  subst hv; exact lv_ishr hx hb hd (k H locs ls hP hD hS hl)
theorem x_ineg {K : KA × KB} {l0 : Launch} {D0 : va_G} {ty0 : List (ClassId × FieldType)} {cc : ByteArray} {own : String} {nL fr lo rc rs : Nat} {ws : va_W} {lv : List (Nat × Value)} {pc : Nat} {st : List Value} (ok : OKX K l0 D0 ty0 cc own nL fr lo rc rs) {x : Int32} (v : Int32) (hd : decode cc pc = .ok (.ineg, 1)) (hv : -x = v) (k : XX K ws lv (pc + 1) (.int v :: st)) : XX K ws lv pc (.int x :: st) := by
  obtain ⟨⟨p, l, e, R, s, m, args, below, meth, c⟩, H0, A, D, tys, nL', ce, sl, Q⟩ := K
  obtain ⟨⟨hx, hb, hml, hown, hts⟩, hK, hA, hfr, hlo, hce, hsl, rfl, rfl, rfl, rfl⟩ := ok
  intro H locs ls hP hD hS hl
  subst hv; exact lv_ineg hx hb hd (k H locs ls hP hD hS hl)
theorem x_iushr {K : KA × KB} {l0 : Launch} {D0 : va_G} {ty0 : List (ClassId × FieldType)} {cc : ByteArray} {own : String} {nL fr lo rc rs : Nat} {ws : va_W} {lv : List (Nat × Value)} {pc : Nat} {st : List Value} (ok : OKX K l0 D0 ty0 cc own nL fr lo rc rs) {x y : Int32} (v : Int32) (hd : decode cc pc = .ok (.iushr, 1)) (hv : (x.toUInt32 >>> (y.toUInt32 &&& Int32.toUInt32 31)).toInt32 = v) (k : XX K ws lv (pc + 1) (.int v :: st)) : XX K ws lv pc (.int y :: .int x :: st) := by
  obtain ⟨⟨p, l, e, R, s, m, args, below, meth, c⟩, H0, A, D, tys, nL', ce, sl, Q⟩ := K
  obtain ⟨⟨hx, hb, hml, hown, hts⟩, hK, hA, hfr, hlo, hce, hsl, rfl, rfl, rfl, rfl⟩ := ok
  intro H locs ls hP hD hS hl
  exact lv_iushr hx hb hd hv (k H locs ls hP hD hS hl)
theorem x_idiv {K : KA × KB} {l0 : Launch} {D0 : va_G} {ty0 : List (ClassId × FieldType)} {cc : ByteArray} {own : String} {nL fr lo rc rs : Nat} {ws : va_W} {lv : List (Nat × Value)} {pc : Nat} {st : List Value} (ok : OKX K l0 D0 ty0 cc own nL fr lo rc rs) {x y : Int32} (v : Int32) (hd : decode cc pc = .ok (.idiv, 1)) (hne : ¬ y = 0) (hv : x / y = v) (k : XX K ws lv (pc + 1) (.int v :: st)) : XX K ws lv pc (.int y :: .int x :: st) := by
  obtain ⟨⟨p, l, e, R, s, m, args, below, meth, c⟩, H0, A, D, tys, nL', ce, sl, Q⟩ := K
  obtain ⟨⟨hx, hb, hml, hown, hts⟩, hK, hA, hfr, hlo, hce, hsl, rfl, rfl, rfl, rfl⟩ := ok
  intro H locs ls hP hD hS hl
  subst hv; exact lv_idiv hx hb hd hne (k H locs ls hP hD hS hl)
theorem x_irem {K : KA × KB} {l0 : Launch} {D0 : va_G} {ty0 : List (ClassId × FieldType)} {cc : ByteArray} {own : String} {nL fr lo rc rs : Nat} {ws : va_W} {lv : List (Nat × Value)} {pc : Nat} {st : List Value} (ok : OKX K l0 D0 ty0 cc own nL fr lo rc rs) {x y : Int32} (v : Int32) (hd : decode cc pc = .ok (.irem, 1)) (hne : ¬ y = 0) (hv : x - x / y * y = v) (k : XX K ws lv (pc + 1) (.int v :: st)) : XX K ws lv pc (.int y :: .int x :: st) := by
  obtain ⟨⟨p, l, e, R, s, m, args, below, meth, c⟩, H0, A, D, tys, nL', ce, sl, Q⟩ := K
  obtain ⟨⟨hx, hb, hml, hown, hts⟩, hK, hA, hfr, hlo, hce, hsl, rfl, rfl, rfl, rfl⟩ := ok
  intro H locs ls hP hD hS hl
  subst hv; exact lv_irem hx hb hd hne (k H locs ls hP hD hS hl)
theorem x_ladd {K : KA × KB} {l0 : Launch} {D0 : va_G} {ty0 : List (ClassId × FieldType)} {cc : ByteArray} {own : String} {nL fr lo rc rs : Nat} {ws : va_W} {lv : List (Nat × Value)} {pc : Nat} {st : List Value} (ok : OKX K l0 D0 ty0 cc own nL fr lo rc rs) {x y : Int64} (v : Int64) (hd : decode cc pc = .ok (.ladd, 1)) (hv : x + y = v) (k : XX K ws lv (pc + 1) (.long v :: st)) : XX K ws lv pc (.long y :: .long x :: st) := by
  obtain ⟨⟨p, l, e, R, s, m, args, below, meth, c⟩, H0, A, D, tys, nL', ce, sl, Q⟩ := K
  obtain ⟨⟨hx, hb, hml, hown, hts⟩, hK, hA, hfr, hlo, hce, hsl, rfl, rfl, rfl, rfl⟩ := ok
  intro H locs ls hP hD hS hl
  subst hv; exact lv_ladd hx hb hd (k H locs ls hP hD hS hl)
theorem x_lmul {K : KA × KB} {l0 : Launch} {D0 : va_G} {ty0 : List (ClassId × FieldType)} {cc : ByteArray} {own : String} {nL fr lo rc rs : Nat} {ws : va_W} {lv : List (Nat × Value)} {pc : Nat} {st : List Value} (ok : OKX K l0 D0 ty0 cc own nL fr lo rc rs) {x y : Int64} (v : Int64) (hd : decode cc pc = .ok (.lmul, 1)) (hv : x * y = v) (k : XX K ws lv (pc + 1) (.long v :: st)) : XX K ws lv pc (.long y :: .long x :: st) := by
  obtain ⟨⟨p, l, e, R, s, m, args, below, meth, c⟩, H0, A, D, tys, nL', ce, sl, Q⟩ := K
  obtain ⟨⟨hx, hb, hml, hown, hts⟩, hK, hA, hfr, hlo, hce, hsl, rfl, rfl, rfl, rfl⟩ := ok
  intro H locs ls hP hD hS hl
  subst hv; exact lv_lmul hx hb hd (k H locs ls hP hD hS hl)
theorem x_land {K : KA × KB} {l0 : Launch} {D0 : va_G} {ty0 : List (ClassId × FieldType)} {cc : ByteArray} {own : String} {nL fr lo rc rs : Nat} {ws : va_W} {lv : List (Nat × Value)} {pc : Nat} {st : List Value} (ok : OKX K l0 D0 ty0 cc own nL fr lo rc rs) {x y : Int64} (v : Int64) (hd : decode cc pc = .ok (.land, 1)) (hv : x &&& y = v) (k : XX K ws lv (pc + 1) (.long v :: st)) : XX K ws lv pc (.long y :: .long x :: st) := by
  obtain ⟨⟨p, l, e, R, s, m, args, below, meth, c⟩, H0, A, D, tys, nL', ce, sl, Q⟩ := K
  obtain ⟨⟨hx, hb, hml, hown, hts⟩, hK, hA, hfr, hlo, hce, hsl, rfl, rfl, rfl, rfl⟩ := ok
  intro H locs ls hP hD hS hl
  subst hv; exact lv_land hx hb hd (k H locs ls hP hD hS hl)
theorem x_lor {K : KA × KB} {l0 : Launch} {D0 : va_G} {ty0 : List (ClassId × FieldType)} {cc : ByteArray} {own : String} {nL fr lo rc rs : Nat} {ws : va_W} {lv : List (Nat × Value)} {pc : Nat} {st : List Value} (ok : OKX K l0 D0 ty0 cc own nL fr lo rc rs) {x y : Int64} (v : Int64) (hd : decode cc pc = .ok (.lor, 1)) (hv : x ||| y = v) (k : XX K ws lv (pc + 1) (.long v :: st)) : XX K ws lv pc (.long y :: .long x :: st) := by
  obtain ⟨⟨p, l, e, R, s, m, args, below, meth, c⟩, H0, A, D, tys, nL', ce, sl, Q⟩ := K
  obtain ⟨⟨hx, hb, hml, hown, hts⟩, hK, hA, hfr, hlo, hce, hsl, rfl, rfl, rfl, rfl⟩ := ok
  intro H locs ls hP hD hS hl
  subst hv; exact lv_lor hx hb hd (k H locs ls hP hD hS hl)
theorem x_lrem {K : KA × KB} {l0 : Launch} {D0 : va_G} {ty0 : List (ClassId × FieldType)} {cc : ByteArray} {own : String} {nL fr lo rc rs : Nat} {ws : va_W} {lv : List (Nat × Value)} {pc : Nat} {st : List Value} (ok : OKX K l0 D0 ty0 cc own nL fr lo rc rs) {x y : Int64} (v : Int64) (hd : decode cc pc = .ok (.lrem, 1)) (hne : ¬ y = 0) (hv : x - x / y * y = v) (k : XX K ws lv (pc + 1) (.long v :: st)) : XX K ws lv pc (.long y :: .long x :: st) := by
  obtain ⟨⟨p, l, e, R, s, m, args, below, meth, c⟩, H0, A, D, tys, nL', ce, sl, Q⟩ := K
  obtain ⟨⟨hx, hb, hml, hown, hts⟩, hK, hA, hfr, hlo, hce, hsl, rfl, rfl, rfl, rfl⟩ := ok
  intro H locs ls hP hD hS hl
  subst hv; exact lv_lrem hx hb hd hne (k H locs ls hP hD hS hl)
theorem x_lshl {K : KA × KB} {l0 : Launch} {D0 : va_G} {ty0 : List (ClassId × FieldType)} {cc : ByteArray} {own : String} {nL fr lo rc rs : Nat} {ws : va_W} {lv : List (Nat × Value)} {pc : Nat} {st : List Value} (ok : OKX K l0 D0 ty0 cc own nL fr lo rc rs) {x : Int64} {y : Int32} (v : Int64) (hd : decode cc pc = .ok (.lshl, 1)) (hv : x <<< (y.toInt64 &&& 63) = v) (k : XX K ws lv (pc + 1) (.long v :: st)) : XX K ws lv pc (.int y :: .long x :: st) := by
  obtain ⟨⟨p, l, e, R, s, m, args, below, meth, c⟩, H0, A, D, tys, nL', ce, sl, Q⟩ := K
  obtain ⟨⟨hx, hb, hml, hown, hts⟩, hK, hA, hfr, hlo, hce, hsl, rfl, rfl, rfl, rfl⟩ := ok
  intro H locs ls hP hD hS hl
  exact lv_lshl hx hb hd hv (k H locs ls hP hD hS hl)
theorem x_lushr {K : KA × KB} {l0 : Launch} {D0 : va_G} {ty0 : List (ClassId × FieldType)} {cc : ByteArray} {own : String} {nL fr lo rc rs : Nat} {ws : va_W} {lv : List (Nat × Value)} {pc : Nat} {st : List Value} (ok : OKX K l0 D0 ty0 cc own nL fr lo rc rs) {x : Int64} {y : Int32} (v : Int64) (hd : decode cc pc = .ok (.lushr, 1)) (hv : (x.toUInt64 >>> (y.toInt64.toUInt64 &&& Int64.toUInt64 63)).toInt64 = v) (k : XX K ws lv (pc + 1) (.long v :: st)) : XX K ws lv pc (.int y :: .long x :: st) := by
  obtain ⟨⟨p, l, e, R, s, m, args, below, meth, c⟩, H0, A, D, tys, nL', ce, sl, Q⟩ := K
  obtain ⟨⟨hx, hb, hml, hown, hts⟩, hK, hA, hfr, hlo, hce, hsl, rfl, rfl, rfl, rfl⟩ := ok
  intro H locs ls hP hD hS hl
  exact lv_lushr hx hb hd hv (k H locs ls hP hD hS hl)
theorem x_i2l {K : KA × KB} {l0 : Launch} {D0 : va_G} {ty0 : List (ClassId × FieldType)} {cc : ByteArray} {own : String} {nL fr lo rc rs : Nat} {ws : va_W} {lv : List (Nat × Value)} {pc : Nat} {st : List Value} (ok : OKX K l0 D0 ty0 cc own nL fr lo rc rs) {x : Int32} (v : Int64) (hd : decode cc pc = .ok (.i2l, 1)) (hv : x.toInt64 = v) (k : XX K ws lv (pc + 1) (.long v :: st)) : XX K ws lv pc (.int x :: st) := by
  obtain ⟨⟨p, l, e, R, s, m, args, below, meth, c⟩, H0, A, D, tys, nL', ce, sl, Q⟩ := K
  obtain ⟨⟨hx, hb, hml, hown, hts⟩, hK, hA, hfr, hlo, hce, hsl, rfl, rfl, rfl, rfl⟩ := ok
  intro H locs ls hP hD hS hl
  exact lv_i2l hx hb hd hv (k H locs ls hP hD hS hl)
theorem x_l2i {K : KA × KB} {l0 : Launch} {D0 : va_G} {ty0 : List (ClassId × FieldType)} {cc : ByteArray} {own : String} {nL fr lo rc rs : Nat} {ws : va_W} {lv : List (Nat × Value)} {pc : Nat} {st : List Value} (ok : OKX K l0 D0 ty0 cc own nL fr lo rc rs) {x : Int64} (v : Int32) (hd : decode cc pc = .ok (.l2i, 1)) (hv : x.toInt32 = v) (k : XX K ws lv (pc + 1) (.int v :: st)) : XX K ws lv pc (.long x :: st) := by
  obtain ⟨⟨p, l, e, R, s, m, args, below, meth, c⟩, H0, A, D, tys, nL', ce, sl, Q⟩ := K
  obtain ⟨⟨hx, hb, hml, hown, hts⟩, hK, hA, hfr, hlo, hce, hsl, rfl, rfl, rfl, rfl⟩ := ok
  intro H locs ls hP hD hS hl
  exact lv_l2i hx hb hd hv (k H locs ls hP hD hS hl)
theorem x_lcmp {K : KA × KB} {l0 : Launch} {D0 : va_G} {ty0 : List (ClassId × FieldType)} {cc : ByteArray} {own : String} {nL fr lo rc rs : Nat} {ws : va_W} {lv : List (Nat × Value)} {pc : Nat} {st : List Value} (ok : OKX K l0 D0 ty0 cc own nL fr lo rc rs) {x y : Int64} (hd : decode cc pc = .ok (.lcmp, 1))  (k : XX K ws lv (pc + 1) (.int (lg_cmp x y) :: st)) : XX K ws lv pc (.long y :: .long x :: st) := by
  obtain ⟨⟨p, l, e, R, s, m, args, below, meth, c⟩, H0, A, D, tys, nL', ce, sl, Q⟩ := K
  obtain ⟨⟨hx, hb, hml, hown, hts⟩, hK, hA, hfr, hlo, hce, hsl, rfl, rfl, rfl, rfl⟩ := ok
  intro H locs ls hP hD hS hl
  exact W.lcmp hx hb hd  (k H locs ls hP hD hS hl)
theorem x_dup {K : KA × KB} {l0 : Launch} {D0 : va_G} {ty0 : List (ClassId × FieldType)} {cc : ByteArray} {own : String} {nL fr lo rc rs : Nat} {ws : va_W} {lv : List (Nat × Value)} {pc : Nat} {st : List Value} (ok : OKX K l0 D0 ty0 cc own nL fr lo rc rs) {v : Value} (hd : decode cc pc = .ok (.dup, 1)) (hv : v.category = 1) (k : XX K ws lv (pc + 1) (v :: v :: st)) : XX K ws lv pc (v :: st) := by
  obtain ⟨⟨p, l, e, R, s, m, args, below, meth, c⟩, H0, A, D, tys, nL', ce, sl, Q⟩ := K
  obtain ⟨⟨hx, hb, hml, hown, hts⟩, hK, hA, hfr, hlo, hce, hsl, rfl, rfl, rfl, rfl⟩ := ok
  intro H locs ls hP hD hS hl
  exact lv_dup hx hb hd hv (k H locs ls hP hD hS hl)
theorem x_dup2 {K : KA × KB} {l0 : Launch} {D0 : va_G} {ty0 : List (ClassId × FieldType)} {cc : ByteArray} {own : String} {nL fr lo rc rs : Nat} {ws : va_W} {lv : List (Nat × Value)} {pc : Nat} {st : List Value} (ok : OKX K l0 D0 ty0 cc own nL fr lo rc rs) {v w : Value} (hd : decode cc pc = .ok (.dup2, 1)) (hv : v.category = 1) (hw : w.category = 1) (k : XX K ws lv (pc + 1) (v :: w :: v :: w :: st)) : XX K ws lv pc (v :: w :: st) := by
  obtain ⟨⟨p, l, e, R, s, m, args, below, meth, c⟩, H0, A, D, tys, nL', ce, sl, Q⟩ := K
  obtain ⟨⟨hx, hb, hml, hown, hts⟩, hK, hA, hfr, hlo, hce, hsl, rfl, rfl, rfl, rfl⟩ := ok
  intro H locs ls hP hD hS hl
  exact lv_dup2_11 hx hb hd hv hw (k H locs ls hP hD hS hl)
theorem x_pop {K : KA × KB} {l0 : Launch} {D0 : va_G} {ty0 : List (ClassId × FieldType)} {cc : ByteArray} {own : String} {nL fr lo rc rs : Nat} {ws : va_W} {lv : List (Nat × Value)} {pc : Nat} {st : List Value} (ok : OKX K l0 D0 ty0 cc own nL fr lo rc rs) {v : Value} (hd : decode cc pc = .ok (.pop, 1)) (hv : v.category = 1) (k : XX K ws lv (pc + 1) st) : XX K ws lv pc (v :: st) := by
  obtain ⟨⟨p, l, e, R, s, m, args, below, meth, c⟩, H0, A, D, tys, nL', ce, sl, Q⟩ := K
  obtain ⟨⟨hx, hb, hml, hown, hts⟩, hK, hA, hfr, hlo, hce, hsl, rfl, rfl, rfl, rfl⟩ := ok
  intro H locs ls hP hD hS hl
  exact lv_pop hx hb hd hv (k H locs ls hP hD hS hl)
theorem x_goto {K : KA × KB} {l0 : Launch} {D0 : va_G} {ty0 : List (ClassId × FieldType)} {cc : ByteArray} {own : String} {nL fr lo rc rs : Nat} {ws : va_W} {lv : List (Nat × Value)} {pc : Nat} {st : List Value} (ok : OKX K l0 D0 ty0 cc own nL fr lo rc rs) {off : Int} (tgt : Nat) (hd : decode cc pc = .ok (.goto off, 3)) (ht : (pc : Int) + off = (tgt : Int)) (k : XX K ws lv tgt st) : XX K ws lv pc st := by
  obtain ⟨⟨p, l, e, R, s, m, args, below, meth, c⟩, H0, A, D, tys, nL', ce, sl, Q⟩ := K
  obtain ⟨⟨hx, hb, hml, hown, hts⟩, hK, hA, hfr, hlo, hce, hsl, rfl, rfl, rfl, rfl⟩ := ok
  intro H locs ls hP hD hS hl
  exact lv_goto hx hb hd ht (k H locs ls hP hD hS hl)
theorem x_if_eq {K : KA × KB} {l0 : Launch} {D0 : va_G} {ty0 : List (ClassId × FieldType)} {cc : ByteArray} {own : String} {nL fr lo rc rs : Nat} {ws : va_W} {lv : List (Nat × Value)} {pc : Nat} {st : List Value} (ok : OKX K l0 D0 ty0 cc own nL fr lo rc rs) {x : Int32} {off : Int} (tgt : Nat) (hd : decode cc pc = .ok (.ifCond .eq off, 3)) (ht : (pc : Int) + off = (tgt : Int)) (kt : x = 0 → XX K ws lv tgt st) (kf : ¬ x = 0 → XX K ws lv (pc + 3) st) : XX K ws lv pc (.int x :: st) := by
  obtain ⟨⟨p, l, e, R, s, m, args, below, meth, c⟩, H0, A, D, tys, nL', ce, sl, Q⟩ := K
  obtain ⟨⟨hx, hb, hml, hown, hts⟩, hK, hA, hfr, hlo, hce, hsl, rfl, rfl, rfl, rfl⟩ := ok
  intro H locs ls hP hD hS hl
  exact lv_if_eq hx hb hd ht (fun q => kt q H locs ls hP hD hS hl) (fun q => kf q H locs ls hP hD hS hl)
theorem x_icmp_eq {K : KA × KB} {l0 : Launch} {D0 : va_G} {ty0 : List (ClassId × FieldType)} {cc : ByteArray} {own : String} {nL fr lo rc rs : Nat} {ws : va_W} {lv : List (Nat × Value)} {pc : Nat} {st : List Value} (ok : OKX K l0 D0 ty0 cc own nL fr lo rc rs) {x y : Int32} {off : Int} (tgt : Nat) (hd : decode cc pc = .ok (.if_icmp .eq off, 3)) (ht : (pc : Int) + off = (tgt : Int)) (kt : x = y → XX K ws lv tgt st) (kf : ¬ x = y → XX K ws lv (pc + 3) st) : XX K ws lv pc (.int y :: .int x :: st) := by
  obtain ⟨⟨p, l, e, R, s, m, args, below, meth, c⟩, H0, A, D, tys, nL', ce, sl, Q⟩ := K
  obtain ⟨⟨hx, hb, hml, hown, hts⟩, hK, hA, hfr, hlo, hce, hsl, rfl, rfl, rfl, rfl⟩ := ok
  intro H locs ls hP hD hS hl
  exact lv_icmp_eq hx hb hd ht (fun q => kt q H locs ls hP hD hS hl) (fun q => kf q H locs ls hP hD hS hl)
theorem x_if_ne {K : KA × KB} {l0 : Launch} {D0 : va_G} {ty0 : List (ClassId × FieldType)} {cc : ByteArray} {own : String} {nL fr lo rc rs : Nat} {ws : va_W} {lv : List (Nat × Value)} {pc : Nat} {st : List Value} (ok : OKX K l0 D0 ty0 cc own nL fr lo rc rs) {x : Int32} {off : Int} (tgt : Nat) (hd : decode cc pc = .ok (.ifCond .ne off, 3)) (ht : (pc : Int) + off = (tgt : Int)) (kt : ¬ x = 0 → XX K ws lv tgt st) (kf : x = 0 → XX K ws lv (pc + 3) st) : XX K ws lv pc (.int x :: st) := by
  obtain ⟨⟨p, l, e, R, s, m, args, below, meth, c⟩, H0, A, D, tys, nL', ce, sl, Q⟩ := K
  obtain ⟨⟨hx, hb, hml, hown, hts⟩, hK, hA, hfr, hlo, hce, hsl, rfl, rfl, rfl, rfl⟩ := ok
  intro H locs ls hP hD hS hl
  exact lv_if_ne hx hb hd ht (fun q => kt q H locs ls hP hD hS hl) (fun q => kf q H locs ls hP hD hS hl)
theorem x_icmp_ne {K : KA × KB} {l0 : Launch} {D0 : va_G} {ty0 : List (ClassId × FieldType)} {cc : ByteArray} {own : String} {nL fr lo rc rs : Nat} {ws : va_W} {lv : List (Nat × Value)} {pc : Nat} {st : List Value} (ok : OKX K l0 D0 ty0 cc own nL fr lo rc rs) {x y : Int32} {off : Int} (tgt : Nat) (hd : decode cc pc = .ok (.if_icmp .ne off, 3)) (ht : (pc : Int) + off = (tgt : Int)) (kt : ¬ x = y → XX K ws lv tgt st) (kf : x = y → XX K ws lv (pc + 3) st) : XX K ws lv pc (.int y :: .int x :: st) := by
  obtain ⟨⟨p, l, e, R, s, m, args, below, meth, c⟩, H0, A, D, tys, nL', ce, sl, Q⟩ := K
  obtain ⟨⟨hx, hb, hml, hown, hts⟩, hK, hA, hfr, hlo, hce, hsl, rfl, rfl, rfl, rfl⟩ := ok
  intro H locs ls hP hD hS hl
  exact lv_icmp_ne hx hb hd ht (fun q => kt q H locs ls hP hD hS hl) (fun q => kf q H locs ls hP hD hS hl)
theorem x_if_lt {K : KA × KB} {l0 : Launch} {D0 : va_G} {ty0 : List (ClassId × FieldType)} {cc : ByteArray} {own : String} {nL fr lo rc rs : Nat} {ws : va_W} {lv : List (Nat × Value)} {pc : Nat} {st : List Value} (ok : OKX K l0 D0 ty0 cc own nL fr lo rc rs) {x : Int32} {off : Int} (tgt : Nat) (hd : decode cc pc = .ok (.ifCond .lt off, 3)) (ht : (pc : Int) + off = (tgt : Int)) (kt : x < 0 → XX K ws lv tgt st) (kf : ¬ x < 0 → XX K ws lv (pc + 3) st) : XX K ws lv pc (.int x :: st) := by
  obtain ⟨⟨p, l, e, R, s, m, args, below, meth, c⟩, H0, A, D, tys, nL', ce, sl, Q⟩ := K
  obtain ⟨⟨hx, hb, hml, hown, hts⟩, hK, hA, hfr, hlo, hce, hsl, rfl, rfl, rfl, rfl⟩ := ok
  intro H locs ls hP hD hS hl
  exact lv_if_lt hx hb hd ht (fun q => kt q H locs ls hP hD hS hl) (fun q => kf q H locs ls hP hD hS hl)
theorem x_icmp_lt {K : KA × KB} {l0 : Launch} {D0 : va_G} {ty0 : List (ClassId × FieldType)} {cc : ByteArray} {own : String} {nL fr lo rc rs : Nat} {ws : va_W} {lv : List (Nat × Value)} {pc : Nat} {st : List Value} (ok : OKX K l0 D0 ty0 cc own nL fr lo rc rs) {x y : Int32} {off : Int} (tgt : Nat) (hd : decode cc pc = .ok (.if_icmp .lt off, 3)) (ht : (pc : Int) + off = (tgt : Int)) (kt : x < y → XX K ws lv tgt st) (kf : ¬ x < y → XX K ws lv (pc + 3) st) : XX K ws lv pc (.int y :: .int x :: st) := by
  obtain ⟨⟨p, l, e, R, s, m, args, below, meth, c⟩, H0, A, D, tys, nL', ce, sl, Q⟩ := K
  obtain ⟨⟨hx, hb, hml, hown, hts⟩, hK, hA, hfr, hlo, hce, hsl, rfl, rfl, rfl, rfl⟩ := ok
  intro H locs ls hP hD hS hl
  exact lv_icmp_lt hx hb hd ht (fun q => kt q H locs ls hP hD hS hl) (fun q => kf q H locs ls hP hD hS hl)
theorem x_if_ge {K : KA × KB} {l0 : Launch} {D0 : va_G} {ty0 : List (ClassId × FieldType)} {cc : ByteArray} {own : String} {nL fr lo rc rs : Nat} {ws : va_W} {lv : List (Nat × Value)} {pc : Nat} {st : List Value} (ok : OKX K l0 D0 ty0 cc own nL fr lo rc rs) {x : Int32} {off : Int} (tgt : Nat) (hd : decode cc pc = .ok (.ifCond .ge off, 3)) (ht : (pc : Int) + off = (tgt : Int)) (kt : 0 ≤ x → XX K ws lv tgt st) (kf : ¬ 0 ≤ x → XX K ws lv (pc + 3) st) : XX K ws lv pc (.int x :: st) := by
  obtain ⟨⟨p, l, e, R, s, m, args, below, meth, c⟩, H0, A, D, tys, nL', ce, sl, Q⟩ := K
  obtain ⟨⟨hx, hb, hml, hown, hts⟩, hK, hA, hfr, hlo, hce, hsl, rfl, rfl, rfl, rfl⟩ := ok
  intro H locs ls hP hD hS hl
  exact lv_if_ge hx hb hd ht (fun q => kt q H locs ls hP hD hS hl) (fun q => kf q H locs ls hP hD hS hl)
theorem x_icmp_ge {K : KA × KB} {l0 : Launch} {D0 : va_G} {ty0 : List (ClassId × FieldType)} {cc : ByteArray} {own : String} {nL fr lo rc rs : Nat} {ws : va_W} {lv : List (Nat × Value)} {pc : Nat} {st : List Value} (ok : OKX K l0 D0 ty0 cc own nL fr lo rc rs) {x y : Int32} {off : Int} (tgt : Nat) (hd : decode cc pc = .ok (.if_icmp .ge off, 3)) (ht : (pc : Int) + off = (tgt : Int)) (kt : y ≤ x → XX K ws lv tgt st) (kf : ¬ y ≤ x → XX K ws lv (pc + 3) st) : XX K ws lv pc (.int y :: .int x :: st) := by
  obtain ⟨⟨p, l, e, R, s, m, args, below, meth, c⟩, H0, A, D, tys, nL', ce, sl, Q⟩ := K
  obtain ⟨⟨hx, hb, hml, hown, hts⟩, hK, hA, hfr, hlo, hce, hsl, rfl, rfl, rfl, rfl⟩ := ok
  intro H locs ls hP hD hS hl
  exact lv_icmp_ge hx hb hd ht (fun q => kt q H locs ls hP hD hS hl) (fun q => kf q H locs ls hP hD hS hl)
theorem x_if_gt {K : KA × KB} {l0 : Launch} {D0 : va_G} {ty0 : List (ClassId × FieldType)} {cc : ByteArray} {own : String} {nL fr lo rc rs : Nat} {ws : va_W} {lv : List (Nat × Value)} {pc : Nat} {st : List Value} (ok : OKX K l0 D0 ty0 cc own nL fr lo rc rs) {x : Int32} {off : Int} (tgt : Nat) (hd : decode cc pc = .ok (.ifCond .gt off, 3)) (ht : (pc : Int) + off = (tgt : Int)) (kt : 0 < x → XX K ws lv tgt st) (kf : ¬ 0 < x → XX K ws lv (pc + 3) st) : XX K ws lv pc (.int x :: st) := by
  obtain ⟨⟨p, l, e, R, s, m, args, below, meth, c⟩, H0, A, D, tys, nL', ce, sl, Q⟩ := K
  obtain ⟨⟨hx, hb, hml, hown, hts⟩, hK, hA, hfr, hlo, hce, hsl, rfl, rfl, rfl, rfl⟩ := ok
  intro H locs ls hP hD hS hl
  exact lv_if_gt hx hb hd ht (fun q => kt q H locs ls hP hD hS hl) (fun q => kf q H locs ls hP hD hS hl)
theorem x_icmp_gt {K : KA × KB} {l0 : Launch} {D0 : va_G} {ty0 : List (ClassId × FieldType)} {cc : ByteArray} {own : String} {nL fr lo rc rs : Nat} {ws : va_W} {lv : List (Nat × Value)} {pc : Nat} {st : List Value} (ok : OKX K l0 D0 ty0 cc own nL fr lo rc rs) {x y : Int32} {off : Int} (tgt : Nat) (hd : decode cc pc = .ok (.if_icmp .gt off, 3)) (ht : (pc : Int) + off = (tgt : Int)) (kt : y < x → XX K ws lv tgt st) (kf : ¬ y < x → XX K ws lv (pc + 3) st) : XX K ws lv pc (.int y :: .int x :: st) := by
  obtain ⟨⟨p, l, e, R, s, m, args, below, meth, c⟩, H0, A, D, tys, nL', ce, sl, Q⟩ := K
  obtain ⟨⟨hx, hb, hml, hown, hts⟩, hK, hA, hfr, hlo, hce, hsl, rfl, rfl, rfl, rfl⟩ := ok
  intro H locs ls hP hD hS hl
  exact lv_icmp_gt hx hb hd ht (fun q => kt q H locs ls hP hD hS hl) (fun q => kf q H locs ls hP hD hS hl)
theorem x_if_le {K : KA × KB} {l0 : Launch} {D0 : va_G} {ty0 : List (ClassId × FieldType)} {cc : ByteArray} {own : String} {nL fr lo rc rs : Nat} {ws : va_W} {lv : List (Nat × Value)} {pc : Nat} {st : List Value} (ok : OKX K l0 D0 ty0 cc own nL fr lo rc rs) {x : Int32} {off : Int} (tgt : Nat) (hd : decode cc pc = .ok (.ifCond .le off, 3)) (ht : (pc : Int) + off = (tgt : Int)) (kt : x ≤ 0 → XX K ws lv tgt st) (kf : ¬ x ≤ 0 → XX K ws lv (pc + 3) st) : XX K ws lv pc (.int x :: st) := by
  obtain ⟨⟨p, l, e, R, s, m, args, below, meth, c⟩, H0, A, D, tys, nL', ce, sl, Q⟩ := K
  obtain ⟨⟨hx, hb, hml, hown, hts⟩, hK, hA, hfr, hlo, hce, hsl, rfl, rfl, rfl, rfl⟩ := ok
  intro H locs ls hP hD hS hl
  exact lv_if_le hx hb hd ht (fun q => kt q H locs ls hP hD hS hl) (fun q => kf q H locs ls hP hD hS hl)
theorem x_icmp_le {K : KA × KB} {l0 : Launch} {D0 : va_G} {ty0 : List (ClassId × FieldType)} {cc : ByteArray} {own : String} {nL fr lo rc rs : Nat} {ws : va_W} {lv : List (Nat × Value)} {pc : Nat} {st : List Value} (ok : OKX K l0 D0 ty0 cc own nL fr lo rc rs) {x y : Int32} {off : Int} (tgt : Nat) (hd : decode cc pc = .ok (.if_icmp .le off, 3)) (ht : (pc : Int) + off = (tgt : Int)) (kt : x ≤ y → XX K ws lv tgt st) (kf : ¬ x ≤ y → XX K ws lv (pc + 3) st) : XX K ws lv pc (.int y :: .int x :: st) := by
  obtain ⟨⟨p, l, e, R, s, m, args, below, meth, c⟩, H0, A, D, tys, nL', ce, sl, Q⟩ := K
  obtain ⟨⟨hx, hb, hml, hown, hts⟩, hK, hA, hfr, hlo, hce, hsl, rfl, rfl, rfl, rfl⟩ := ok
  intro H locs ls hP hD hS hl
  exact lv_icmp_le hx hb hd ht (fun q => kt q H locs ls hP hD hS hl) (fun q => kf q H locs ls hP hD hS hl)
theorem x_ldc2 {K : KA × KB} {l0 : Launch} {D0 : va_G} {ty0 : List (ClassId × FieldType)} {cc : ByteArray} {own : String} {nL fr lo rc rs : Nat} {ws : va_W} {lv : List (Nat × Value)} {pc : Nat} {st : List Value} (ok : OKX K l0 D0 ty0 cc own nL fr lo rc rs) {i : Nat} {v : Int64} (hc : Cond.constantLong own i v ∈ wA) (hd : decode cc pc = .ok (.ldc2_w i, 3)) (k : XX K ws lv (pc + 3) (.long v :: st)) : XX K ws lv pc st := by
  obtain ⟨⟨p, l, e, R, s, m, args, below, meth, c⟩, H0, A, D, tys, nL', ce, sl, Q⟩ := K
  obtain ⟨⟨hx, hb, hml, hown, hts⟩, hK, hA, hfr, hlo, hce, hsl, rfl, rfl, rfl, rfl⟩ := ok
  intro H locs ls hP hD hS hl
  exact lv_ldc2 hx hb hown (hts _ hc) hd (k H locs ls hP hD hS hl)
theorem x_ldcw {K : KA × KB} {l0 : Launch} {D0 : va_G} {ty0 : List (ClassId × FieldType)} {cc : ByteArray} {own : String} {nL fr lo rc rs : Nat} {ws : va_W} {lv : List (Nat × Value)} {pc : Nat} {st : List Value} (ok : OKX K l0 D0 ty0 cc own nL fr lo rc rs) {i : Nat} {v : Int32} (hc : Cond.constant own i v ∈ wA) (hd : decode cc pc = .ok (.ldc_w i, 3)) (k : XX K ws lv (pc + 3) (.int v :: st)) : XX K ws lv pc st := by
  obtain ⟨⟨p, l, e, R, s, m, args, below, meth, c⟩, H0, A, D, tys, nL', ce, sl, Q⟩ := K
  obtain ⟨⟨hx, hb, hml, hown, hts⟩, hK, hA, hfr, hlo, hce, hsl, rfl, rfl, rfl, rfl⟩ := ok
  intro H locs ls hP hD hS hl
  exact lv_ldcw hx hb hown (hts _ hc) hd (k H locs ls hP hD hS hl)
theorem x_ldc {K : KA × KB} {l0 : Launch} {D0 : va_G} {ty0 : List (ClassId × FieldType)} {cc : ByteArray} {own : String} {nL fr lo rc rs : Nat} {ws : va_W} {lv : List (Nat × Value)} {pc : Nat} {st : List Value} (ok : OKX K l0 D0 ty0 cc own nL fr lo rc rs) {i : Nat} {v : Int32} (hc : Cond.constant own i v ∈ wA) (hd : decode cc pc = .ok (.ldc i, 2)) (k : XX K ws lv (pc + 2) (.int v :: st)) : XX K ws lv pc st := by
  obtain ⟨⟨p, l, e, R, s, m, args, below, meth, c⟩, H0, A, D, tys, nL', ce, sl, Q⟩ := K
  obtain ⟨⟨hx, hb, hml, hown, hts⟩, hK, hA, hfr, hlo, hce, hsl, rfl, rfl, rfl, rfl⟩ := ok
  intro H locs ls hP hD hS hl
  exact lv_ldc hx hb hown (hts _ hc) hd (k H locs ls hP hD hS hl)
theorem x_ifnonnull {K : KA × KB} {l0 : Launch} {D0 : va_G} {ty0 : List (ClassId × FieldType)} {cc : ByteArray} {own : String} {nL fr lo rc rs : Nat} {ws : va_W} {lv : List (Nat × Value)} {pc : Nat} {st : List Value} (ok : OKX K l0 D0 ty0 cc own nL fr lo rc rs) {x : Nat} {off : Int} (tgt : Nat) (hd : decode cc pc = .ok (.ifnonnull off, 3)) (ht : (pc : Int) + off = (tgt : Int)) (k : XX K ws lv tgt st) : XX K ws lv pc (.ref x :: st) := by
  obtain ⟨⟨p, l, e, R, s, m, args, below, meth, c⟩, H0, A, D, tys, nL', ce, sl, Q⟩ := K
  obtain ⟨⟨hx, hb, hml, hown, hts⟩, hK, hA, hfr, hlo, hce, hsl, rfl, rfl, rfl, rfl⟩ := ok
  intro H locs ls hP hD hS hl
  exact lv_ifnonnull hx hb hd ht (k H locs ls hP hD hS hl)
theorem x_ifnull {K : KA × KB} {l0 : Launch} {D0 : va_G} {ty0 : List (ClassId × FieldType)} {cc : ByteArray} {own : String} {nL fr lo rc rs : Nat} {ws : va_W} {lv : List (Nat × Value)} {pc : Nat} {st : List Value} (ok : OKX K l0 D0 ty0 cc own nL fr lo rc rs) {x : Nat} {off : Int} (hd : decode cc pc = .ok (.ifnull off, 3)) (k : XX K ws lv (pc + 3) st) : XX K ws lv pc (.ref x :: st) := by
  obtain ⟨⟨p, l, e, R, s, m, args, below, meth, c⟩, H0, A, D, tys, nL', ce, sl, Q⟩ := K
  obtain ⟨⟨hx, hb, hml, hown, hts⟩, hK, hA, hfr, hlo, hce, hsl, rfl, rfl, rfl, rfl⟩ := ok
  intro H locs ls hP hD hS hl
  exact lv_ifnull hx hb hd (k H locs ls hP hD hS hl)
theorem x_iald {K : KA × KB} {l0 : Launch} {D0 : va_G} {ty0 : List (ClassId × FieldType)} {cc : ByteArray} {own : String} {nL fr lo rc rs : Nat} {ws : va_W} {lv : List (Nat × Value)} {pc : Nat} {st : List Value} (ok : OKX K l0 D0 ty0 cc own nL fr lo rc rs) (q0 t0 : Nat) {a : Nat} {cA : ClassId} {n : Nat} {f : Nat → Int32} {i : Int32} (j : Nat) (hd : decode cc pc = .ok (.iaload, 1)) (ha : ws[q0]? = some (a, .inl (cA, n, .inl f))) (ht : ty0[t0]? = some (cA, .int)) (hi : i = nI j) (hj : j < n) (hn : n < 2 ^ 31) (v : Int32) (hv : f j = v) (k : XX K ws lv (pc + 1) (.int v :: st)) : XX K ws lv pc (.int i :: .ref a :: st) := by
  obtain ⟨⟨p, l, e, R, s, m, args, below, meth, c⟩, H0, A, D, tys, nL', ce, sl, Q⟩ := K
  obtain ⟨⟨hx, hb, hml, hown, hts⟩, hK, hA, hfr, hlo, hce, hsl, rfl, rfl, rfl, rfl⟩ := ok
  intro H locs ls hP hD hS hl
  subst hi; subst hv
  refine va_iald hx hb hK.1 hP q0 t0 ha ht (vp_in_nI hj hn) hd ?_
  rw [nI_clamp (by omega)]
  exact k H locs ls hP hD hS hl
theorem x_ialdR {K : KA × KB} {l0 : Launch} {D0 : va_G} {ty0 : List (ClassId × FieldType)} {cc : ByteArray} {own : String} {nL fr lo rc rs : Nat} {ws : va_W} {lv : List (Nat × Value)} {pc : Nat} {st : List Value} (ok : OKX K l0 D0 ty0 cc own nL fr lo rc rs) (q0 t0 : Nat) {a : Nat} {cA : ClassId} {n : Nat} {f : Nat → Int32} {i : Int32} (hd : decode cc pc = .ok (.iaload, 1)) (ha : ws[q0]? = some (a, .inl (cA, n, .inl f))) (ht : ty0[t0]? = some (cA, .int)) (hi : vp_in i n) (k : XX K ws lv (pc + 1) (.int (f i.toNatClampNeg) :: st)) : XX K ws lv pc (.int i :: .ref a :: st) := by
  obtain ⟨⟨p, l, e, R, s, m, args, below, meth, c⟩, H0, A, D, tys, nL', ce, sl, Q⟩ := K
  obtain ⟨⟨hx, hb, hml, hown, hts⟩, hK, hA, hfr, hlo, hce, hsl, rfl, rfl, rfl, rfl⟩ := ok
  intro H locs ls hP hD hS hl
  exact va_iald hx hb hK.1 hP q0 t0 ha ht hi hd (k H locs ls hP hD hS hl)
theorem x_iast {K : KA × KB} {l0 : Launch} {D0 : va_G} {ty0 : List (ClassId × FieldType)} {cc : ByteArray} {own : String} {nL fr lo rc rs : Nat} {ws : va_W} {lv : List (Nat × Value)} {pc : Nat} {st : List Value} (ok : OKX K l0 D0 ty0 cc own nL fr lo rc rs) (q0 t0 : Nat) {a : Nat} {cA : ClassId} {n : Nat} {f f' : Nat → Int32} {i x : Int32} (j : Nat) {ws' : va_W} (hd : decode cc pc = .ok (.iastore, 1)) (ha : ws[q0]? = some (a, .inl (cA, n, .inl f))) (ht : ty0[t0]? = some (cA, .int)) (hi : i = nI j) (hj : j < n) (hn : n < 2 ^ 31) (hf : upd f j x = f') (hw : ws.set q0 (a, .inl (cA, n, .inl f')) = ws') (k : XX K ws' lv (pc + 1) st) : XX K ws lv pc (.int x :: .int i :: .ref a :: st) := by
  obtain ⟨⟨p, l, e, R, s, m, args, below, meth, c⟩, H0, A, D, tys, nL', ce, sl, Q⟩ := K
  obtain ⟨⟨hx, hb, hml, hown, hts⟩, hK, hA, hfr, hlo, hce, hsl, rfl, rfl, rfl, rfl⟩ := ok
  intro H locs ls hP hD hS hl
  subst hi; subst hf; subst hw
  refine va_iast hx hb hK.1 hP hD hS q0 t0 ha ht (vp_in_nI hj hn) hd ?_
  rw [nI_clamp (by omega)]
  exact fun H locs hP hD hS => k H locs ls hP hD hS hl
theorem x_zald {K : KA × KB} {l0 : Launch} {D0 : va_G} {ty0 : List (ClassId × FieldType)} {cc : ByteArray} {own : String} {nL fr lo rc rs : Nat} {ws : va_W} {lv : List (Nat × Value)} {pc : Nat} {st : List Value} (ok : OKX K l0 D0 ty0 cc own nL fr lo rc rs) (q0 t0 : Nat) {a : Nat} {cA : ClassId} {n : Nat} {f : Nat → Int32} {i : Int32} (j : Nat) (hd : decode cc pc = .ok (.baload, 1)) (ha : ws[q0]? = some (a, .inl (cA, n, .inl f))) (ht : ty0[t0]? = some (cA, .boolean)) (hi : i = nI j) (hj : j < n) (hn : n < 2 ^ 31) (v : Int32) (hv : f j = v) (k : XX K ws lv (pc + 1) (.int v :: st)) : XX K ws lv pc (.int i :: .ref a :: st) := by
  obtain ⟨⟨p, l, e, R, s, m, args, below, meth, c⟩, H0, A, D, tys, nL', ce, sl, Q⟩ := K
  obtain ⟨⟨hx, hb, hml, hown, hts⟩, hK, hA, hfr, hlo, hce, hsl, rfl, rfl, rfl, rfl⟩ := ok
  intro H locs ls hP hD hS hl
  subst hi; subst hv
  refine va_zald hx hb hK.1 hP q0 t0 ha ht (vp_in_nI hj hn) hd ?_
  rw [nI_clamp (by omega)]
  exact k H locs ls hP hD hS hl
theorem x_zast {K : KA × KB} {l0 : Launch} {D0 : va_G} {ty0 : List (ClassId × FieldType)} {cc : ByteArray} {own : String} {nL fr lo rc rs : Nat} {ws : va_W} {lv : List (Nat × Value)} {pc : Nat} {st : List Value} (ok : OKX K l0 D0 ty0 cc own nL fr lo rc rs) (q0 t0 : Nat) {a : Nat} {cA : ClassId} {n : Nat} {f f' : Nat → Int32} {i x : Int32} (j : Nat) {ws' : va_W} (hd : decode cc pc = .ok (.bastore, 1)) (ha : ws[q0]? = some (a, .inl (cA, n, .inl f))) (ht : ty0[t0]? = some (cA, .boolean)) (hi : i = nI j) (hj : j < n) (hn : n < 2 ^ 31) (hx2 : vp_nar .boolean x = x) (hf : upd f j x = f') (hw : ws.set q0 (a, .inl (cA, n, .inl f')) = ws') (k : XX K ws' lv (pc + 1) st) : XX K ws lv pc (.int x :: .int i :: .ref a :: st) := by
  obtain ⟨⟨p, l, e, R, s, m, args, below, meth, c⟩, H0, A, D, tys, nL', ce, sl, Q⟩ := K
  obtain ⟨⟨hx, hb, hml, hown, hts⟩, hK, hA, hfr, hlo, hce, hsl, rfl, rfl, rfl, rfl⟩ := ok
  intro H locs ls hP hD hS hl
  subst hi; subst hf; subst hw
  refine va_zast hx hb hK.1 hP hD hS q0 t0 ha ht (vp_in_nI hj hn) hd ?_
  rw [nI_clamp (by omega), hx2]
  exact fun H locs hP hD hS => k H locs ls hP hD hS hl
theorem x_alen {K : KA × KB} {l0 : Launch} {D0 : va_G} {ty0 : List (ClassId × FieldType)} {cc : ByteArray} {own : String} {nL fr lo rc rs : Nat} {ws : va_W} {lv : List (Nat × Value)} {pc : Nat} {st : List Value} (ok : OKX K l0 D0 ty0 cc own nL fr lo rc rs) (q0 t0 : Nat) {a : Nat} {cA : ClassId} {x : vp_A} {ty : FieldType} (v : Int32) (hd : decode cc pc = .ok (.arraylength, 1)) (ha : ws[q0]? = some (a, .inl (cA, x))) (ht : ty0[t0]? = some (cA, ty)) (hv : Int32.ofNat x.1 = v) (k : XX K ws lv (pc + 1) (.int v :: st)) : XX K ws lv pc (.ref a :: st) := by
  obtain ⟨⟨p, l, e, R, s, m, args, below, meth, c⟩, H0, A, D, tys, nL', ce, sl, Q⟩ := K
  obtain ⟨⟨hx, hb, hml, hown, hts⟩, hK, hA, hfr, hlo, hce, hsl, rfl, rfl, rfl, rfl⟩ := ok
  intro H locs ls hP hD hS hl
  exact va_alen hx hb hK.1 hP q0 t0 ha ht hv hd (k H locs ls hP hD hS hl)
theorem x_aald {K : KA × KB} {l0 : Launch} {D0 : va_G} {ty0 : List (ClassId × FieldType)} {cc : ByteArray} {own : String} {nL fr lo rc rs : Nat} {ws : va_W} {lv : List (Nat × Value)} {pc : Nat} {st : List Value} (ok : OKX K l0 D0 ty0 cc own nL fr lo rc rs) (q0 t0 : Nat) {a : Nat} {cA : ClassId} {C : String} {n : Nat} {f : Nat → Option Nat} {i : Int32} (j : Nat) (hd : decode cc pc = .ok (.aaload, 1)) (ha : ws[q0]? = some (a, .inl (cA, n, .inr (.inr (.inr (.inr f)))))) (ht : ty0[t0]? = some (cA, .object C)) (hi : i = nI j) (hj : j < n) (hn : n < 2 ^ 31) (v : Nat) (hv : f j = some v) (k : XX K ws lv (pc + 1) (.ref v :: st)) : XX K ws lv pc (.int i :: .ref a :: st) := by
  obtain ⟨⟨p, l, e, R, s, m, args, below, meth, c⟩, H0, A, D, tys, nL', ce, sl, Q⟩ := K
  obtain ⟨⟨hx, hb, hml, hown, hts⟩, hK, hA, hfr, hlo, hce, hsl, rfl, rfl, rfl, rfl⟩ := ok
  intro H locs ls hP hD hS hl
  subst hi
  refine va_aldq hx hb hK.1 hP q0 t0 ha ht (vp_in_nI hj hn) hd ?_
  rw [nI_clamp (by omega), hv]
  exact k H locs ls hP hD hS hl
theorem x_aast {K : KA × KB} {l0 : Launch} {D0 : va_G} {ty0 : List (ClassId × FieldType)} {cc : ByteArray} {own : String} {nL fr lo rc rs : Nat} {ws : va_W} {lv : List (Nat × Value)} {pc : Nat} {st : List Value} (ok : OKX K l0 D0 ty0 cc own nL fr lo rc rs) (q0 t0 qk ci : Nat) {a : Nat} {cA : ClassId} {r : vw_C} {n v : Nat} {vs : List Value} {f f' : Nat → Option Nat} {i : Int32} (j : Nat) {ws' : va_W} (hd : decode cc pc = .ok (.aastore, 1)) (ha : ws[q0]? = some (a, .inl (cA, n, .inr (.inr (.inr (.inr f)))))) (ht : ty0[t0]? = some (cA, .object r.1)) (hv : ws[qk]? = some (v, .inr (ci, vs))) (hc : CL[ci]? = some r) (hi : i = nI j) (hj : j < n) (hn : n < 2 ^ 31) (hf : va_up f j (some v) = f') (hw : ws.set q0 (a, .inl (cA, n, .inr (.inr (.inr (.inr f'))))) = ws') (k : XX K ws' lv (pc + 1) st) : XX K ws lv pc (.ref v :: .int i :: .ref a :: st) := by
  obtain ⟨⟨p, l, e, R, s, m, args, below, meth, c⟩, H0, A, D, tys, nL', ce, sl, Q⟩ := K
  obtain ⟨⟨hx, hb, hml, hown, hts⟩, hK, hA, hfr, hlo, hce, hsl, rfl, rfl, rfl, rfl⟩ := ok
  intro H locs ls hP hD hS hl
  subst hi; subst hf; subst hw
  refine va_astq hx hb hK.1 hP hD hS q0 t0 qk ci ha ht hv hc (vp_in_nI hj hn) hd ?_
  rw [nI_clamp (by omega)]
  exact fun H locs hP hD hS => k H locs ls hP hD hS hl
theorem x_get {K : KA × KB} {l0 : Launch} {D0 : va_G} {ty0 : List (ClassId × FieldType)} {cc : ByteArray} {own : String} {nL fr lo rc rs : Nat} {ws : va_W} {lv : List (Nat × Value)} {pc : Nat} {st : List Value} (ok : OKX K l0 D0 ty0 cc own nL fr lo rc rs) {C : String} {T : u_T} {N index : Nat} (ci fi : Nat) {a : Nat} (hin : ∀ w ∈ u_ws C T N, w ∈ wA) (hc : CL[ci]? = some (C, T, N)) (hk : fi < N) (hlink : Cond.fieldLink own index (T fi).1 (T fi).2.1 (T fi).2.2.1 ∈ wA) (hd : decode cc pc = .ok (.getfield index, 3)) (q0 : Nat) {fs : List Value} (he : ws[q0]? = some (a, .inr (ci, fs))) {v : Value} (hv : fs[fi]? = some v) (k : XX K ws lv (pc + 3) (v :: st)) : XX K ws lv pc (.ref a :: st) := by
  obtain ⟨⟨p, l, e, R, s, m, args, below, meth, c⟩, H0, A, D, tys, nL', ce, sl, Q⟩ := K
  obtain ⟨⟨hx, hb, hml, hown, hts⟩, hK, hA, hfr, hlo, hce, hsl, rfl, rfl, rfl, rfl⟩ := ok
  intro H locs ls hP hD hS hl
  exact va_get hx hb hts hin hown hK.1 hP q0 he hc fi hk (hts _ hlink) (fun _ h => h) hv hd (k H locs ls hP hD hS hl)
theorem x_getN {K : KA × KB} {l0 : Launch} {D0 : va_G} {ty0 : List (ClassId × FieldType)} {cc : ByteArray} {own : String} {nL fr lo rc rs : Nat} {ws : va_W} {lv : List (Nat × Value)} {pc : Nat} {st : List Value} (ok : OKX K l0 D0 ty0 cc own nL fr lo rc rs) {C : String} {T : u_T} {N index : Nat} {host : String} (ci fi : Nat) {a : Nat} (hin : ∀ w ∈ u_ws C T N, w ∈ wA) (hc : CL[ci]? = some (C, T, N)) (hk : fi < N) (hlink : Cond.fieldLinkNest own index (T fi).1 (T fi).2.1 (T fi).2.2.1 host ∈ nestW) (hd : decode cc pc = .ok (.getfield index, 3)) (q0 : Nat) {fs : List Value} (he : ws[q0]? = some (a, .inr (ci, fs))) {v : Value} (hv : fs[fi]? = some v) (k : XX K ws lv (pc + 3) (v :: st)) : XX K ws lv pc (.ref a :: st) := by
  obtain ⟨⟨p, l, e, R, s, m, args, below, meth, c⟩, H0, A, D, tys, nL', ce, sl, Q⟩ := K
  obtain ⟨⟨hx, hb, hml, hown, hts⟩, hK, hA, hfr, hlo, hce, hsl, rfl, rfl, rfl, rfl⟩ := ok
  intro H locs ls hP hD hS hl
  exact va_getN hx hb hts hin hown hK.1 hP q0 he hc fi hk (va_Nw.use rfl (hK.2.1 _ hlink)) (fun _ h => h) hv hd (k H locs ls hP hD hS hl)
theorem x_put {K : KA × KB} {l0 : Launch} {D0 : va_G} {ty0 : List (ClassId × FieldType)} {cc : ByteArray} {own : String} {nL fr lo rc rs : Nat} {ws : va_W} {lv : List (Nat × Value)} {pc : Nat} {st : List Value} (ok : OKX K l0 D0 ty0 cc own nL fr lo rc rs) {C : String} {T : u_T} {N index : Nat} (ci fi : Nat) {a : Nat} {tyf : Nat → FieldType} {ty : FieldType} (hin : ∀ w ∈ u_ws C T N, w ∈ wA) (hty : ∀ k, k < N → parseFieldDescriptor (T k).2.2.1 = some (tyf k)) (hnm : ∀ a, a < N → ∀ b, b < N → a ≠ b → (T a).2.1 ≠ (T b).2.1) (hc : CL[ci]? = some (C, T, N)) (hk : fi < N) (hp : parseFieldDescriptor (T fi).2.2.1 = some ty) (hlink : Cond.fieldLink own index (T fi).1 (T fi).2.1 (T fi).2.2.1 ∈ wA) (hfin : (T fi).2.2.2 = false) (hd : decode cc pc = .ok (.putfield index, 3)) (q0 : Nat) {fs : List Value} (he : ws[q0]? = some (a, .inr (ci, fs))) {v : Value} (hn : narrow ty v = v) (hfit : fits ty v = true) (hl1 : fi < fs.length) {ws' : va_W} (hw : ws.set q0 (a, .inr (ci, fs.set fi v)) = ws') (k : XX K ws' lv (pc + 3) st) : XX K ws lv pc (v :: .ref a :: st) := by
  obtain ⟨⟨p, l, e, R, s, m, args, below, meth, c⟩, H0, A, D, tys, nL', ce, sl, Q⟩ := K
  obtain ⟨⟨hx, hb, hml, hown, hts⟩, hK, hA, hfr, hlo, hce, hsl, rfl, rfl, rfl, rfl⟩ := ok
  intro H locs ls hP hD hS hl
  subst hw; exact va_put hx hb hts hin tyf hty hnm hown hK.1 hP hD hS q0 he hc fi hk (hts _ hlink) (fun _ h => h) hfin hp hn hfit hl1 hd (fun H locs hP hD hS => k H locs ls hP hD hS hl)
theorem x_putN {K : KA × KB} {l0 : Launch} {D0 : va_G} {ty0 : List (ClassId × FieldType)} {cc : ByteArray} {own : String} {nL fr lo rc rs : Nat} {ws : va_W} {lv : List (Nat × Value)} {pc : Nat} {st : List Value} (ok : OKX K l0 D0 ty0 cc own nL fr lo rc rs) {C : String} {T : u_T} {N index : Nat} (ci fi : Nat) {a : Nat} {tyf : Nat → FieldType} {ty : FieldType} {host : String} (hin : ∀ w ∈ u_ws C T N, w ∈ wA) (hty : ∀ k, k < N → parseFieldDescriptor (T k).2.2.1 = some (tyf k)) (hnm : ∀ a, a < N → ∀ b, b < N → a ≠ b → (T a).2.1 ≠ (T b).2.1) (hc : CL[ci]? = some (C, T, N)) (hk : fi < N) (hp : parseFieldDescriptor (T fi).2.2.1 = some ty) (hlink : Cond.fieldLinkNest own index (T fi).1 (T fi).2.1 (T fi).2.2.1 host ∈ nestW) (hfin : (T fi).2.2.2 = false) (hd : decode cc pc = .ok (.putfield index, 3)) (q0 : Nat) {fs : List Value} (he : ws[q0]? = some (a, .inr (ci, fs))) {v : Value} (hn : narrow ty v = v) (hfit : fits ty v = true) (hl1 : fi < fs.length) {ws' : va_W} (hw : ws.set q0 (a, .inr (ci, fs.set fi v)) = ws') (k : XX K ws' lv (pc + 3) st) : XX K ws lv pc (v :: .ref a :: st) := by
  obtain ⟨⟨p, l, e, R, s, m, args, below, meth, c⟩, H0, A, D, tys, nL', ce, sl, Q⟩ := K
  obtain ⟨⟨hx, hb, hml, hown, hts⟩, hK, hA, hfr, hlo, hce, hsl, rfl, rfl, rfl, rfl⟩ := ok
  intro H locs ls hP hD hS hl
  subst hw; exact va_putN hx hb hts hin tyf hty hnm hown hK.1 hP hD hS q0 he hc fi hk (va_Nw.use rfl (hK.2.1 _ hlink)) (fun _ h => h) hfin hp hn hfit hl1 hd (fun H locs hP hD hS => k H locs ls hP hD hS hl)
theorem x_putF {K : KA × KB} {l0 : Launch} {D0 : va_G} {ty0 : List (ClassId × FieldType)} {cc : ByteArray} {own : String} {nL fr lo rc rs : Nat} {ws : va_W} {lv : List (Nat × Value)} {pc : Nat} {st : List Value} (ok : OKX K l0 D0 ty0 cc own nL fr lo rc rs) {C : String} {T : u_T} {N index : Nat} (ci fi : Nat) {a : Nat} {tyf : Nat → FieldType} {ty : FieldType} (hini : INI K) (hin : ∀ w ∈ u_ws C T N, w ∈ wA) (hty : ∀ k, k < N → parseFieldDescriptor (T k).2.2.1 = some (tyf k)) (hnm : ∀ a, a < N → ∀ b, b < N → a ≠ b → (T a).2.1 ≠ (T b).2.1) (hc : CL[ci]? = some (C, T, N)) (hk : fi < N) (hp : parseFieldDescriptor (T fi).2.2.1 = some ty) (hlink : Cond.fieldLink own index (T fi).1 (T fi).2.1 (T fi).2.2.1 ∈ wA) (hfin : (T fi).2.2.2 = true) (hdc : (T fi).1 = own) (hd : decode cc pc = .ok (.putfield index, 3)) (q0 : Nat) {fs : List Value} (he : ws[q0]? = some (a, .inr (ci, fs))) {v : Value} (hn : narrow ty v = v) (hfit : fits ty v = true) (hl1 : fi < fs.length) {ws' : va_W} (hw : ws.set q0 (a, .inr (ci, fs.set fi v)) = ws') (k : XX K ws' lv (pc + 3) st) : XX K ws lv pc (v :: .ref a :: st) := by
  obtain ⟨⟨p, l, e, R, s, m, args, below, meth, c⟩, H0, A, D, tys, nL', ce, sl, Q⟩ := K
  obtain ⟨⟨hx, hb, hml, hown, hts⟩, hK, hA, hfr, hlo, hce, hsl, rfl, rfl, rfl, rfl⟩ := ok
  intro H locs ls hP hD hS hl
  subst hw; exact va_putF hx hb hts hin tyf hty hnm hown hK.1 hP hD hS q0 he hc fi hk (hts _ hlink) (fun _ h => h) hfin hini hdc hp hn hfit hl1 hd (fun H locs hP hD hS => k H locs ls hP hD hS hl)
theorem x_mmin {K : KA × KB} {l0 : Launch} {D0 : va_G} {ty0 : List (ClassId × FieldType)} {cc : ByteArray} {own : String} {nL fr lo rc rs : Nat} {ws : va_W} {lv : List (Nat × Value)} {pc : Nat} {st : List Value} (ok : OKX K l0 D0 ty0 cc own nL fr lo rc rs) {x y : Int32} {index : Nat} (h1 : Cond.methodLink own index Lib.Math.min.name ∈ wA) (h2 : Cond.static Lib.Math.min.name ∈ wA) (h3 : Cond.initialized "java/lang/Math" ∈ wA) (h4 : Cond.code Lib.Math.min.name Lib.Math.min.code 2 (some .int) ∈ wA) (g1 : 1 ≤ fr) (g2 : (st.map fun v => v.category).sum + 13 ≤ lo) (hd : decode cc pc = .ok (.invokestatic index, 3)) (v : Int32) (hv : (if y < x then y else x) = v) (k : XX K ws lv (pc + 3) (.int v :: st)) : XX K ws lv pc (.int y :: .int x :: st) := by
  obtain ⟨⟨p, l, e, R, s, m, args, below, meth, c⟩, H0, A, D, tys, nL', ce, sl, Q⟩ := K
  obtain ⟨⟨hx, hb, hml, hown, hts⟩, hK, hA, hfr, hlo, hce, hsl, rfl, rfl, rfl, rfl⟩ := ok
  intro H locs ls hP hD hS hl
  subst hv; exact va_mmin hx hb (by rw [hml]; exact hl.1.symm) hown (hts _ h1) (hts _ h2) (hts _ h3) (hts _ h4) (Nat.le_trans g1 hfr) (Nat.le_trans g2 hlo) (by omega) (by omega) hd (k H locs ls hP hD hS hl)
theorem x_mmax {K : KA × KB} {l0 : Launch} {D0 : va_G} {ty0 : List (ClassId × FieldType)} {cc : ByteArray} {own : String} {nL fr lo rc rs : Nat} {ws : va_W} {lv : List (Nat × Value)} {pc : Nat} {st : List Value} (ok : OKX K l0 D0 ty0 cc own nL fr lo rc rs) {x y : Int32} {index : Nat} (h1 : Cond.methodLink own index Lib.Math.max.name ∈ wA) (h2 : Cond.static Lib.Math.max.name ∈ wA) (h3 : Cond.initialized "java/lang/Math" ∈ wA) (h4 : Cond.code Lib.Math.max.name Lib.Math.max.code 2 (some .int) ∈ wA) (g1 : 1 ≤ fr) (g2 : (st.map fun v => v.category).sum + 13 ≤ lo) (hd : decode cc pc = .ok (.invokestatic index, 3)) (v : Int32) (hv : (if x < y then y else x) = v) (k : XX K ws lv (pc + 3) (.int v :: st)) : XX K ws lv pc (.int y :: .int x :: st) := by
  obtain ⟨⟨p, l, e, R, s, m, args, below, meth, c⟩, H0, A, D, tys, nL', ce, sl, Q⟩ := K
  obtain ⟨⟨hx, hb, hml, hown, hts⟩, hK, hA, hfr, hlo, hce, hsl, rfl, rfl, rfl, rfl⟩ := ok
  intro H locs ls hP hD hS hl
  subst hv; exact va_mmax hx hb (by rw [hml]; exact hl.1.symm) hown (hts _ h1) (hts _ h2) (hts _ h3) (hts _ h4) (Nat.le_trans g1 hfr) (Nat.le_trans g2 hlo) (by omega) (by omega) hd (k H locs ls hP hD hS hl)
theorem x_mabs {K : KA × KB} {l0 : Launch} {D0 : va_G} {ty0 : List (ClassId × FieldType)} {cc : ByteArray} {own : String} {nL fr lo rc rs : Nat} {ws : va_W} {lv : List (Nat × Value)} {pc : Nat} {st : List Value} (ok : OKX K l0 D0 ty0 cc own nL fr lo rc rs) {x : Int32} {index : Nat} (h1 : Cond.methodLink own index Lib.Math.abs.name ∈ wA) (h2 : Cond.static Lib.Math.abs.name ∈ wA) (h3 : Cond.initialized "java/lang/Math" ∈ wA) (h4 : Cond.code Lib.Math.abs.name Lib.Math.abs.code 1 (some .int) ∈ wA) (g1 : 1 ≤ fr) (g2 : (st.map fun v => v.category).sum + 13 ≤ lo) (hd : decode cc pc = .ok (.invokestatic index, 3)) (v : Int32) (hv : (if 0 ≤ x then x else 0 - x) = v) (k : XX K ws lv (pc + 3) (.int v :: st)) : XX K ws lv pc (.int x :: st) := by
  obtain ⟨⟨p, l, e, R, s, m, args, below, meth, c⟩, H0, A, D, tys, nL', ce, sl, Q⟩ := K
  obtain ⟨⟨hx, hb, hml, hown, hts⟩, hK, hA, hfr, hlo, hce, hsl, rfl, rfl, rfl, rfl⟩ := ok
  intro H locs ls hP hD hS hl
  subst hv; exact va_mabs hx hb (by rw [hml]; exact hl.1.symm) hown (hts _ h1) (hts _ h2) (hts _ h3) (hts _ h4) (Nat.le_trans g1 hfr) (Nat.le_trans g2 hlo) (by omega) (by omega) hd (k H locs ls hP hD hS hl)
theorem x_eq {K : KA × KB} {ws ws' : va_W} {lv lv' : List (Nat × Value)} {pc : Nat} {st st' : List Value} (h1 : ws' = ws) (h2 : lv' = lv) (h3 : st' = st) (k : XX K ws' lv' pc st') : XX K ws lv pc st := by
  subst h1; subst h2; subst h3; exact k
theorem x_loc {K : KA × KB} {l0 : Launch} {D0 : va_G} {ty0 : List (ClassId × FieldType)} {cc : ByteArray} {own : String} {nL fr lo rc rs : Nat} {ws : va_W} {lv : List (Nat × Value)} {pc : Nat} {st : List Value} (ok : OKX K l0 D0 ty0 cc own nL fr lo rc rs) (ks : List Nat) {lv' : List (Nat × Value)} (h : lv_pick lv ks = lv') (k : XX K ws lv' pc st) : XX K ws lv pc st := by
  obtain ⟨⟨p, l, e, R, s, m, args, below, meth, c⟩, H0, A, D, tys, nL', ce, sl, Q⟩ := K
  obtain ⟨⟨hx, hb, hml, hown, hts⟩, hK, hA, hfr, hlo, hce, hsl, rfl, rfl, rfl, rfl⟩ := ok
  intro H locs ls hP hD hS hl
  exact k H locs ls hP hD hS (lv_sub hl ks h)
theorem x_perm {K : KA × KB} {l0 : Launch} {D0 : va_G} {ty0 : List (ClassId × FieldType)} {cc : ByteArray} {own : String} {nL fr lo rc rs : Nat} {ws : va_W} {lv : List (Nat × Value)} {pc : Nat} {st : List Value} (ok : OKX K l0 D0 ty0 cc own nL fr lo rc rs) (is : List Nat) {ws' : va_W} (hn : va_nd is = true) (h : is.map (fun i => ws[i]?) = ws'.map some) (k : XX K ws' lv pc st) : XX K ws lv pc st := by
  obtain ⟨⟨p, l, e, R, s, m, args, below, meth, c⟩, H0, A, D, tys, nL', ce, sl, Q⟩ := K
  obtain ⟨⟨hx, hb, hml, hown, hts⟩, hK, hA, hfr, hlo, hce, hsl, rfl, rfl, rfl, rfl⟩ := ok
  intro H locs ls hP hD hS hl
  exact k H locs ls (hP.sub is (fm_of h)) (hD.sub is hn h) hS hl
def setL (ws : va_W) : List Nat → va_W → va_W
  | i :: is, q :: qs => setL (ws.set i q) is qs
  | _, _ => ws
theorem setL_len : ∀ (is : List Nat) (qs ws : va_W), (setL ws is qs).length = ws.length
  | [], _, _ => by simp [setL]
  | _ :: _, [], _ => by simp [setL]
  | i :: is, q :: qs, ws => by rw [setL, setL_len is qs]; simp
theorem setL_get : ∀ (is : List Nat) (qs ws : va_W) (k : Nat) (q : Nat × va_E), (setL ws is qs)[k]? = some q → q ∈ qs ∨ (ws[k]? = some q ∧ (k ∉ is ∨ qs.length < is.length))
  | [], qs, ws, k, q, h => Or.inr ⟨by cases qs <;> exact h, Or.inl (by simp)⟩
  | i :: is, [], ws, k, q, h => Or.inr ⟨h, Or.inr (by simp)⟩
  | i :: is, x :: qs, ws, k, q, h => by
    rcases setL_get is qs (ws.set i x) k q h with h1 | ⟨h1, h2⟩
    · exact Or.inl (List.mem_cons_of_mem _ h1)
    · by_cases hk : k = i
      · subst hk
        left
        have hl : k < (ws.set k x).length := (List.getElem?_eq_some_iff.mp h1).1
        rw [List.getElem?_set_self (by simpa using hl)] at h1
        cases h1
        exact List.mem_cons_self
      · rw [List.getElem?_set_ne (fun h => hk h.symm)] at h1
        refine Or.inr ⟨h1, ?_⟩
        rcases h2 with h2 | h2
        · exact Or.inl (by simp only [List.mem_cons, not_or]; exact ⟨hk, h2⟩)
        · exact Or.inr (by simp only [List.length_cons]; omega)
theorem setL_adr : ∀ (is : List Nat) (qs wc ws : va_W) (k : Nat) (q : Nat × va_E), is.map (fun i => ws[i]?) = wc.map some → qs.map (·.1) = wc.map (·.1) → va_nd is = true → (setL ws is qs)[k]? = some q → ∃ q', ws[k]? = some q' ∧ q'.1 = q.1
  | [], qs, wc, ws, k, q, _, _, _, h => ⟨q, by cases qs <;> exact h, rfl⟩
  | i :: is, [], wc, ws, k, q, _, _, _, h => ⟨q, h, rfl⟩
  | i :: is, x :: qs, [], ws, k, q, h0, _, _, _ => by simp at h0
  | i :: is, x :: qs, w :: wc, ws, k, q, h0, h1, hn, h => by
    simp only [List.map_cons, List.cons.injEq] at h0 h1
    simp only [va_nd, Bool.and_eq_true, decide_eq_true_eq] at hn
    have h0' : is.map (fun i' => (ws.set i x)[i']?) = wc.map some := by
      rw [← h0.2]
      refine List.map_congr_left fun j hj => ?_
      rw [List.getElem?_set_ne (fun e => hn.1 (by rw [e]; exact hj))]
    obtain ⟨q', a1, a2⟩ := setL_adr is qs wc (ws.set i x) k q h0' h1.2 hn.2 h
    by_cases hk : k = i
    · subst hk
      have hl : k < (ws.set k x).length := (List.getElem?_eq_some_iff.mp a1).1
      rw [List.getElem?_set_self (by simpa using hl)] at a1
      cases a1
      exact ⟨w, h0.1, by rw [← h1.1]; exact a2⟩
    · rw [List.getElem?_set_ne (fun h => hk h.symm)] at a1
      exact ⟨q', a1, a2⟩
/-- behind a call that makes nothing: the callee's cells in their places -/
theorem va_back {A0 : Nat → Prop} {D : va_G} {cl : List vw_C} {ws wc w1 : va_W} {H H1 : Heap} (hP : va_P D cl ws H) (hD : va_D A0 ws) (isC : List Nat) (hC : isC.map (fun i => ws[i]?) = wc.map some) (hn : va_nd isC = true) (ha : w1.map (·.1) = wc.map (·.1))
    (hk : ∀ q : Nat, q < H.size → ¬ va_A wc H.size q → H1[q]? = H[q]?) (hP1 : va_P D cl w1 H1) : va_P D cl (setL ws isC w1) H1 ∧ va_D A0 (setL ws isC w1) := by
  have hlen : w1.length = isC.length := by
    have h1 := congrArg List.length hC
    have h2 := congrArg List.length ha
    simp only [List.length_map] at h1 h2
    omega
  refine ⟨fun k q hq => ?_, fun i j x y hx hy hxy => ?_, fun k q hq => ?_⟩
  · rcases setL_get isC w1 ws k q hq with h | ⟨h, h2⟩
    · obtain ⟨j, hj⟩ := List.getElem?_of_mem h
      exact hP1 j q hj
    · have h2 : k ∉ isC := h2.resolve_right (by omega)
      refine (hP k q h).kept (hk q.1 (hP k q h).lt ?_)
      rintro (⟨j, e, hj⟩ | hj)
      · have hz : (isC.map (fun i => ws[i]?))[j]? = some (some (q.1, e)) := by rw [hC, List.getElem?_map, hj]; rfl
        rw [List.getElem?_map] at hz
        cases hi : isC[j]? with
        | none => rw [hi] at hz; cases hz
        | some i =>
          rw [hi] at hz
          have hz : ws[i]? = some (q.1, e) := Option.some.inj hz
          have := hD.1 k i q (q.1, e) h hz rfl
          exact h2 (this ▸ List.mem_of_getElem? hi)
      · have := (hP k q h).lt
        omega
  · obtain ⟨x', a1, a2⟩ := setL_adr isC w1 wc ws i x hC ha hn hx
    obtain ⟨y', b1, b2⟩ := setL_adr isC w1 wc ws j y hC ha hn hy
    exact hD.1 i j x' y' a1 b1 (by rw [a2, b2]; exact hxy)
  · obtain ⟨x', a1, a2⟩ := setL_adr isC w1 wc ws k q hC ha hn hq
    rw [← a2]
    exact hD.2 k x' a1
/-- behind a call of any kind: what the caller finds -/
theorem x_after {p : Program} {l : Launch} {e : Env} {R : Room} {s : State} {m : MethodId} {args : Array Value} {below : List Frame} {meth : Method} {c : Code} {H0 H : Heap} {locs : List Loc} {ce sl mc ms : Nat} {Q : State → Prop} {pc : Nat} {ls : Array Slot} {st0 st : List Value} {A : Nat → Prop} {D : va_G} {wc : va_W} {a : Array Value} {σ : Type} {rv : σ → Option Value} {cs : σ → va_W} {po : σ → Prop}
    (hr : va_Run p l e R s m args below meth c H locs ce sl mc ms (F0 m pc ls st0) st (QG rv po (fun u t => va_P D CL (cs u) t.heap ∧ va_D (va_A wc H.size) (cs u)) (va_A wc H.size) a) (va_A wc H.size)) (hS : va_S A H0 H locs) (hF : ∀ q, va_A wc H.size q → A q)
    (kk : ∀ (u : σ) (H1 : Heap) (locs1 : List Loc), po u → va_P D CL (cs u) H1 → va_D (va_A wc H.size) (cs u) → H.size ≤ H1.size → (∀ q : Nat, q < H.size → ¬ va_A wc H.size q → H1[q]? = H[q]?) → va_S A H0 H1 locs1 → W p l e R s m args below meth c H1 locs1 (ce + mc) (sl + ms) Q (F0 m (pc + 3) ls ((rv u).toList ++ st))) : W p l e R s m args below meth c H locs ce sl Q (F0 m pc ls st0) := by
  intro T hT X
  obtain ⟨v, st₀, t, T', L, h0, X', hL, e1, e2, ⟨⟨u, hv, hp, hb, hbD⟩, hz, hk⟩, stp⟩ := hr T hT X
  cases hv
  rw [h0] at hz hk
  obtain ⟨t2, a1, b1⟩ := kk u T'.heap (locs ++ L) hp (by rw [e1]; exact hb) hbD (by rw [e1]; exact hz) (fun q h1 h2 => by rw [e1]; exact hk q h1 h2)
    ⟨Nat.le_trans hS.1 (by rw [e1]; exact hz), fun q h1 h2 => by rw [e1, hk q (Nat.lt_of_lt_of_le h1 hS.1) (fun z => h2 (hF q z))]; exact hS.2.1 q h1 h2, fun q hq => by
      rcases List.mem_append.mp hq with h | h
      · exact hS.2.2 q h
      · exact hF _ (hL q h)⟩ T' rfl X'
  exact ⟨t2, stp t2 a1, b1⟩
theorem QB_blind {D : va_G} {tys : List (ClassId × FieldType)} {wc : va_W} {sz : Nat} {av : List Value} : FrameBlind (va_Pc av (fun U => U.heap.size = sz ∧ va_P D CL wc U.heap ∧ VK D tys U ∧ va_D (fun _ => True) wc)) := fun a U g mk q => by
  obtain ⟨q0, q1, qP, qK, qD⟩ := q
  exact ⟨q0, q1, qP, VK.same (u := U) (U := U.calling g mk a) rfl qK, qD⟩
theorem sub_at {A0 : Nat → Prop} {D : va_G} {ws wc : va_W} {H : Heap} (hP : va_P D CL ws H) (hD : va_D A0 ws) (isC : List Nat) (hn : va_nd isC = true) (hC : isC.map (fun i => ws[i]?) = wc.map some) : va_P D CL wc H ∧ va_D (fun _ => True) wc := ⟨hP.sub isC (fm_of hC), (hD.sub isC hn hC).weaken (fun _ _ _ _ => trivial)⟩
theorem x_callV {K : KA × KB} {l0 : Launch} {D0 : va_G} {ty0 : List (ClassId × FieldType)} {cc : ByteArray} {own : String} {nL fr lo rc rs : Nat} {ws : va_W} {lv : List (Nat × Value)} {pc : Nat} {st : List Value} {y : MethodName} {bytes : ByteArray} {maxL index fr1 lo1 : Nat} {ret : Option FieldType} {wc : va_W} {σ : Type} {rv : σ → Option Value} {cs : σ → va_W} {po : σ → Prop} (ok : OKX K l0 D0 ty0 cc own nL fr lo rc rs) {b : Nat} {As : List Value} (q0 ci : Nat) {fs : List Value} {Cc : vw_C} (he : ws[q0]? = some (b, .inr (ci, fs))) (hcc : CL[ci]? = some Cc) (hCc : Cc.1 = y.cls)
    (hM : CO l0 D0 ty0 y bytes maxL ret fr1 lo1 0 0 (.ref b :: As) wc rv cs po) (h1 : Cond.methodLink own index y ∈ wA) (h2 : Cond.instanceMethod y ∈ wA) (h3 : Cond.selects y.cls y y ∈ wA) (h4 : Cond.initialized y.cls ∈ wA) (hcode : Cond.code y bytes maxL ret ∈ wA) (hno : y.cls ≠ "java/lang/invoke/MethodHandle" ∧ y.cls ≠ "java/lang/invoke/VarHandle") (hpar : (parseMethodDescriptor y.desc).map (fun d => d.parameters.length) = some As.length)
    (g1 : fr1 + 1 ≤ fr) (g2 : 8 + (maxL + 11) + lo1 ≤ lo) (g3 : (st.map fun v => v.category).sum ≤ 8) (hd : decode cc pc = .ok (.invokevirtual index, 3)) (isC : List Nat) (hn : va_nd isC = true) (hC : isC.map (fun i => ws[i]?) = wc.map some) {ws' : σ → va_W} {st' : σ → List Value} (ha : ∀ u, (cs u).map (·.1) = wc.map (·.1)) (hw : ∀ u, setL ws isC (cs u) = ws' u) (hst : ∀ u, (rv u).toList ++ st = st' u) (k : ∀ u, po u → XX K (ws' u) lv (pc + 3) (st' u)) : XX K ws lv pc (As.reverse ++ .ref b :: st) := by
  obtain ⟨⟨p, l, e, R, s, m, args, below, meth, c⟩, H0, A, D, tys, nL', ce, sl, Q⟩ := K
  obtain ⟨⟨hx, hb, hml, hown, hts⟩, hK, hA, hfr, hlo, hce, hsl, rfl, rfl, rfl, rfl⟩ := ok
  intro H locs ls hP hD hS hl
  have hs := sub_at hP hD isC hn hC
  have hF := va_free (wc := wc) hD hS hA isC hC
  have HR := va_runV (As := As) (rest := st) (locs := locs) (cells := ce) (slots := sl) (e := e) (meth := meth) (below := below) (p := p) (c := c) (g := F0 m pc ls (As.reverse ++ .ref b :: st)) ⟨hx, hb, hml, hown, hts⟩ (hM H.size) (cwV As.length hts (show GoodIn wA (wsV own index y.cls y (Cond.code y bytes maxL ret :: wA)) from wA_cons h1 (wA_cons h2 (wA_cons h3 (wA_cons h4 (wA_cons hcode wA_in))))) rfl rfl rfl ⟨rfl, hno.1, hno.2, hpar⟩ ⟨Nat.le_trans g1 hfr, Nat.le_trans g2 hlo⟩) ⟨QB_blind, hCc ▸ va_recv hK.1 hP hcc he, fun U hU hW => ⟨rfl, by rw [hU], by rw [hU]; exact hs.1, hK.warm hW, hs.2⟩⟩ rfl rfl hl.1 rfl (lv_room g3) hd ⟨Nat.le_trans (Nat.le_add_right ce rc) hce, Nat.le_trans (Nat.le_add_right sl rs) hsl⟩
  refine x_after HR hS hF (fun u H1 locs1 hp hP1 hD1 hz hk hS1 => ?_)
  obtain ⟨hP2, hD2⟩ := va_back hP hD isC hC hn (ha u) hk hP1
  rw [hw u] at hP2 hD2
  rw [hst u]
  exact k u hp H1 locs1 ls hP2 hD2 hS1 hl
theorem x_callS {K : KA × KB} {l0 : Launch} {D0 : va_G} {ty0 : List (ClassId × FieldType)} {cc : ByteArray} {own : String} {nL fr lo rc rs : Nat} {ws : va_W} {lv : List (Nat × Value)} {pc : Nat} {st : List Value} {y : MethodName} {bytes : ByteArray} {maxL index fr1 lo1 : Nat} {ret : Option FieldType} {wc : va_W} {σ : Type} {rv : σ → Option Value} {cs : σ → va_W} {po : σ → Prop} (ok : OKX K l0 D0 ty0 cc own nL fr lo rc rs) {As : List Value}
    (hM : CO l0 D0 ty0 y bytes maxL ret fr1 lo1 0 0 As wc rv cs po) (h1 : Cond.methodLink own index y ∈ wA) (h2 : Cond.static y ∈ wA) (h4 : Cond.initialized y.cls ∈ wA) (h5 : y.cls = own) (hcode : Cond.code y bytes maxL ret ∈ wA) (hno : y.cls ≠ "java/lang/invoke/MethodHandle" ∧ y.cls ≠ "java/lang/invoke/VarHandle") (hpar : (parseMethodDescriptor y.desc).map (fun d => d.parameters.length) = some As.length)
    (g1 : fr1 + 1 ≤ fr) (g2 : 8 + (maxL + 11) + lo1 ≤ lo) (g3 : (st.map fun v => v.category).sum ≤ 8) (hd : decode cc pc = .ok (.invokestatic index, 3)) (isC : List Nat) (hn : va_nd isC = true) (hC : isC.map (fun i => ws[i]?) = wc.map some) {ws' : σ → va_W} {st' : σ → List Value} (ha : ∀ u, (cs u).map (·.1) = wc.map (·.1)) (hw : ∀ u, setL ws isC (cs u) = ws' u) (hst : ∀ u, (rv u).toList ++ st = st' u) (k : ∀ u, po u → XX K (ws' u) lv (pc + 3) (st' u)) : XX K ws lv pc (As.reverse ++ st) := by
  obtain ⟨⟨p, l, e, R, s, m, args, below, meth, c⟩, H0, A, D, tys, nL', ce, sl, Q⟩ := K
  obtain ⟨⟨hx, hb, hml, hown, hts⟩, hK, hA, hfr, hlo, hce, hsl, rfl, rfl, rfl, rfl⟩ := ok
  intro H locs ls hP hD hS hl
  have hs := sub_at hP hD isC hn hC
  have hF := va_free (wc := wc) hD hS hA isC hC
  have HR := va_runS (As := As) (rest := st) (locs := locs) (cells := ce) (slots := sl) (e := e) (meth := meth) (below := below) (p := p) (c := c) (g := F0 m pc ls (As.reverse ++ st)) ⟨hx, hb, hml, hown, hts⟩ (hM H.size) (cwS As.length hts (show GoodIn wA (wsS own index y (Cond.code y bytes maxL ret :: wA)) from wA_cons h1 (wA_cons h2 (wA_cons (h5 ▸ h4) (wA_cons hcode wA_in)))) rfl rfl rfl ⟨h5, hno.1, hno.2, hpar⟩ ⟨Nat.le_trans g1 hfr, Nat.le_trans g2 hlo⟩) ⟨QB_blind, fun U hU hW => ⟨rfl, by rw [hU], by rw [hU]; exact hs.1, hK.warm hW, hs.2⟩⟩ rfl rfl hl.1 rfl (lv_room g3) hd ⟨Nat.le_trans (Nat.le_add_right ce rc) hce, Nat.le_trans (Nat.le_add_right sl rs) hsl⟩
  refine x_after HR hS hF (fun u H1 locs1 hp hP1 hD1 hz hk hS1 => ?_)
  obtain ⟨hP2, hD2⟩ := va_back hP hD isC hC hn (ha u) hk hP1
  rw [hw u] at hP2 hD2
  rw [hst u]
  exact k u hp H1 locs1 ls hP2 hD2 hS1 hl
theorem x_callM {K : KA × KB} {l0 : Launch} {D0 : va_G} {ty0 : List (ClassId × FieldType)} {cc : ByteArray} {own : String} {nL fr lo rc rs : Nat} {ws : va_W} {lv : List (Nat × Value)} {pc : Nat} {st : List Value} {y : MethodName} {bytes : ByteArray} {maxL index fr1 lo1 : Nat} {ret : Option FieldType} {wc : va_W} {σ : Type} {rv : σ → Option Value} {cs : σ → va_W} {po : σ → Prop} (ok : OKX K l0 D0 ty0 cc own nL fr lo rc rs) {As : List Value}
    (hM : CO l0 D0 ty0 y bytes maxL ret fr1 lo1 0 0 As wc rv cs po) {host : String} (h1 : Cond.methodLinkNest own index y host ∈ nestW) (h2 : Cond.static y ∈ wA) (h4 : Cond.initialized y.cls ∈ wA) (hcode : Cond.code y bytes maxL ret ∈ wA) (hno : y.cls ≠ "java/lang/invoke/MethodHandle" ∧ y.cls ≠ "java/lang/invoke/VarHandle") (hpar : (parseMethodDescriptor y.desc).map (fun d => d.parameters.length) = some As.length)
    (g1 : fr1 + 1 ≤ fr) (g2 : 8 + (maxL + 11) + lo1 ≤ lo) (g3 : (st.map fun v => v.category).sum ≤ 8) (hd : decode cc pc = .ok (.invokestatic index, 3)) (isC : List Nat) (hn : va_nd isC = true) (hC : isC.map (fun i => ws[i]?) = wc.map some) {ws' : σ → va_W} {st' : σ → List Value} (ha : ∀ u, (cs u).map (·.1) = wc.map (·.1)) (hw : ∀ u, setL ws isC (cs u) = ws' u) (hst : ∀ u, (rv u).toList ++ st = st' u) (k : ∀ u, po u → XX K (ws' u) lv (pc + 3) (st' u)) : XX K ws lv pc (As.reverse ++ st) := by
  obtain ⟨⟨p, l, e, R, s, m, args, below, meth, c⟩, H0, A, D, tys, nL', ce, sl, Q⟩ := K
  obtain ⟨⟨hx, hb, hml, hown, hts⟩, hK, hA, hfr, hlo, hce, hsl, rfl, rfl, rfl, rfl⟩ := ok
  intro H locs ls hP hD hS hl
  have hs := sub_at hP hD isC hn hC
  have hF := va_free (wc := wc) hD hS hA isC hC
  have HR := va_runSN (As := As) (rest := st) (locs := locs) (cells := ce) (slots := sl) (e := e) (meth := meth) (below := below) (p := p) (c := c) (g := F0 m pc ls (As.reverse ++ st)) ⟨hx, hb, hml, hown, hts⟩ (hM H.size) (⟨va_cnB As.length hts (show GoodIn wA (Cond.code y bytes maxL ret :: wA) from wA_cons hcode wA_in) rfl rfl rfl (hK.2.1 _ h1) (hts _ h4) ⟨hno.1, hno.2, hpar⟩ ⟨Nat.le_trans g1 hfr, Nat.le_trans g2 hlo⟩, hts _ h2, trivial⟩) ⟨QB_blind, fun U hU hW => ⟨rfl, by rw [hU], by rw [hU]; exact hs.1, hK.warm hW, hs.2⟩⟩ rfl rfl hl.1 rfl (lv_room g3) hd ⟨Nat.le_trans (Nat.le_add_right ce rc) hce, Nat.le_trans (Nat.le_add_right sl rs) hsl⟩
  refine x_after HR hS hF (fun u H1 locs1 hp hP1 hD1 hz hk hS1 => ?_)
  obtain ⟨hP2, hD2⟩ := va_back hP hD isC hC hn (ha u) hk hP1
  rw [hw u] at hP2 hD2
  rw [hst u]
  exact k u hp H1 locs1 ls hP2 hD2 hS1 hl
theorem x_callI {K : KA × KB} {l0 : Launch} {D0 : va_G} {ty0 : List (ClassId × FieldType)} {cc : ByteArray} {own : String} {nL fr lo rc rs : Nat} {ws : va_W} {lv : List (Nat × Value)} {pc : Nat} {st : List Value} {y : MethodName} {bytes : ByteArray} {maxL index fr1 lo1 mc ms : Nat} {wc : va_W} {σ : Type} {rv : σ → Option Value} {cs : σ → va_W} {po : σ → Prop} (ok : OKX K l0 D0 ty0 cc own nL fr lo rc rs) {b : Nat} {As : List Value}
    (hM : CO l0 D0 ty0 y bytes maxL none fr1 lo1 mc ms (.ref b :: As) wc rv cs po) (h1 : Cond.methodLink own index y ∈ wA) (h2 : Cond.instanceMethod y ∈ wA) (h4 : Cond.initialized y.cls ∈ wA) (h5 : y.name = "<init>") (hcode : Cond.code y bytes maxL none ∈ wA) (hno : y.cls ≠ "java/lang/invoke/MethodHandle" ∧ y.cls ≠ "java/lang/invoke/VarHandle") (hpar : (parseMethodDescriptor y.desc).map (fun d => d.parameters.length) = some As.length)
    (g1 : fr1 + 1 ≤ fr) (g2 : 8 + (maxL + 11) + lo1 ≤ lo) (g3 : (st.map fun v => v.category).sum ≤ 8) (hd : decode cc pc = .ok (.invokespecial index, 3)) (isC : List Nat) (hn : va_nd isC = true) (hC : isC.map (fun i => ws[i]?) = wc.map some) (isR : List Nat) {wr : va_W} (hR : isR.map (fun i => ws[i]?) = wr.map some) (hnR : va_nd isR = true) (hdis : ∀ i ∈ isR, i ∉ isC) (hmc : mc ≤ rc) (hms : ms ≤ rs) {st' : σ → List Value} (hst : ∀ u, (rv u).toList ++ st = st' u) (k : ∀ u, po u → XX (KX_al K mc ms) (wr ++ cs u) lv (pc + 3) (st' u)) : XX K ws lv pc (As.reverse ++ .ref b :: st) := by
  obtain ⟨⟨p, l, e, R, s, m, args, below, meth, c⟩, H0, A, D, tys, nL', ce, sl, Q⟩ := K
  obtain ⟨⟨hx, hb, hml, hown, hts⟩, hK, hA, hfr, hlo, hce, hsl, rfl, rfl, rfl, rfl⟩ := ok
  intro H locs ls hP hD hS hl
  have hs := sub_at hP hD isC hn hC
  have hF := va_free (wc := wc) hD hS hA isC hC
  have HR := va_runI (As := As) (rest := st) (locs := locs) (cells := ce) (slots := sl) (e := e) (meth := meth) (below := below) (p := p) (c := c) (g := F0 m pc ls (As.reverse ++ .ref b :: st)) ⟨hx, hb, hml, hown, hts⟩ (hM H.size) (cwI As.length hts (show GoodIn wA (Cond.code y bytes maxL none :: wA) from wA_cons hcode wA_in) rfl rfl rfl (hts _ h4) (hts _ h1) (hts _ h2) h5 ⟨hno.1, hno.2, hpar⟩ ⟨Nat.le_trans g1 hfr, Nat.le_trans g2 hlo⟩) ⟨QB_blind, fun U hU hW => ⟨rfl, by rw [hU], by rw [hU]; exact hs.1, hK.warm hW, hs.2⟩⟩ rfl rfl hl.1 rfl (lv_room g3) hd ⟨by omega, by omega⟩
  refine x_after HR hS hF (fun u H1 locs1 hp hP1 hD1 hz hk hS1 => ?_)
  obtain ⟨hP2, hD2⟩ := va_join hP hD isC isR hC hR hnR hdis hk hF hP1 hD1
  rw [hst u]
  exact k u hp H1 locs1 ls hP2 hD2 hS1 hl
theorem x_callN {K : KA × KB} {l0 : Launch} {D0 : va_G} {ty0 : List (ClassId × FieldType)} {cc : ByteArray} {own : String} {nL fr lo rc rs : Nat} {ws : va_W} {lv : List (Nat × Value)} {pc : Nat} {st : List Value} {y : MethodName} {bytes : ByteArray} {maxL index fr1 lo1 mc ms : Nat} {wc : va_W} {σ : Type} {rv : σ → Option Value} {cs : σ → va_W} {po : σ → Prop} (ok : OKX K l0 D0 ty0 cc own nL fr lo rc rs) {b : Nat} {As : List Value}
    (hM : CO l0 D0 ty0 y bytes maxL none fr1 lo1 mc ms (.ref b :: As) wc rv cs po) {host : String} (h1 : Cond.methodLinkNest own index y host ∈ nestW) (h2 : Cond.instanceMethod y ∈ wA) (h4 : Cond.initialized y.cls ∈ wA) (h5 : y.name = "<init>") (hcode : Cond.code y bytes maxL none ∈ wA) (hno : y.cls ≠ "java/lang/invoke/MethodHandle" ∧ y.cls ≠ "java/lang/invoke/VarHandle") (hpar : (parseMethodDescriptor y.desc).map (fun d => d.parameters.length) = some As.length)
    (g1 : fr1 + 1 ≤ fr) (g2 : 8 + (maxL + 11) + lo1 ≤ lo) (g3 : (st.map fun v => v.category).sum ≤ 8) (hd : decode cc pc = .ok (.invokespecial index, 3)) (isC : List Nat) (hn : va_nd isC = true) (hC : isC.map (fun i => ws[i]?) = wc.map some) (isR : List Nat) {wr : va_W} (hR : isR.map (fun i => ws[i]?) = wr.map some) (hnR : va_nd isR = true) (hdis : ∀ i ∈ isR, i ∉ isC) (hmc : mc ≤ rc) (hms : ms ≤ rs) {st' : σ → List Value} (hst : ∀ u, (rv u).toList ++ st = st' u) (k : ∀ u, po u → XX (KX_al K mc ms) (wr ++ cs u) lv (pc + 3) (st' u)) : XX K ws lv pc (As.reverse ++ .ref b :: st) := by
  obtain ⟨⟨p, l, e, R, s, m, args, below, meth, c⟩, H0, A, D, tys, nL', ce, sl, Q⟩ := K
  obtain ⟨⟨hx, hb, hml, hown, hts⟩, hK, hA, hfr, hlo, hce, hsl, rfl, rfl, rfl, rfl⟩ := ok
  intro H locs ls hP hD hS hl
  have hs := sub_at hP hD isC hn hC
  have hF := va_free (wc := wc) hD hS hA isC hC
  have HR := va_runIN (As := As) (rest := st) (locs := locs) (cells := ce) (slots := sl) (e := e) (meth := meth) (below := below) (p := p) (c := c) (g := F0 m pc ls (As.reverse ++ .ref b :: st)) ⟨hx, hb, hml, hown, hts⟩ (hM H.size) (⟨va_cnB As.length hts (show GoodIn wA (Cond.code y bytes maxL none :: wA) from wA_cons hcode wA_in) rfl rfl rfl (hK.2.1 _ h1) (hts _ h4) ⟨hno.1, hno.2, hpar⟩ ⟨Nat.le_trans g1 hfr, Nat.le_trans g2 hlo⟩, h5, hts _ h2⟩) ⟨QB_blind, fun U hU hW => ⟨rfl, by rw [hU], by rw [hU]; exact hs.1, hK.warm hW, hs.2⟩⟩ rfl rfl hl.1 rfl (lv_room g3) hd ⟨by omega, by omega⟩
  refine x_after HR hS hF (fun u H1 locs1 hp hP1 hD1 hz hk hS1 => ?_)
  obtain ⟨hP2, hD2⟩ := va_join hP hD isC isR hC hR hnR hdis hk hF hP1 hD1
  rw [hst u]
  exact k u hp H1 locs1 ls hP2 hD2 hS1 hl
theorem x_callVJ {K : KA × KB} {l0 : Launch} {D0 : va_G} {ty0 : List (ClassId × FieldType)} {cc : ByteArray} {own : String} {nL fr lo rc rs : Nat} {ws : va_W} {lv : List (Nat × Value)} {pc : Nat} {st : List Value} {y : MethodName} {bytes : ByteArray} {maxL index fr1 lo1 mc ms : Nat} {ret : Option FieldType} {wc : va_W} {σ : Type} {rv : σ → Option Value} {cs : σ → va_W} {po : σ → Prop} (ok : OKX K l0 D0 ty0 cc own nL fr lo rc rs) {b : Nat} {As : List Value} (q0 ci : Nat) {fs : List Value} {Cc : vw_C} (he : ws[q0]? = some (b, .inr (ci, fs))) (hcc : CL[ci]? = some Cc) (hCc : Cc.1 = y.cls)
    (hM : CO l0 D0 ty0 y bytes maxL ret fr1 lo1 mc ms (.ref b :: As) wc rv cs po) (h1 : Cond.methodLink own index y ∈ wA) (h2 : Cond.instanceMethod y ∈ wA) (h3 : Cond.selects y.cls y y ∈ wA) (h4 : Cond.initialized y.cls ∈ wA) (hcode : Cond.code y bytes maxL ret ∈ wA) (hno : y.cls ≠ "java/lang/invoke/MethodHandle" ∧ y.cls ≠ "java/lang/invoke/VarHandle") (hpar : (parseMethodDescriptor y.desc).map (fun d => d.parameters.length) = some As.length)
    (g1 : fr1 + 1 ≤ fr) (g2 : 8 + (maxL + 11) + lo1 ≤ lo) (g3 : (st.map fun v => v.category).sum ≤ 8) (hd : decode cc pc = .ok (.invokevirtual index, 3)) (isC : List Nat) (hn : va_nd isC = true) (hC : isC.map (fun i => ws[i]?) = wc.map some) (isR : List Nat) {wr : va_W} (hR : isR.map (fun i => ws[i]?) = wr.map some) (hnR : va_nd isR = true) (hdis : ∀ i ∈ isR, i ∉ isC) (hmc : mc ≤ rc) (hms : ms ≤ rs) {st' : σ → List Value} (hst : ∀ u, (rv u).toList ++ st = st' u) (k : ∀ u, po u → XX (KX_al K mc ms) (wr ++ cs u) lv (pc + 3) (st' u)) : XX K ws lv pc (As.reverse ++ .ref b :: st) := by
  obtain ⟨⟨p, l, e, R, s, m, args, below, meth, c⟩, H0, A, D, tys, nL', ce, sl, Q⟩ := K
  obtain ⟨⟨hx, hb, hml, hown, hts⟩, hK, hA, hfr, hlo, hce, hsl, rfl, rfl, rfl, rfl⟩ := ok
  intro H locs ls hP hD hS hl
  have hs := sub_at hP hD isC hn hC
  have hF := va_free (wc := wc) hD hS hA isC hC
  have HR := va_runV (As := As) (rest := st) (locs := locs) (cells := ce) (slots := sl) (e := e) (meth := meth) (below := below) (p := p) (c := c) (g := F0 m pc ls (As.reverse ++ .ref b :: st)) ⟨hx, hb, hml, hown, hts⟩ (hM H.size) (cwV As.length hts (show GoodIn wA (wsV own index y.cls y (Cond.code y bytes maxL ret :: wA)) from wA_cons h1 (wA_cons h2 (wA_cons h3 (wA_cons h4 (wA_cons hcode wA_in))))) rfl rfl rfl ⟨rfl, hno.1, hno.2, hpar⟩ ⟨Nat.le_trans g1 hfr, Nat.le_trans g2 hlo⟩) ⟨QB_blind, hCc ▸ va_recv hK.1 hP hcc he, fun U hU hW => ⟨rfl, by rw [hU], by rw [hU]; exact hs.1, hK.warm hW, hs.2⟩⟩ rfl rfl hl.1 rfl (lv_room g3) hd ⟨by omega, by omega⟩
  refine x_after HR hS hF (fun u H1 locs1 hp hP1 hD1 hz hk hS1 => ?_)
  obtain ⟨hP2, hD2⟩ := va_join hP hD isC isR hC hR hnR hdis hk hF hP1 hD1
  rw [hst u]
  exact k u hp H1 locs1 ls hP2 hD2 hS1 hl
