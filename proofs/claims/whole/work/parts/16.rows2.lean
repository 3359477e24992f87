theorem x_callU {K : KA × KB} {l0 : Launch} {D0 : va_G} {ty0 : List (ClassId × FieldType)} {cc : ByteArray} {own : String} {nL fr lo rc rs : Nat} {ws : va_W} {lv : List (Nat × Value)} {pc : Nat} {st : List Value} {y : MethodName} {bytes : ByteArray} {maxL index fr1 lo1 : Nat} {ret : Option FieldType} {wc : va_W} {σ : Type} {rv : σ → Option Value} {cs : σ → va_W} {po : σ → Prop} (ok : OKX K l0 D0 ty0 cc own nL fr lo rc rs) {As : List Value}
    (hM : CO l0 D0 ty0 y bytes maxL ret fr1 lo1 0 0 As wc rv cs po) (h1 : Cond.methodLink own index y ∈ wA) (h2 : Cond.static y ∈ wA) (h4 : Cond.initialized y.cls ∈ wA) (hcode : Cond.code y bytes maxL ret ∈ wA) (hno : y.cls ≠ "java/lang/invoke/MethodHandle" ∧ y.cls ≠ "java/lang/invoke/VarHandle") (hpar : (parseMethodDescriptor y.desc).map (fun d => d.parameters.length) = some As.length)
    (g1 : fr1 + 1 ≤ fr) (g2 : 8 + (maxL + 11) + lo1 ≤ lo) (g3 : (st.map fun v => v.category).sum ≤ 8) (hd : decode cc pc = .ok (.invokestatic index, 3)) (isC : List Nat) (hn : va_nd isC = true) (hC : isC.map (fun i => ws[i]?) = wc.map some) {ws' : σ → va_W} {st' : σ → List Value} (ha : ∀ u, (cs u).map (·.1) = wc.map (·.1)) (hw : ∀ u, setL ws isC (cs u) = ws' u) (hst : ∀ u, (rv u).toList ++ st = st' u) (k : ∀ u, po u → XX K (ws' u) lv (pc + 3) (st' u)) : XX K ws lv pc (As.reverse ++ st) := by
  obtain ⟨⟨p, l, e, R, s, m, args, below, meth, c⟩, H0, A, D, tys, nL', ce, sl, Q⟩ := K
  obtain ⟨⟨hx, hb, hml, hown, hts⟩, hK, hA, hfr, hlo, hce, hsl, rfl, rfl, rfl, rfl⟩ := ok
  intro H locs ls hP hD hS hl
  have hs := sub_at hP hD isC hn hC
  have hF := va_free (wc := wc) hD hS hA isC hC
  have HR := va_runS (As := As) (rest := st) (locs := locs) (cells := ce) (slots := sl) (e := e) (meth := meth) (below := below) (p := p) (c := c) (g := F0 m pc ls (As.reverse ++ st)) ⟨hx, hb, hml, hown, hts⟩ (hM H.size) ⟨callB_of As.length hts (show GoodIn wA (Cond.code y bytes maxL ret :: wA) from wA_cons hcode wA_in) rfl rfl rfl (hts _ h4) (hts _ h1) ⟨hno.1, hno.2, hpar⟩ ⟨Nat.le_trans g1 hfr, Nat.le_trans g2 hlo⟩, hts _ h2⟩ ⟨QB_blind, fun U hU hW => ⟨rfl, by rw [hU], by rw [hU]; exact hs.1, hK.warm hW, hs.2⟩⟩ rfl rfl hl.1 rfl (lv_room g3) hd ⟨Nat.le_trans (Nat.le_add_right ce rc) hce, Nat.le_trans (Nat.le_add_right sl rs) hsl⟩
  refine x_after HR hS hF (fun u H1 locs1 hp hP1 hD1 hz hk hS1 => ?_)
  obtain ⟨hP2, hD2⟩ := va_back hP hD isC hC hn (ha u) hk hP1
  rw [hw u] at hP2 hD2
  rw [hst u]
  exact k u hp H1 locs1 ls hP2 hD2 hS1 hl
theorem qX4_211 {K : KA × KB} {l0 : Launch} {D0 : va_G} {ty0 : List (ClassId × FieldType)} {cc : ByteArray} {nL fr lo rc rs : Nat} {ws : va_W} {lv : List (Nat × Value)} {pc : Nat} {st : List Value} {As : List Value} {fr1 lo1 : Nat} {wc : va_W} {σ : Type} {rv : σ → Option Value} {cs : σ → va_W} {po : σ → Prop} (ok : OKX K l0 D0 ty0 cc RX4 nL fr lo rc rs) (hM : CO l0 D0 ty0 yJ6_bitCount_0f7a4 cJ6_bitCount_0f7a4 1 (some .int) fr1 lo1 0 0 As wc rv cs po) (hAs : As.length = 1) (g1 : fr1 + 1 ≤ fr) (g2 : 8 + (1 + 11) + lo1 ≤ lo) (g3 : (st.map fun v => v.category).sum ≤ 8) (hd : decode cc pc = .ok (.invokestatic 211, 3)) (isC : List Nat) (hn : va_nd isC = true) (hC : isC.map (fun i => ws[i]?) = wc.map some) {ws' : σ → va_W} {st' : σ → List Value} (ha : ∀ u, (cs u).map (·.1) = wc.map (·.1)) (hw : ∀ u, setL ws isC (cs u) = ws' u) (hst : ∀ u, (rv u).toList ++ st = st' u) (k : ∀ u, po u → XX K (ws' u) lv (pc + 3) (st' u)) : XX K ws lv pc (As.reverse ++ st) := x_callU ok hM LX4_211 T_J6_bitCount_0f7a4 N_J6 C_J6_bitCount_0f7a4 ⟨by decide +kernel, by decide +kernel⟩ (by rw [hAs]; decide +kernel) g1 g2 g3 hd isC hn hC ha hw hst k
/-- a contract, over a larger world: the other cells stay -/
theorem CO.frame {l : Launch} {D : va_G} {tys : List (ClassId × FieldType)} {y : MethodName} {bytes : ByteArray} {maxL : Nat} {ret : Option FieldType} {fr lo : Nat} {av : List Value} {wc ws : va_W} {σ : Type} {rv : σ → Option Value} {cs : σ → va_W} {po : σ → Prop}
    (h : CO l D tys y bytes maxL ret fr lo 0 0 av wc rv cs po) (isC : List Nat) (hn : va_nd isC = true) (hC : isC.map (fun i => ws[i]?) = wc.map some) (ha : ∀ u, (cs u).map (·.1) = wc.map (·.1)) : CO l D tys y bytes maxL ret fr lo 0 0 av ws rv (fun u => setL ws isC (cs u)) po := by
  intro sz
  have hF : ∀ q, va_A wc sz q → va_A ws sz q := by
    rintro q (⟨k, e, hk⟩ | hq)
    · have hz : (isC.map (fun i => ws[i]?))[k]? = some (some (q, e)) := by rw [hC, List.getElem?_map, hk]; rfl
      rw [List.getElem?_map] at hz
      cases hi : isC[k]? with
      | none => rw [hi] at hz; cases hz
      | some i => rw [hi] at hz; exact Or.inl ⟨i, e, Option.some.inj hz⟩
    · exact Or.inr hq
  refine MetFree.mono (h sz) (fun a s q => ?_) (fun _ _ _ _ _ q => q) (fun a s o t q q2 => ?_)
  · obtain ⟨q0, q1, qP, qK, qD⟩ := q
    exact ⟨q0, q1, qP.sub isC (fm_of hC), qK, qD.sub isC hn hC⟩
  · obtain ⟨q0, q1, qP, qK, qD⟩ := q
    obtain ⟨⟨⟨u, a1, a2, a3, a4⟩, a5, a6⟩, L, b1, b2⟩ := q2
    subst q1
    obtain ⟨c1, c2⟩ := va_back (A0 := va_A ws s.heap.size) qP qD.self isC hC hn (ha u) a6 a3
    exact ⟨⟨⟨u, a1, a2, c1, c2⟩, a5, fun q h1 h2 => a6 q h1 (fun z => h2 (hF q z))⟩, L, b1, fun q hq => hF _ (b2 q hq)⟩
/-- a contract, told in other words -/
theorem CO.post {l : Launch} {D : va_G} {tys : List (ClassId × FieldType)} {y : MethodName} {bytes : ByteArray} {maxL : Nat} {ret : Option FieldType} {fr lo mc ms : Nat} {av : List Value} {wc : va_W} {σ : Type} {rv : σ → Option Value} {cs : σ → va_W} {po : σ → Prop} {τ : Type} {rv' : τ → Option Value} {cs' : τ → va_W} {po' : τ → Prop}
    (h : CO l D tys y bytes maxL ret fr lo mc ms av wc rv cs po) (hp : ∀ u, po u → ∃ v, rv' v = rv u ∧ cs' v = cs u ∧ po' v) : CO l D tys y bytes maxL ret fr lo mc ms av wc rv' cs' po' := by
  intro sz
  refine MetFree.mono (h sz) (fun a s q => q) (fun _ _ _ _ _ q => q) (fun a s o t q q2 => ?_)
  obtain ⟨⟨⟨u, a1, a2, a3, a4⟩, a5⟩, L, b1, b2⟩ := q2
  obtain ⟨v, e1, e2, e3⟩ := hp u a2
  exact ⟨⟨⟨v, by rw [e1]; exact a1, e3, by rw [e2]; exact a3, by rw [e2]; exact a4⟩, a5⟩, L, b1, b2⟩
