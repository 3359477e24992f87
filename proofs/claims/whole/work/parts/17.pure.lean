/-! WHAT IS HEARD, plans, lamps: pure -/
def ndiff (a b : Nat) : Nat := if a < b then b - a else a - b
theorem abs_n {a b : Nat} (ha : a < 2 ^ 30) (hb : b < 2 ^ 30) : (if 0 ≤ nI a - nI b then nI a - nI b else 0 - (nI a - nI b)) = nI (ndiff a b) := by
  have e := pk_sub_toInt ha hb
  by_cases c : a < b
  · rw [if_neg (by rw [Int32.le_iff_toInt_le, e]; show ¬ (0 : Int) ≤ _; omega), ndiff, if_pos c]
    apply Int32.toInt_inj.mp
    rw [nI_toInt (by omega), Int32.toInt_sub, e]
    show ((0 : Int) - _).bmod _ = _
    rw [Int.bmod_def]; omega
  · rw [if_pos (by rw [Int32.le_iff_toInt_le, e]; show (0 : Int) ≤ _; omega), ndiff, if_neg c]
    exact pk_sub (by omega)
theorem abs_n2 {a b : Nat} (ha : a < 2 ^ 30) (hb : b < 2 ^ 30) : (if nI a < nI b then nI b - nI a else nI a - nI b) = nI (ndiff a b) := by
  by_cases c : a < b
  · rw [if_pos ((nI_ltI (by omega) (by omega)).mpr c), ndiff, if_pos c]; exact pk_sub (by omega)
  · rw [if_neg (fun q => c ((nI_ltI (by omega) (by omega)).mp q)), ndiff, if_neg c]; exact pk_sub (by omega)
def hear1 (L : List Sg) (d lamp : Nat) (noon : Bool) (w i : Nat) : Nat := if sg L i 1 = w ∧ (noon = true → sg L i 3 < 2) ∧ ndiff (min (sg L i 4) d) lamp < sg L i 2 then 2 ^ i else 0
def heardN (L : List Sg) (li d : Nat) (noon : Bool) (w x : Nat) : Nat := if li.testBit w = true then 0 else orN (hear1 L d (min x d) noon w) L.length
theorem heard_lt {L : List Sg} {li d : Nat} {noon : Bool} {w x : Nat} (h8 : L.length ≤ 8) : heardN L li d noon w x < 256 := by
  rw [heardN]
  split
  · decide
  · exact orN_lt (k := 8) fun i hi => by
      rw [hear1]
      split
      · exact Nat.pow_lt_pow_right (by omega) (by omega)
      · decide
def popN (a : Nat) : Nat := suN (fun k => (a.testBit k).toNat) 6
def bcI (x : Int32) : Int32 :=
  let u := fun (x : Int32) (n : Int32) => (x.toUInt32 >>> (n.toUInt32 &&& Int32.toUInt32 31)).toInt32
  let a := x - (u x 1 &&& 1431655765)
  let b := (a &&& 858993459) + (u a 2 &&& 858993459)
  let c := (b + u b 4) &&& 252645135
  let d := c + u c 8
  (d + u d 16) &&& 63
theorem bc_pop : ∀ a, a < 64 → bcI (nI a) = nI (popN a) := by decide +kernel
theorem pop_le : ∀ a, a < 64 → popN a ≤ 6 := by decide +kernel
theorem and_lt64 {a b : Nat} (h : b < 64) : a &&& b < 64 := Nat.lt_of_le_of_lt Nat.and_le_right h
/-- laws of the land that are had -/
def llN (ll : Nat) (L : List Sg) : Nat := popN (ll &&& lawsN L)
theorem ll_le {ll W A : Nat} {L : List Sg} (h : okL W A L) : llN ll L ≤ 6 := pop_le _ (and_lt64 (lawsN_lt h))
/-! what may be done: 0 nothing, 1 and twice the song and the side -/
def jN (L : List Sg) (s side : Nat) : Nat := (nxt (sg L s 1) side).toNatClampNeg
def canB (W li : Nat) (L : List Sg) (a : Nat) : Bool := if a = 0 then true else decide ((a - 1) / 2 < L.length) && (way W li (sg L ((a - 1) / 2) 1) ((a - 1) % 2) && decide (L.length < 8))
def doL (st : Nat → Nat) (L : List Sg) (a : Nat) : List Sg := if a = 0 then L else sungL st L ((a - 1) / 2) (jN L ((a - 1) / 2) ((a - 1) % 2)) 6 (sg L ((a - 1) / 2) 3)
def afterL (st : Nat → Nat) (W li : Nat) (L : List Sg) (a : Nat) : List Sg := if canB W li L a = true then doL st L a else L
theorem way_j {W li w side : Nat} (hW : W ≤ 4) (h : way W li w side = true) : (nxt w side).toNatClampNeg < W ∧ nxt w side = nI (nxt w side).toNatClampNeg := by
  simp only [way, Bool.and_eq_true] at h
  obtain ⟨j, hj, e⟩ := hasB_t (by omega) h.1
  rw [e, nI_clamp (by omega)]
  exact ⟨hj, rfl⟩
theorem sung_ok {W A : Nat} {st : Nat → Nat} {L : List Sg} {s j v p : Nat} (h : okL W A L) (hs : s < L.length) (h8 : L.length < 8) (hj : j < W) (hv : 1 ≤ v) (hv9 : v ≤ 9) (hp : p < 4) : okL W A (sungL st L s j v p) := by
  obtain ⟨a0, a1, a2, a3, a4, a5, a6⟩ := h.2 s hs
  refine okL_snoc h h8 ⟨?_, ?_, ?_, ?_, ?_, ?_, ?_⟩ <;> simp [mkS, slipN] <;> omega
theorem do_ok {W A li a : Nat} {st : Nat → Nat} {L : List Sg} (hW : W ≤ 4) (h : okL W A L) (hc : canB W li L a = true) : okL W A (doL st L a) := by
  rw [doL]
  by_cases c : a = 0
  · rw [if_pos c]; exact h
  · rw [if_neg c]
    rw [canB, if_neg c, Bool.and_eq_true, Bool.and_eq_true, decide_eq_true_eq, decide_eq_true_eq] at hc
    have hj := way_j hW hc.2.1
    exact sung_ok h hc.1 hc.2.2 hj.1 (by omega) (by omega) (h.2 _ hc.1).2.2.2.2.1
theorem after_ok {W A li a : Nat} {st : Nat → Nat} {L : List Sg} (hW : W ≤ 4) (h : okL W A L) : okL W A (afterL st W li L a) := by
  rw [afterL]
  split
  · rename_i c; exact do_ok hW h c
  · exact h
def zI (e : Int) : Int32 := Int32.ofInt e
theorem zI_add (a b : Int) : zI a + zI b = zI (a + b) := (Int32.ofInt_add a b).symm
theorem zI_n (a : Nat) : nI a = zI (a : Int) := rfl
theorem zI_toInt {a : Int} (h1 : -2147483648 ≤ a) (h2 : a < 2147483648) : (zI a).toInt = a := by
  rw [zI, Int32.toInt_ofInt]
  show a.bmod (2 ^ 32) = a
  rw [Int.bmod_def]; omega
theorem zI_lt {a b : Int} (h1 : -2147483648 ≤ a) (h2 : a < 2147483648) (h3 : -2147483648 ≤ b) (h4 : b < 2147483648) : zI a < zI b ↔ a < b := by
  rw [Int32.lt_iff_toInt_lt, zI_toInt h1 h2, zI_toInt h3 h4]
theorem zI_max {a b : Int} (h1 : -2147483648 ≤ a) (h2 : a < 2147483648) (h3 : -2147483648 ≤ b) (h4 : b < 2147483648) : (if zI a < zI b then zI b else zI a) = zI (max a b) := by
  by_cases c : a < b
  · rw [if_pos ((zI_lt h1 h2 h3 h4).mpr c)]; congr 1; omega
  · rw [if_neg (fun q => c ((zI_lt h1 h2 h3 h4).mp q))]; congr 1; omega
def sgn1 (a : Nat) : Int := if a = 0 then 0 else -1
/-- worth of a deed ahead of the last year, and what is behind it -/
def wor2 (ll : Nat) (st : Nat → Nat) (li : Nat) (L : List Sg) (b : Nat) : Int := sgn1 b + 3 * (llN ll (yearsL st li 3 (yearL st li (doL st L b))) : Int)
def bsw (ll : Nat) (st : Nat → Nat) (W li : Nat) (L : List Sg) : Nat → Int
  | 0 => -100
  | b + 1 => if canB W li L b = true then max (bsw ll st W li L b) (wor2 ll st li L b) else bsw ll st W li L b
theorem wor2_b {ll li b W A : Nat} {st : Nat → Nat} {L : List Sg} (hW : W ≤ 4) (h : okL W A L) (hc : canB W li L b = true) : -1 ≤ wor2 ll st li L b ∧ wor2 ll st li L b ≤ 18 := by
  have := ll_le (ll := ll) (years_ok (li := li) (st := st) (year_ok (li := li) (st := st) (do_ok (st := st) hW h hc)) 3)
  rw [wor2, sgn1]
  split <;> omega
theorem bsw_b {ll li W A : Nat} {st : Nat → Nat} {L : List Sg} (hW : W ≤ 4) (h : okL W A L) : ∀ b, -100 ≤ bsw ll st W li L b ∧ bsw ll st W li L b ≤ 18
  | 0 => by rw [bsw]; omega
  | b + 1 => by
    have ih := bsw_b (ll := ll) (li := li) (st := st) hW h b
    rw [bsw]
    split
    · rename_i c
      have := wor2_b (ll := ll) (st := st) hW h c
      omega
    · exact ih
/-! lamps -/
def tellN (L : List Sg) (li : Nat) (dp : Nat → Nat) (w x : Nat) : Nat := orN (bitN L (heardN L li (dp w) false w x)) L.length
def lampG (L : List Sg) (li : Nat) (dp : Nat → Nat) (w : Nat) (x : Nat) : Nat := 2 ^ tellN L li dp w x
def lampN (L : List Sg) (li : Nat) (dp : Nat → Nat) (W : Nat) : Nat := orN (fun w => orN (lampG L li dp w) 10) W
def jweN (s o : Nat) (n : Nat) : Nat := orN (fun t => if o.testBit t = true then 2 ^ (s ||| t) else 0) n
def joiN (a o : Nat) (n : Nat) : Nat := orN (fun s => if a.testBit s = true then jweN s o 64 else 0) n
theorem lwb_bit {n k : Nat} (hn : n < 2 ^ 64) (hk : k < 64) : ((lN n).toUInt64 >>> ((nI k).toInt64.toUInt64 &&& Int64.toUInt64 63)).toInt64 &&& lN 1 = lN (n.testBit k).toNat := by
  rw [show lN 1 = (1 : Int64) from rfl, wb_bit hn hk]
  congr 1
  rw [Nat.testBit_eq_decide_div_mod_eq]
  have : n / 2 ^ k % 2 = 0 ∨ n / 2 ^ k % 2 = 1 := by omega
  rcases this with h | h <;> rw [h] <;> rfl
theorem lgc_b (b : Bool) : lg_cmp (lN b.toNat) (lN 1) = 0 ↔ b = true := by cases b <;> decide
theorem or_lt64 {a b : Nat} (ha : a < 64) (hb : b < 64) : a ||| b < 64 := Nat.or_lt_two_pow (n := 6) ha hb
theorem pow_lt64 {a : Nat} (ha : a < 64) : 2 ^ a < 2 ^ 64 := Nat.pow_lt_pow_right (by omega) ha
theorem jwe_lt {s o n : Nat} (hs : s < 64) (hn : n ≤ 64) : jweN s o n < 2 ^ 64 := orN_lt fun i hi => by
  split
  · exact pow_lt64 (or_lt64 hs (by omega))
  · exact Nat.two_pow_pos 64
theorem joi_lt {a o n : Nat} (hn : n ≤ 64) : joiN a o n < 2 ^ 64 := orN_lt fun i hi => by
  split
  · exact jwe_lt (by omega) (Nat.le_refl _)
  · exact Nat.two_pow_pos 64
theorem tell_lt {W A li w x : Nat} {dp : Nat → Nat} {L : List Sg} (h : okL W A L) : tellN L li dp w x < 64 := bitN_lt h (Nat.le_refl _)
theorem lamp_lt2 {W A li w n : Nat} {dp : Nat → Nat} {L : List Sg} (h : okL W A L) : orN (lampG L li dp w) n < 2 ^ 64 := orN_lt fun i _ => pow_lt64 (tell_lt h)
theorem lamp_lt {W A li n : Nat} {dp : Nat → Nat} {L : List Sg} (h : okL W A L) : lampN L li dp n < 2 ^ 64 := orN_lt fun i _ => lamp_lt2 h
/-! lords: what the lids are worth -/
def lw0 (ll : Nat) (st : Nat → Nat) (W : Nat) (L : List Sg) (q : Nat) : Nat := if q < 2 ^ W then llN ll (yearsL st q 4 L) else 0
def mvN (q m : Nat) : Nat := if m = 0 then q else q ^^^ 2 ^ (m - 1)
def ext (most : Bool) (a b : Nat) : Nat := if most = true then max a b else min a b
def lwF (most : Bool) (f : Nat → Nat) (q : Nat) : Nat → Nat
  | 0 => f q
  | m + 1 => ext most (lwF most f q m) (f (mvN q (m + 1)))
def lwT (most : Bool) (W : Nat) (f : Nat → Nat) (q : Nat) : Nat := lwF most f q W
theorem zI_addn (a : Int) (n : Nat) : zI a + nI n = zI (a + n) := by rw [zI_n]; exact zI_add _ _
theorem zI_100 : (-100 : Int32) = zI (-100) := by decide
