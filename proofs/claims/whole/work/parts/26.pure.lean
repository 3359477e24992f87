/-! plans, once more: the best of what may be done first -/
def plW (ll : Nat) (st : Nat → Nat) (W li : Nat) (n : Nat) (L : List Sg) (a : Nat) : Int :=
  sgn1 a + (if n = 1 then 3 * (llN ll (yearsL st li 3 (yearL st li (doL st L a))) : Int) else bsw ll st W li (yearL st li (doL st L a)) ((yearL st li (doL st L a)).length * 2 + 1))
def plF (ll : Nat) (st : Nat → Nat) (W li : Nat) (n : Nat) (L : List Sg) : Nat → Int × Nat
  | 0 => (-100, 0)
  | a + 1 => let r := plF ll st W li n L a; if canB W li L a = true ∧ r.1 < plW ll st W li n L a then (plW ll st W li n L a, a) else r
def planI (ll : Nat) (st : Nat → Nat) (W li : Nat) (L : List Sg) (n what : Int32) : Int32 :=
  if inB n (nI 1) (nI 2) = true ∧ inB what (nI 0) (nI 1) = true then (let r := plF ll st W li (cl n) L (L.length * 2 + 1); if what = nI 0 then nI ((r.1 + 2).toNat / 3) else nI r.2) else -2
theorem bsw_ge {ll li W : Nat} {st : Nat → Nat} {L : List Sg} : ∀ b, 1 ≤ b → wor2 ll st li L 0 ≤ bsw ll st W li L b
  | 0, h => by omega
  | b + 1, _ => by
    rw [bsw]
    rcases Nat.eq_zero_or_pos b with rfl | q
    · rw [if_pos (by rw [canB, if_pos rfl])]; omega
    · have ih := bsw_ge (ll := ll) (li := li) (W := W) (st := st) (L := L) b q
      split <;> omega
theorem plW_b {ll li W A n a : Nat} {st : Nat → Nat} {L : List Sg} (hW : W ≤ 4) (h : okL W A L) (hc : canB W li L a = true) : -1 ≤ plW ll st W li n L a ∧ plW ll st W li n L a ≤ 18 := by
  have h1 := year_ok (li := li) (st := st) (do_ok (st := st) hW h hc)
  have h2 := ll_le (ll := ll) (years_ok (li := li) (st := st) h1 3)
  have h3 := bsw_b (ll := ll) (li := li) (st := st) hW h1 ((yearL st li (doL st L a)).length * 2 + 1)
  have h4 := bsw_ge (ll := ll) (li := li) (W := W) (st := st) (L := yearL st li (doL st L a)) ((yearL st li (doL st L a)).length * 2 + 1) (by omega)
  have h5 : (0 : Int) ≤ wor2 ll st li (yearL st li (doL st L a)) 0 := by rw [wor2, sgn1, if_pos rfl]; omega
  rw [plW, sgn1]
  split <;> split <;> omega
theorem plF_b {ll li W A n : Nat} {st : Nat → Nat} {L : List Sg} (hW : W ≤ 4) (h : okL W A L) : ∀ a, -100 ≤ (plF ll st W li n L a).1 ∧ (plF ll st W li n L a).1 ≤ 18 ∧ (0 < a → -1 ≤ (plF ll st W li n L a).1) ∧ (plF ll st W li n L a).2 ≤ a
  | 0 => by rw [plF]; refine ⟨?_, ?_, ?_, ?_⟩ <;> simp
  | a + 1 => by
    obtain ⟨h1, h2, h3, h4⟩ := plF_b (ll := ll) (li := li) (n := n) (st := st) hW h a
    rw [plF]
    by_cases c : canB W li L a = true ∧ (plF ll st W li n L a).1 < plW ll st W li n L a
    · have h5 := plW_b (ll := ll) (n := n) (st := st) hW h c.1
      simp only [c, and_self, if_true]
      omega
    · simp only [c, if_false]
      refine ⟨h1, h2, fun _ => ?_, by omega⟩
      rcases Nat.eq_zero_or_pos a with rfl | q
      · have h5 := plW_b (ll := ll) (n := n) (li := li) (a := 0) (st := st) hW h (by rw [canB, if_pos rfl])
        have : ¬ (plF ll st W li n L 0).1 < plW ll st W li n L 0 := fun q => c ⟨by rw [canB, if_pos rfl], q⟩
        rw [plF] at this ⊢
        simp only at this ⊢
        omega
      · exact h3 q
theorem lawF_le {st : Nat → Nat} {li a : Nat} {L : List Sg} : ∀ n k, lawF st li a L n k ≤ k + n
  | 0, k => by rw [lawF]; omega
  | n + 1, k => by
    have := lawF_le (st := st) (li := li) (a := a) (L := L) n (k + 1)
    rw [lawF]
    split <;> omega
theorem blF_le {g : Nat → Nat} {li m0 : Nat} (h0 : m0 ≤ 6) (hg : ∀ w, g w ≤ 6) : ∀ w, (blF g li m0 w).2 ≤ 6
  | 0 => h0
  | w + 1 => by
    have ih := blF_le (li := li) h0 hg w
    have h1 := hg w
    simp only [blF]
    by_cases c : li.testBit w = true
    · rw [if_pos c, if_neg (by omega)]
      exact ih
    · rw [if_neg c]
      by_cases d : (blF g li m0 w).2 < g w
      · rw [if_pos d]; exact h1
      · rw [if_neg d]; exact ih
theorem mpF_le {L : List Sg} {a : Nat} (h8 : L.length ≤ 8) : ∀ p, (mpF L a p).2 ≤ 8
  | 0 => Nat.zero_le 8
  | p + 1 => by
    have ih := mpF_le (a := a) h8 p
    have hs := suN_le (g := copy1 L a p) (c := 1) (n := L.length) (fun i _ => by rw [copy1]; split <;> (try split) <;> omega)
    simp only [mpF]
    by_cases c : (mpF L a p).2 < suN (copy1 L a p) L.length
    · rw [if_pos c]; simp only; omega
    · rw [if_neg c]
      by_cases d : suN (copy1 L a p) L.length = (mpF L a p).2
      · rw [if_pos d]; exact ih
      · rw [if_neg d]; exact ih
theorem trF_le {L : List Sg} {a : Nat} : ∀ n, trF L a n ≤ n
  | 0 => Nat.le_refl 0
  | n + 1 => by
    have ih := trF_le (L := L) (a := a) n
    simp only [trF]
    split <;> omega
theorem n9_i (r : Nat) (hr : r < 1000) : n9 r = -9 ↔ r = 0 := by
  rw [n9]
  split
  · rename_i h; exact ⟨fun _ => h, fun _ => rfl⟩
  · rename_i h
    refine ⟨fun q => ?_, fun q => absurd q h⟩
    have := congrArg Int32.toInt q
    rw [nI_toInt (by omega)] at this
    have e : (-9 : Int32).toInt = -9 := rfl
    omega
theorem n9_p {r : Nat} (h : r ≠ 0) : n9 r = nI (r - 1) := if_neg h
theorem rnF_le {L : List Sg} {a r : Nat} (hr : r ≤ 10) : ∀ w, (rnF L a r w).2 ≤ (rnF L a r w).1 ∧ (rnF L a r w).1 ≤ 10 ^ w ∧ 0 < (rnF L a r w).1
  | 0 => ⟨Nat.le_refl 1, Nat.le_refl 1, Nat.one_pos⟩
  | w + 1 => by
    obtain ⟨h1, h2, h3⟩ := rnF_le (L := L) (a := a) hr w
    simp only [rnF]
    rw [Nat.pow_succ]
    split
    · exact ⟨Nat.mul_le_mul h1 hr, Nat.mul_le_mul h2 (Nat.le_refl _), by simp only; omega⟩
    · exact ⟨h1, by omega, h3⟩
theorem lrT_le {W : Nat} {f : Nat → Nat} {c : Nat} : ∀ n (f : Nat → Nat), (∀ j, f j ≤ c) → ∀ q, lrT W f n q ≤ c
  | 0, f, h, q => h q
  | 1, f, h, q => h q
  | n + 2, f, h, q => lrT_le (f := f) (n + 1) _ (fun j => lwT_le h j) q
theorem or_two {li w : Nat} (hl : li < 16) (hw : w < 4) : li ||| 2 ^ w < 16 := Nat.or_lt_two_pow (n := 4) hl (Nat.lt_of_lt_of_le (Nat.pow_lt_pow_right (by omega) hw) (by omega))
theorem zI_le {a b : Int} (h1 : -2147483648 ≤ a) (h2 : a < 2147483648) (h3 : -2147483648 ≤ b) (h4 : b < 2147483648) : zI a ≤ zI b ↔ a ≤ b := by
  rw [Int32.le_iff_toInt_le, zI_toInt h1 h2, zI_toInt h3 h4]
theorem lrT_s {W t : Nat} {f : Nat → Nat} (ht : 2 ≤ t) (q : Nat) : lrT W f t q = lrT W (lwT (decide (t % 2 = 1)) W f) (t - 1) q := by
  obtain ⟨n, rfl⟩ : ∃ n, t = n + 2 := ⟨t - 2, by omega⟩
  rw [lrT]; rfl
theorem lmv_b {f : Nat → Nat} {q : Nat} (h : ∀ j, f j ≤ 6) : ∀ m, -100 ≤ (lmvF f q m).1 ∧ (lmvF f q m).1 ≤ 6 ∧ (lmvF f q m).2 ≤ m
  | 0 => by simp only [lmvF]; omega
  | m + 1 => by
    obtain ⟨h1, h2, h3⟩ := lmv_b (q := q) h m
    have := h (mvN q m)
    simp only [lmvF]
    by_cases c : (lmvF f q m).1 < (f (mvN q m) : Int)
    · rw [if_pos c]; simp only; omega
    · rw [if_neg c]; omega
theorem flood1_ok {W A w : Nat} {L : List Sg} (h : okL W A L) : okL W A (low (fl1 L w) 0 L L.length) := low_ok (ag := 0) h _ (Nat.le_refl _)
theorem rwF_ok {W A li r : Nat} {z : List Sg × Int64} (h : okL W A z.1) : ∀ w, okL W A (rwF li r w z).1
  | 0 => h
  | w + 1 => by
    have ih := rwF_ok (li := li) (r := r) h w
    simp only [rwF]
    by_cases c : li.testBit w = true
    · rw [if_pos c]; exact ih
    · rw [if_neg c]
      simp only
      by_cases d : flB (seedN (rwF li r w z).2) r = true
      · rw [if_pos d]; exact flood1_ok ih
      · rw [if_neg d]; exact ih
theorem ryF_ok {W A li r : Nat} {st : Nat → Nat} {z : List Sg × Int64} (h : okL W A z.1) : ∀ n, okL W (A + n) (ryF st W li r n z).1
  | 0 => h
  | n + 1 => by
    have ih := ryF_ok (li := li) (r := r) (st := st) h n
    simp only [ryF]
    exact rwF_ok (z := (yearL st li (ryF st W li r n z).1, (ryF st W li r n z).2)) (year_ok ih) W
