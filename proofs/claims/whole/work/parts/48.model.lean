/-! THE MODEL'S LASTING, plans: pure -/
theorem wrN_at {lo : Nat → Nat} {L : List Sg} {p : Nat} (hp : p < 1000) : ∀ n, n < 1000 → wrN lo L (nI p) n = if p < n ∧ lo p < sg L p 2 then nI (low lo 0 L p).length else -9
  | 0, _ => by rw [wrN, if_neg (by omega)]
  | n + 1, h => by
    rw [wrN, wrN_at hp n (by omega)]
    by_cases e : n = p
    · subst e
      by_cases c : lo n < sg L n 2
      · rw [if_pos ⟨c, rfl⟩, if_pos ⟨by omega, c⟩]
      · rw [if_neg (fun z => c z.1), if_neg (fun z => c z.2), if_neg (fun z => c z.2)]
    · rw [if_neg (fun z => e ((nI_eq (by omega) (by omega)).mp z.2))]
      by_cases d : p < n
      · by_cases c : lo p < sg L p 2
        · rw [if_pos ⟨d, c⟩, if_pos ⟨by omega, c⟩]
        · rw [if_neg (fun z => c z.2), if_neg (fun z => c z.2)]
      · rw [if_neg (fun z => d z.1), if_neg (fun z => by have := z.1; omega)]
/-- the same songs, but for their ages -/
def noAge (M N : List Sg) : Prop := M.length = N.length ∧ ∀ i k, i < M.length → k ≠ 4 → sg M i k = sg N i k
theorem noAge_refl (M : List Sg) : noAge M M := ⟨rfl, fun _ _ _ _ => rfl⟩
theorem noAge_same {M N : List Sg} (h : noAge M N) {i : Nat} (hi : i < M.length) : sameN M (sg M i) = sameN N (sg N i) := by
  rw [sameN, sameN, ← h.1]
  refine suN_cong fun j hj => ?_
  rw [h.2 j 1 hj (by omega), h.2 j 3 hj (by omega), h.2 i 1 hi (by omega), h.2 i 3 hi (by omega)]
theorem noAge_loss {M N : List Sg} (h : noAge M N) {st : Nat → Nat} {li i : Nat} (hi : i < M.length) : lossN st li M i = lossN st li N i := by
  rw [lossN, lossN, noAge_same h hi, h.2 i 1 hi (by omega)]
theorem noAge_low {M N : List Sg} (h : noAge M N) {lo lo' : Nat → Nat} {a b : Nat} (e : ∀ i, i < M.length → lo i = lo' i) : ∀ n, n ≤ M.length → noAge (low lo a M n) (low lo' b N n)
  | 0, _ => ⟨rfl, fun i k hi => absurd hi (Nat.not_lt_zero i)⟩
  | n + 1, hn => by
    have ih := noAge_low h e (a := a) (b := b) n (by omega)
    have e2 := h.2 n 2 (by omega) (by omega)
    have el := e n (by omega)
    by_cases c : lo n < sg M n 2
    · rw [low_y c, low_y (show lo' n < sg N n 2 by omega)]
      refine ⟨by simp [ih.1], fun i k hi hk => ?_⟩
      simp only [List.length_append, List.length_singleton] at hi
      by_cases q : i < (low lo a M n).length
      · rw [sg_lt q, sg_lt (by rw [← ih.1]; exact q), ih.2 i k q hk]
      · obtain rfl : i = (low lo a M n).length := by omega
        rw [sg_len, ih.1, sg_len]
        simp only [lowS, if_neg hk]
        by_cases k2 : k = 2
        · subst k2; simp [e2, el]
        · simp [k2, h.2 n k (by omega) hk]
    · rw [low_n c, low_n (show ¬ lo' n < sg N n 2 by omega)]
      exact ih
theorem noAge_last {st : Nat → Nat} {li : Nat} : ∀ (n k : Nat) (M N : List Sg) (p : Nat), noAge M N → p < M.length → lastF st li n k M p = lastF st li n k N p
  | 0, k, M, N, p, _, _ => by rw [lastF, lastF]
  | n + 1, k, M, N, p, h, hp => by
    rw [lastF, lastF, noAge_loss h hp, h.2 p 2 hp (by omega)]
    by_cases c : lossN st li N p < sg N p 2
    · rw [if_pos c, if_pos c]
      have h1 : noAge (low (lossN st li M) 0 M M.length) (low (lossN st li N) 0 N N.length) := by rw [← h.1]; exact noAge_low h (fun i hi => noAge_loss h hi) _ (Nat.le_refl _)
      have h2 : (low (lossN st li M) 0 M p).length = (low (lossN st li N) 0 N p).length := (noAge_low h (fun i hi => noAge_loss h hi) p (by omega)).1
      rw [← h2]
      exact noAge_last n (k + 1) _ _ _ h1 (low_len2 hp (by rw [noAge_loss h hp, h.2 p 2 hp (by omega)]; exact c))
    · rw [if_neg c, if_neg c]
theorem year_pl {st : Nat → Nat} {li p : Nat} {M : List Sg} (hp : p < M.length) (hy : lossN st li M p < sg M p 2) : (low (lossN st li M) 0 M p).length < (yearL st li M).length := by
  have e := low_leng (lo := lossN st li M) (ag := 1) (L := M) p
  have h := low_len2 (ag := 1) hp hy
  rw [e] at h
  exact h
theorem last_y {st : Nat → Nat} {li n k p : Nat} {M : List Sg} (hp : p < M.length) (hy : lossN st li M p < sg M p 2) : lastF st li (n + 1) k M p = lastF st li n (k + 1) (yearL st li M) (low (lossN st li M) 0 M p).length := by
  rw [lastF, if_pos hy]
  exact (noAge_last n (k + 1) (yearL st li M) _ _ (noAge_low (noAge_refl M) (fun _ _ => rfl) _ (Nat.le_refl _)) (year_pl hp hy)).symm
theorem yearsL_s {st : Nat → Nat} {li : Nat} {L : List Sg} : ∀ n, yearsL st li (n + 1) L = yearsL st li n (yearL st li L)
  | 0 => rfl
  | n + 1 => by
    rw [yearsL, yearsL_s n]
    rfl
/-! what may be done -/
theorem after_0 {st : Nat → Nat} {W li : Nat} {L : List Sg} : canB W li L 0 = true ∧ afterL st W li L 0 = L := by
  have h : canB W li L 0 = true := by rw [canB, if_pos rfl]
  exact ⟨h, by rw [afterL, if_pos h, doL, if_pos rfl]⟩
theorem after_n {st : Nat → Nat} {W li a : Nat} {L : List Sg} (h : ¬ canB W li L a = true) : afterL st W li L a = L := by rw [afterL, if_neg h]
theorem after_d {st : Nat → Nat} {W li a : Nat} {L : List Sg} (h : canB W li L a = true) : afterL st W li L a = doL st L a := by rw [afterL, if_pos h]
theorem after_y {st : Nat → Nat} {W li a : Nat} {L : List Sg} (h0 : a ≠ 0) (h : canB W li L a = true) : afterL st W li L a = sungL st L ((a - 1) / 2) (jN L ((a - 1) / 2) ((a - 1) % 2)) 6 (sg L ((a - 1) / 2) 3) := by rw [afterL, if_pos h, doL, if_neg h0]
theorem can_i {W li a : Nat} {L : List Sg} (h0 : a ≠ 0) : canB W li L a = true ↔ (a - 1) / 2 < L.length ∧ way W li (sg L ((a - 1) / 2) 1) ((a - 1) % 2) = true ∧ L.length < 8 := by
  rw [canB, if_neg h0, Bool.and_eq_true, Bool.and_eq_true, decide_eq_true_eq, decide_eq_true_eq]
theorem can_out {W li a : Nat} {L : List Sg} (h0 : L.length * 2 + 1 ≤ a) : ¬ canB W li L a = true := by
  rw [can_i (by omega)]
  rintro ⟨h, -⟩
  omega
def worx (ll : Nat) (st : Nat → Nat) (li n : Nat) (L : List Sg) (b : Nat) : Int := sgn1 b + 3 * (llN ll (yearsL st li (n + 2) (doL st L b)) : Int)
def bsx (ll : Nat) (st : Nat → Nat) (W li n : Nat) (L : List Sg) : Nat → Int
  | 0 => -100
  | b + 1 => if canB W li L b = true then max (bsx ll st W li n L b) (worx ll st li n L b) else bsx ll st W li n L b
theorem worx_2 {ll : Nat} {st : Nat → Nat} {li : Nat} {L : List Sg} {b : Nat} : worx ll st li 2 L b = wor2 ll st li L b := by
  rw [worx, wor2, show (2 + 2 : Nat) = 3 + 1 from rfl, yearsL_s]
theorem bsx_2 {ll : Nat} {st : Nat → Nat} {W li : Nat} {L : List Sg} : ∀ b, bsx ll st W li 2 L b = bsw ll st W li L b
  | 0 => rfl
  | b + 1 => by rw [bsx, bsw, bsx_2 b, worx_2]
theorem bsw_out {ll : Nat} {st : Nat → Nat} {W li : Nat} {L : List Sg} : ∀ b, L.length * 2 + 1 ≤ b → bsw ll st W li L b = bsw ll st W li L (L.length * 2 + 1)
  | 0, h => by omega
  | b + 1, h => by
    rcases Nat.lt_or_ge b (L.length * 2 + 1) with q | q
    · rw [show b + 1 = L.length * 2 + 1 by omega]
    · rw [bsw, if_neg (can_out q), bsw_out b q]
def plN (r : Int × Nat) (c : Bool) (w : Int) (a : Nat) : Int × Nat := if c = true ∧ r.1 < w then (w, a) else r
def plM (ll : Nat) (st : Nat → Nat) (W li n : Nat) (L : List Sg) : Nat → Int × Nat
  | 0 => (-27, 0)
  | a + 1 => plN (plM ll st W li n L a) (canB W li L a) (plW ll st W li n L a) a
theorem plF_s {ll : Nat} {st : Nat → Nat} {W li n : Nat} {L : List Sg} (a : Nat) : plF ll st W li n L (a + 1) = plN (plF ll st W li n L a) (canB W li L a) (plW ll st W li n L a) a := by
  rw [plF]; rfl
theorem plM_F {ll : Nat} {st : Nat → Nat} {W li n A : Nat} {L : List Sg} (hW : W ≤ 4) (h : okL W A L) : ∀ a, plM ll st W li n L (a + 1) = plF ll st W li n L (a + 1)
  | 0 => by
    have h5 := plW_b (ll := ll) (n := n) (st := st) hW h (after_0 (st := st) (W := W) (li := li) (L := L)).1
    rw [plF_s, plM, plM, plF, plN, plN, if_pos ⟨(after_0 (st := st)).1, by show (-27 : Int) < _; omega⟩, if_pos ⟨(after_0 (st := st)).1, by show (-100 : Int) < _; omega⟩]
  | a + 1 => by rw [plF_s, plM, plM_F hW h a]
theorem plF_out {ll : Nat} {st : Nat → Nat} {W li n : Nat} {L : List Sg} : ∀ a, L.length * 2 + 1 ≤ a → plF ll st W li n L a = plF ll st W li n L (L.length * 2 + 1)
  | 0, h => by omega
  | a + 1, h => by
    rcases Nat.lt_or_ge a (L.length * 2 + 1) with q | q
    · rw [show a + 1 = L.length * 2 + 1 by omega]
    · rw [plF_s, plN, if_neg (fun z => can_out q z.1), plF_out a q]
/-- the model's best: how many laws, by how few, what first -/
def plS (m3 : Int32) (few fi : Nat) (r : Int × Nat) : Prop := few ≤ 2 ∧ ∃ mo : Int, m3 = zI mo ∧ -9 ≤ mo ∧ mo ≤ 6 ∧ r = (3 * mo - few, fi)
theorem plS_0 : plS (-9) 0 0 (-27, 0) := ⟨by omega, -9, by decide, by omega, by omega, rfl⟩
theorem plS_y {m3 : Int32} {few fi got sung a : Nat} {r : Int × Nat} (h : plS m3 few fi r) (hg : got ≤ 6) (hs : sung ≤ 2) (hc : m3 < nI got ∨ (nI got = m3 ∧ sung < few)) : plS (nI got) sung a (3 * (got : Int) - sung, a) ∧ r.1 < 3 * (got : Int) - sung := by
  obtain ⟨h1, mo, rfl, h2, h3, rfl⟩ := h
  refine ⟨⟨hs, got, zI_n got, by omega, by omega, rfl⟩, ?_⟩
  show 3 * mo - few < _
  rcases hc with hc | ⟨hc, hd⟩
  · rw [zI_n, zI_lt (by omega) (by omega) (by omega) (by omega)] at hc; omega
  · rw [zI_n] at hc
    have e := congrArg Int32.toInt hc
    rw [zI_toInt (by omega) (by omega), zI_toInt (by omega) (by omega)] at e
    omega
theorem plS_n {m3 : Int32} {few fi got sung : Nat} {r : Int × Nat} (h : plS m3 few fi r) (hg : got ≤ 6) (hs : sung ≤ 2) (hc : ¬ m3 < nI got) (hd : ¬ nI got = m3 ∨ ¬ sung < few) : ¬ r.1 < 3 * (got : Int) - sung := by
  obtain ⟨h1, mo, rfl, h2, h3, rfl⟩ := h
  show ¬ 3 * mo - few < _
  rw [zI_n] at hc hd
  rw [zI_lt (by omega) (by omega) (by omega) (by omega)] at hc
  rcases hd with hd | hd
  · have : (got : Int) ≠ mo := fun e => hd (by rw [e])
    omega
  · omega
theorem plN_s {R : Int × Nat} {s c : Int} {a : Nat} : plN (plN R true s a) true c a = plN R true (max s c) a := by
  unfold plN
  by_cases h1 : R.1 < s
  · rw [if_pos (show true = true ∧ R.1 < s from ⟨rfl, h1⟩)]
    by_cases h2 : s < c
    · rw [Int.max_eq_right (by omega), if_pos ⟨rfl, h2⟩, if_pos ⟨rfl, by omega⟩]
    · rw [Int.max_eq_left (by omega), if_neg (fun z => h2 z.2), if_pos ⟨rfl, h1⟩]
  · rw [if_neg (show ¬ (true = true ∧ R.1 < s) from fun z => h1 z.2)]
    by_cases h2 : R.1 < c
    · rw [Int.max_eq_right (by omega)]
    · rw [if_neg (fun z => h2 z.2), if_neg (fun z => by have := z.2; omega)]
theorem pl_no {ll : Nat} {st : Nat → Nat} {W li n b : Nat} {L : List Sg} (h : ¬ canB W li L b = true) : bsx ll st W li n L (b + 1) = bsx ll st W li n L b := by rw [bsx, if_neg h]
theorem pl_e {ll : Nat} {st : Nat → Nat} {W li n a b got sung : Nat} {L : List Sg} {R : Int × Nat} (hc : canB W li L b = true) (hg : got = llN ll (yearsL st li (n + 2) (doL st L b))) (hs : sung = (if a = 0 then 0 else 1) + (if b = 0 then 0 else 1)) :
    plN R true (sgn1 a + bsx ll st W li n L (b + 1)) a = plN (plN R true (sgn1 a + bsx ll st W li n L b) a) true (3 * (got : Int) - sung) a ∧ sung ≤ 2 := by
  have e : (3 * (got : Int) - sung) = sgn1 a + worx ll st li n L b := by
    rw [worx, ← hg, hs, sgn1, sgn1]
    split <;> split <;> omega
  refine ⟨?_, by rw [hs]; split <;> split <;> omega⟩
  rw [plN_s, e, bsx, if_pos hc]
  congr 1
  omega
theorem pl_y {ll : Nat} {st : Nat → Nat} {W li n a b got sung few fi : Nat} {m3 : Int32} {L : List Sg} {R : Int × Nat} (h : plS m3 few fi (plN R true (sgn1 a + bsx ll st W li n L b) a)) (hc : canB W li L b = true) (hg : got = llN ll (yearsL st li (n + 2) (doL st L b))) (hg6 : got ≤ 6) (hs : sung = (if a = 0 then 0 else 1) + (if b = 0 then 0 else 1)) (hd : m3 < nI got ∨ (nI got = m3 ∧ sung < few)) :
    plS (nI got) sung a (plN R true (sgn1 a + bsx ll st W li n L (b + 1)) a) := by
  obtain ⟨e, h2⟩ := pl_e (R := R) hc hg hs
  have q := plS_y (a := a) h hg6 h2 hd
  rw [e, plN, if_pos ⟨rfl, q.2⟩]
  exact q.1
theorem pl_n {ll : Nat} {st : Nat → Nat} {W li n a b got sung few fi : Nat} {m3 : Int32} {L : List Sg} {R : Int × Nat} (h : plS m3 few fi (plN R true (sgn1 a + bsx ll st W li n L b) a)) (hc : canB W li L b = true) (hg : got = llN ll (yearsL st li (n + 2) (doL st L b))) (hg6 : got ≤ 6) (hs : sung = (if a = 0 then 0 else 1) + (if b = 0 then 0 else 1)) (hd : ¬ m3 < nI got) (hd2 : ¬ nI got = m3 ∨ ¬ sung < few) :
    plS m3 few fi (plN R true (sgn1 a + bsx ll st W li n L (b + 1)) a) := by
  obtain ⟨e, h2⟩ := pl_e (R := R) hc hg hs
  have q := plS_n h hg6 h2 hd hd2
  rw [e, plN, if_neg (fun z => q z.2)]
  exact h
theorem pl_0 {ll : Nat} {st : Nat → Nat} {W li n a few fi : Nat} {m3 : Int32} {L : List Sg} {R : Int × Nat} (h : plS m3 few fi R) : plN R true (sgn1 a + bsx ll st W li n L 0) a = R := by
  obtain ⟨h1, mo, rfl, h2, h3, rfl⟩ := h
  rw [plN, bsx, sgn1, if_neg]
  rintro ⟨-, z⟩
  have z2 : 3 * mo - few < (if a = 0 then 0 else -1) + -100 := z
  split at z2 <;> omega
theorem pl_end {ll : Nat} {st : Nat → Nat} {W li n a A : Nat} {L : List Sg} (hW : W ≤ 4) (h : okL W A L) (hc : canB W li L a = true) (hn : n = 1 ∨ n = 2) : sgn1 a + bsx ll st W li n (yearL st li (doL st L a)) ((if n = 2 then 16 else 0) + 1) = plW ll st W li n L a := by
  have h1 := year_ok (li := li) (st := st) (do_ok (st := st) hW h hc)
  have h8 := h1.1
  rcases hn with rfl | rfl
  · have e0 : sgn1 0 = 0 := rfl
    have d0 : doL st (yearL st li (doL st L a)) 0 = yearL st li (doL st L a) := by rw [doL, if_pos rfl]
    rw [plW, if_pos rfl, if_neg (by omega), bsx, if_pos (after_0 (st := st)).1, bsx, worx, e0, d0, show (1 + 2 : Nat) = 3 from rfl, Int.max_eq_right (by omega)]
    omega
  · rw [plW, if_neg (show ¬ (2 : Nat) = 1 by omega), if_pos rfl, bsx_2, bsw_out _ (by omega)]
theorem plan_end {ll : Nat} {st : Nat → Nat} {W li n A few fi : Nat} {m3 : Int32} {L : List Sg} (hW : W ≤ 4) (h : okL W A L) (hp : plS m3 few fi (plM ll st W li n L 17)) : m3 = nI (((plF ll st W li n L (L.length * 2 + 1)).1 + 2).toNat / 3) ∧ fi = (plF ll st W li n L (L.length * 2 + 1)).2 := by
  have h8 := h.1
  have hb := plF_b (ll := ll) (li := li) (n := n) (st := st) hW h (L.length * 2 + 1)
  rw [show (17 : Nat) = 16 + 1 from rfl, plM_F hW h, plF_out _ (by omega)] at hp
  obtain ⟨h1, mo, rfl, h2, h3, e⟩ := hp
  rw [e] at hb ⊢
  refine ⟨?_, rfl⟩
  have h4 := hb.2.2.1 (by omega)
  simp only at h4 ⊢
  rw [zI_n]
  congr 1
  omega
