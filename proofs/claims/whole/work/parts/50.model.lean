/-! FLOODS and RAINS: pure -/
theorem low_cong {lo lo' : Nat → Nat} {ag : Nat} {L L' : List Sg} : ∀ n, (∀ i, i < n → lo i = lo' i ∧ sg L i = sg L' i) → low lo ag L n = low lo' ag L' n
  | 0, _ => rfl
  | n + 1, h => by
    rw [low, low, low_cong n (fun i hi => h i (by omega)), (h n (by omega)).1, (h n (by omega)).2]
def flo (L : List Sg) (fl : Nat) (i : Nat) : Nat := if fl.testBit (sg L i 1) = true then 3 else 0
theorem floodL_e {L : List Sg} {fl : Nat} : floodL fl L = low (flo L fl) 0 L L.length := rfl
theorem flood_two {fl w : Nat} {L : List Sg} (hw : fl.testBit w = false) : ∀ n, low (fl1 (low (flo L fl) 0 L n) w) 0 (low (flo L fl) 0 L n) (low (flo L fl) 0 L n).length = low (flo L (fl ||| 2 ^ w)) 0 L n
  | 0 => rfl
  | n + 1 => by
    have ih := flood_two hw (L := L) n
    have e1 : flo L (fl ||| 2 ^ w) n = if sg L n 1 = w then 3 else flo L fl n := by
      rw [flo, flo, Nat.testBit_or, Nat.testBit_two_pow]
      by_cases q : sg L n 1 = w
      · simp [q]
      · have q2 : ¬ w = sg L n 1 := fun z => q z.symm
        simp [q, q2]
    have e0 : sg L n 1 = w → flo L fl n = 0 := fun q => by rw [flo, q, hw]; rfl
    by_cases c : flo L fl n < sg L n 2
    · rw [low_y c]
      obtain ⟨X, eX⟩ : ∃ X, X = low (flo L fl) 0 L n := ⟨_, rfl⟩
      obtain ⟨s, es⟩ : ∃ s, s = lowS (flo L fl) 0 L n := ⟨_, rfl⟩
      rw [← eX] at ih
      rw [← eX, ← es]
      have hc : low (fl1 (X ++ [s]) w) 0 (X ++ [s]) X.length = low (fl1 X w) 0 X X.length := low_cong _ (fun i hi => ⟨by rw [fl1, fl1, sg_lt hi], sg_lt hi⟩)
      have s1 : s 1 = sg L n 1 := by rw [es]; rfl
      have s2 : s 2 = sg L n 2 - flo L fl n := by rw [es]; rfl
      have f1 : fl1 (X ++ [s]) w X.length = if sg L n 1 = w then 3 else 0 := by rw [fl1, sg_len, s1]
      have len : (X ++ [s]).length = X.length + 1 := by simp
      have hel : lowS (fl1 (X ++ [s]) w) 0 (X ++ [s]) X.length = lowS (flo L (fl ||| 2 ^ w)) 0 L n := by
        funext k
        simp only [lowS]
        rw [f1, e1, sg_len, s2]
        by_cases k2 : k = 2
        · subst k2
          simp only [if_true]
          by_cases q : sg L n 1 = w
          · simp [q, e0 q]
          · simp [q]
        · by_cases k4 : k = 4
          · subst k4
            simp [es, lowS]
          · simp [k2, k4, es, lowS]
      rw [len]
      by_cases q : sg L n 1 = w
      · have z0 := e0 q
        rw [if_pos q] at e1 f1
        by_cases d : 3 < sg L n 2
        · rw [low_y (by rw [f1, sg_len, s2, z0]; exact d), low_y (by rw [e1]; exact d), hc, ih, hel]
        · rw [low_n (by rw [f1, sg_len, s2, z0]; exact d), low_n (by rw [e1]; exact d), hc, ih]
      · rw [if_neg q] at e1 f1
        rw [low_y (by rw [f1, sg_len, s2]; omega), low_y (by rw [e1]; exact c), hc, ih, hel]
    · rw [low_n c, ih, low_n]
      rw [e1]
      split
      · rename_i q
        have := e0 q
        omega
      · exact c
theorem low_id {lo : Nat → Nat} {L : List Sg} : ∀ n, n ≤ L.length → (∀ i, i < n → lo i = 0 ∧ 0 < sg L i 2) → low lo 0 L n = L.take n
  | 0, _, _ => by rw [low, List.take_zero]
  | n + 1, hn, h => by
    have h1 := h n (by omega)
    rw [low_y (by omega), low_id n (by omega) (fun i hi => h i (by omega)), ← List.take_append_getElem (show n < L.length by omega)]
    have e : lowS lo 0 L n = L[n] := by
      have e2 : sg L n = L[n] := by simp [sg, List.getD_eq_getElem?_getD, List.getElem?_eq_getElem (show n < L.length by omega)]
      rw [← e2]
      funext k
      simp only [lowS, h1.1]
      by_cases k2 : k = 2
      · subst k2; simp
      · by_cases k4 : k = 4
        · subst k4; simp
        · simp [k2, k4]
    rw [e]
theorem flood_0 {W A : Nat} {L : List Sg} (h : okL W A L) : floodL 0 L = L := by
  rw [floodL_e, low_id _ (Nat.le_refl _) (fun i hi => ⟨by rw [flo, Nat.zero_testBit]; rfl, by have := (h.2 i hi).2.2.1; omega⟩), List.take_length]
/-- the wells of one year, one by one or at once -/
theorem rw_0 {li r W A : Nat} {Y : List Sg} {s0 : Int64} (h : okL W A Y) : (rwF li r 0 (Y, s0)).1 = floodL 0 Y ∧ (rwF li r 0 (Y, s0)).2 = s0 := ⟨(flood_0 h).symm, rfl⟩
theorem rw_lid {li r w : Nat} {z : List Sg × Int64} (h : li.testBit w = true) : rwF li r (w + 1) z = rwF li r w z := by
  show (if li.testBit w = true then _ else _) = _
  rw [if_pos h]
theorem rw_dry {li r w fl : Nat} {Y : List Sg} {s0 : Int64} (h : ¬ li.testBit w = true) (e : (rwF li r w (Y, s0)).1 = floodL fl Y) (hb : ¬ flB (seedN (rwF li r w (Y, s0)).2) r = true) : (rwF li r (w + 1) (Y, s0)).1 = floodL fl Y ∧ (rwF li r (w + 1) (Y, s0)).2 = seedN (rwF li r w (Y, s0)).2 := by
  have e2 : rwF li r (w + 1) (Y, s0) = ((rwF li r w (Y, s0)).1, seedN (rwF li r w (Y, s0)).2) := by
    show (if li.testBit w = true then _ else _) = _
    rw [if_neg h, if_neg hb]
  rw [e2]
  exact ⟨e, rfl⟩
theorem rw_wet {li r w fl : Nat} {Y : List Sg} {s0 : Int64} (h : ¬ li.testBit w = true) (e : (rwF li r w (Y, s0)).1 = floodL fl Y) (hf : fl < 2 ^ w) (hb : flB (seedN (rwF li r w (Y, s0)).2) r = true) : (rwF li r (w + 1) (Y, s0)).1 = floodL (fl ||| 2 ^ w) Y ∧ (rwF li r (w + 1) (Y, s0)).2 = seedN (rwF li r w (Y, s0)).2 := by
  have e2 : rwF li r (w + 1) (Y, s0) = (low (fl1 (rwF li r w (Y, s0)).1 w) 0 (rwF li r w (Y, s0)).1 (rwF li r w (Y, s0)).1.length, seedN (rwF li r w (Y, s0)).2) := by
    show (if li.testBit w = true then _ else _) = _
    rw [if_neg h, if_pos hb]
  rw [e2]
  refine ⟨?_, rfl⟩
  show low (fl1 (rwF li r w (Y, s0)).1 w) 0 (rwF li r w (Y, s0)).1 (rwF li r w (Y, s0)).1.length = _
  rw [e, floodL_e, floodL_e, flood_two (Nat.testBit_lt_two_pow hf)]
theorem or_pw {fl w : Nat} (h : fl < 2 ^ w) : fl ||| 2 ^ w < 2 ^ (w + 1) := Nat.or_lt_two_pow (Nat.lt_of_lt_of_le h (Nat.pow_le_pow_right (by omega) (by omega))) (Nat.pow_lt_pow_right (by omega) (by omega))
theorem lt_pw {fl w : Nat} (h : fl < 2 ^ w) : fl < 2 ^ (w + 1) := Nat.lt_of_lt_of_le h (Nat.pow_le_pow_right (by omega) (by omega))
/-! sums over all sets of wells -/
def prN (g : Nat → Nat) : Nat → Nat
  | 0 => 1
  | n + 1 => prN g n * g n
theorem prN_cong {g g' : Nat → Nat} : ∀ {n : Nat}, (∀ i, i < n → g i = g' i) → prN g n = prN g' n
  | 0, _ => rfl
  | n + 1, h => by rw [prN, prN, prN_cong (fun i hi => h i (by omega)), h n (by omega)]
theorem prN_mul {a b : Nat → Nat} : ∀ {n : Nat}, prN (fun w => a w * b w) n = prN a n * prN b n
  | 0 => rfl
  | n + 1 => by
    rw [prN, prN, prN, prN_mul]
    simp only [Nat.mul_comm, Nat.mul_left_comm, Nat.mul_assoc]
theorem prN_0 {g : Nat → Nat} : ∀ {n i : Nat}, i < n → g i = 0 → prN g n = 0
  | 0, i, h, _ => absurd h (Nat.not_lt_zero i)
  | n + 1, i, h, e => by
    rw [prN]
    rcases Nat.lt_or_ge i n with q | q
    · rw [prN_0 q e, Nat.zero_mul]
    · rw [show n = i by omega, e, Nat.mul_zero]
theorem prN_pos {g : Nat → Nat} : ∀ {n : Nat}, (∀ i, i < n → 0 < g i) → 0 < prN g n
  | 0, _ => Nat.one_pos
  | n + 1, h => by
    rw [prN]
    exact Nat.mul_pos (prN_pos (fun i hi => h i (by omega))) (h n (by omega))
theorem prN_le {g : Nat → Nat} {c : Nat} : ∀ {n : Nat}, (∀ i, i < n → g i ≤ c) → prN g n ≤ c ^ n
  | 0, _ => Nat.le_refl 1
  | n + 1, h => by
    rw [prN, Nat.pow_succ]
    exact Nat.mul_le_mul (prN_le (fun i hi => h i (by omega))) (h n (by omega))
theorem suN_app {g : Nat → Nat} {m : Nat} : ∀ n, suN g (m + n) = suN g m + suN (fun i => g (m + i)) n
  | 0 => rfl
  | n + 1 => by
    rw [← Nat.add_assoc, suN, suN_app n, suN, Nat.add_assoc]
theorem suN_mul {g : Nat → Nat} {c : Nat} : ∀ {n : Nat}, suN (fun i => g i * c) n = suN g n * c
  | 0 => by simp [suN]
  | n + 1 => by rw [suN, suN, suN_mul, Nat.add_mul]
theorem suN_sum {g g' : Nat → Nat} : ∀ {n : Nat}, suN (fun i => g i + g' i) n = suN g n + suN g' n
  | 0 => rfl
  | n + 1 => by
    rw [suN, suN, suN, suN_sum]
    omega
theorem su_pr {a b : Nat → Nat} : ∀ W, suN (fun s => prN (fun w => if s.testBit w = true then b w else a w) W) (2 ^ W) = prN (fun w => a w + b w) W
  | 0 => rfl
  | W + 1 => by
    rw [Nat.pow_succ, Nat.mul_two, suN_app, prN, Nat.mul_add]
    have h1 : ∀ s, s < 2 ^ W → prN (fun w => if s.testBit w = true then b w else a w) (W + 1) = prN (fun w => if s.testBit w = true then b w else a w) W * a W := fun s hs => by
      rw [prN, Nat.testBit_lt_two_pow hs]; rfl
    have h2 : ∀ s, s < 2 ^ W → prN (fun w => if (2 ^ W + s).testBit w = true then b w else a w) (W + 1) = prN (fun w => if s.testBit w = true then b w else a w) W * b W := fun s hs => by
      rw [prN, Nat.testBit_two_pow_add_eq, Nat.testBit_lt_two_pow hs]
      rw [prN_cong (g' := fun w => if s.testBit w = true then b w else a w) (fun i hi => by rw [Nat.testBit_two_pow_add_gt hi])]
      rfl
    rw [suN_cong h1, suN_cong h2, suN_mul, suN_mul, su_pr W]
/-! the chance: by all floods, or by the wells that have the law -/
def allN (li W : Nat) : Nat := prN (fun w => if li.testBit w = true then 1 else 10) W
def byN (li r s W : Nat) : Nat := prN (fun w => if li.testBit w = true then 1 else if s.testBit w = true then r else 10 - r) W
def rsT (li r W : Nat) (L : List Sg) (a s : Nat) : Nat := if s &&& li = 0 then (if (lawsN (floodL s L)).testBit a = true then byN li r s W else 0) else 0
def rsN (li r W : Nat) (L : List Sg) (a n : Nat) : Nat := suN (rsT li r W L a) n
theorem by_e {li r s W : Nat} (hs : s < 2 ^ W) : (if s &&& li = 0 then byN li r s W else 0) = prN (fun w => if s.testBit w = true then (if li.testBit w = true then 0 else r) else (if li.testBit w = true then 1 else 10 - r)) W := by
  by_cases c : s &&& li = 0
  · rw [if_pos c, byN]
    refine prN_cong fun w hw => ?_
    have hb : ¬ (s.testBit w = true ∧ li.testBit w = true) := fun z => by
      have := congrArg (fun q => Nat.testBit q w) c
      simp only [Nat.testBit_and, Nat.zero_testBit, z.1, z.2] at this
      cases this
    by_cases d : li.testBit w = true
    · have e : ¬ s.testBit w = true := fun z => hb ⟨z, d⟩
      simp [d, e]
    · simp [d]
  · rw [if_neg c]
    obtain ⟨w, hw⟩ := Nat.exists_testBit_of_ne_zero c
    rw [Nat.testBit_and, Bool.and_eq_true] at hw
    have hwW : w < W := Classical.byContradiction fun z => by
      have := Nat.testBit_lt_two_pow (Nat.lt_of_lt_of_le hs (Nat.pow_le_pow_right (by omega) (show W ≤ w by omega)))
      rw [this] at hw
      cases hw.1
    exact (prN_0 hwW (by rw [if_pos hw.1, if_pos hw.2])).symm
theorem laws_bit {L : List Sg} {a : Nat} : (lawsN L).testBit a = true ↔ ∃ i, i < L.length ∧ sg L i 0 = a := by
  rw [lawsN, orN_bit]
  constructor
  · rintro ⟨i, h1, h2⟩; exact ⟨i, h1, pw_bit.mp h2⟩
  · rintro ⟨i, h1, h2⟩; exact ⟨i, h1, pw_bit.mpr h2⟩
theorem low_law {lo : Nat → Nat} {L : List Sg} {a : Nat} : ∀ n, (∃ j, j < (low lo 0 L n).length ∧ sg (low lo 0 L n) j 0 = a) ↔ ∃ i, i < n ∧ lo i < sg L i 2 ∧ sg L i 0 = a
  | 0 => ⟨fun ⟨j, h, _⟩ => absurd h (Nat.not_lt_zero j), fun ⟨i, h, _⟩ => absurd h (Nat.not_lt_zero i)⟩
  | n + 1 => by
    have ih := low_law (lo := lo) (L := L) (a := a) n
    by_cases c : lo n < sg L n 2
    · rw [low_y c]
      constructor
      · rintro ⟨j, h1, h2⟩
        simp only [List.length_append, List.length_singleton] at h1
        rcases Nat.lt_or_ge j (low lo 0 L n).length with q | q
        · rw [sg_lt q] at h2
          obtain ⟨i, a1, a2, a3⟩ := ih.mp ⟨j, q, h2⟩
          exact ⟨i, by omega, a2, a3⟩
        · rw [show j = (low lo 0 L n).length by omega, sg_len] at h2
          exact ⟨n, by omega, c, h2⟩
      · rintro ⟨i, h1, h2, h3⟩
        rcases Nat.lt_or_ge i n with q | q
        · obtain ⟨j, a1, a2⟩ := ih.mpr ⟨i, q, h2, h3⟩
          exact ⟨j, by simp only [List.length_append, List.length_singleton]; omega, by rw [sg_lt a1]; exact a2⟩
        · obtain rfl : i = n := by omega
          exact ⟨(low lo 0 L i).length, by simp, by rw [sg_len]; exact h3⟩
    · rw [low_n c, ih]
      constructor
      · rintro ⟨i, a1, a2, a3⟩; exact ⟨i, by omega, a2, a3⟩
      · rintro ⟨i, a1, a2, a3⟩
        rcases Nat.lt_or_ge i n with q | q
        · exact ⟨i, q, a2, a3⟩
        · obtain rfl : i = n := by omega
          exact absurd a2 c
theorem alive_i {L : List Sg} {s a : Nat} : (lawsN (floodL s L)).testBit a = true ↔ ∃ i, i < L.length ∧ flo L s i < sg L i 2 ∧ sg L i 0 = a := by
  rw [laws_bit, floodL_e, low_law]
/-- a well has the law -/
def hasW (L : List Sg) (a w : Nat) : Bool := (orN (bitN L (orN (sing1 L w) L.length)) L.length).testBit a
theorem hasW_i {L : List Sg} {a w : Nat} : hasW L a w = true ↔ ∃ i, i < L.length ∧ sg L i 1 = w ∧ sg L i 0 = a := by
  have h1 : ∀ i, i < L.length → ((orN (sing1 L w) L.length).testBit i = true ↔ sg L i 1 = w) := fun i hi => by
    rw [orN_bit]
    constructor
    · rintro ⟨j, hj, h⟩
      rw [sing1] at h
      split at h
      · rename_i e
        rw [pw_bit] at h
        subst h
        exact e
      · rw [Nat.zero_testBit] at h; cases h
    · intro e
      exact ⟨i, hi, by rw [sing1, if_pos e, pw_bit]⟩
  rw [hasW, orN_bit]
  constructor
  · rintro ⟨i, hi, h⟩
    rw [bitN] at h
    split at h
    · rename_i e
      have hb : (orN (sing1 L w) L.length).testBit i = true := by
        cases q : (orN (sing1 L w) L.length).testBit i with
        | true => rfl
        | false => rw [q] at e; cases e
      exact ⟨i, hi, (h1 i hi).mp hb, pw_bit.mp h⟩
    · rw [Nat.zero_testBit] at h; cases h
  · rintro ⟨i, hi, e1, e2⟩
    refine ⟨i, hi, ?_⟩
    rw [bitN, (h1 i hi).mpr e1]
    show (2 ^ sg L i 0).testBit a = true
    exact pw_bit.mpr e2
theorem rnF_e {L : List Sg} {a r : Nat} : ∀ W, rnF L a r W = (prN (fun w => if hasW L a w = true then 10 else 1) W, prN (fun w => if hasW L a w = true then r else 1) W)
  | 0 => rfl
  | W + 1 => by
    show (if hasW L a W = true then ((rnF L a r W).1 * 10, (rnF L a r W).2 * r) else rnF L a r W) = _
    rw [rnF_e W, prN, prN]
    by_cases c : hasW L a W = true
    · rw [if_pos c, if_pos c, if_pos c]
    · rw [if_neg c, if_neg c, if_neg c, Nat.mul_one, Nat.mul_one]
theorem rs_safe {li r W A a : Nat} {L : List Sg} (h : okL W A L) (hr : r ≤ 10) (hs : anyN (safeB L li a) L.length = true) : rsN li r W L a (2 ^ W) = allN li W := by
  obtain ⟨i, hi, hb⟩ := anyN_iff.mp hs
  rw [safeB, Bool.and_eq_true, Bool.or_eq_true, decide_eq_true_eq, decide_eq_true_eq] at hb
  have h2 := (h.2 i hi).2.2.1
  have e : ∀ s, s < 2 ^ W → rsT li r W L a s = prN (fun w => if s.testBit w = true then (if li.testBit w = true then 0 else r) else (if li.testBit w = true then 1 else 10 - r)) W := fun s hs => by
    rw [← by_e hs, rsT]
    by_cases c : s &&& li = 0
    · rw [if_pos c, if_pos c, if_pos]
      refine alive_i.mpr ⟨i, hi, ?_, hb.1⟩
      rw [flo]
      rcases hb.2 with q | q
      · rw [if_neg]
        · omega
        · intro z
          have := congrArg (fun q => Nat.testBit q (sg L i 1)) c
          simp only [Nat.testBit_and, Nat.zero_testBit, z, q] at this
          cases this
      · split <;> omega
    · rw [if_neg c, if_neg c]
  rw [rsN, suN_cong e, su_pr, allN]
  refine prN_cong fun w _ => ?_
  by_cases c : li.testBit w = true
  · rw [if_pos c, if_pos c, if_pos c]
  · rw [if_neg c, if_neg c, if_neg c]; omega
theorem rs_else {li r W A a : Nat} {L : List Sg} (h : okL W A L) (hr : r ≤ 10) (hs : ¬ anyN (safeB L li a) L.length = true) :
    ∃ c, 0 < c ∧ allN li W = c * (rnF L a r W).1 ∧ rsN li r W L a (2 ^ W) = c * ((rnF L a r W).1 - (rnF L a r W).2) := by
  have hun : ∀ i, i < L.length → sg L i 0 = a → ¬ li.testBit (sg L i 1) = true ∧ sg L i 2 ≤ 3 := fun i hi e => by
    have hn : ¬ safeB L li a i = true := fun q => hs (anyN_iff.mpr ⟨i, hi, q⟩)
    rw [safeB, Bool.and_eq_true, Bool.or_eq_true, decide_eq_true_eq, decide_eq_true_eq] at hn
    exact ⟨fun q => hn ⟨e, Or.inl q⟩, by
      rcases Nat.lt_or_ge 3 (sg L i 2) with q | q
      · exact absurd ⟨e, Or.inr q⟩ hn
      · exact q⟩
  have hli : ∀ w, hasW L a w = true → ¬ li.testBit w = true := fun w q => by
    obtain ⟨i, hi, e1, e2⟩ := hasW_i.mp q
    rw [← e1]
    exact (hun i hi e2).1
  have hal : ∀ s, (lawsN (floodL s L)).testBit a = true ↔ ∃ w, w < W ∧ hasW L a w = true ∧ ¬ s.testBit w = true := fun s => by
    rw [alive_i]
    constructor
    · rintro ⟨i, hi, h1, h2⟩
      have h3 := (hun i hi h2).2
      refine ⟨sg L i 1, (h.2 i hi).2.1, hasW_i.mpr ⟨i, hi, rfl, h2⟩, fun z => ?_⟩
      rw [flo, if_pos z] at h1
      omega
    · rintro ⟨w, hw, h1, h2⟩
      obtain ⟨i, hi, e1, e2⟩ := hasW_i.mp h1
      have h3 := (h.2 i hi).2.2.1
      exact ⟨i, hi, by rw [flo, e1, if_neg h2]; omega, e2⟩
  -- what is alive, and what isn't
  have e : ∀ s, s < 2 ^ W → rsT li r W L a s + prN (fun w => if s.testBit w = true then (if li.testBit w = true then 0 else r) else (if hasW L a w = true then 0 else if li.testBit w = true then 1 else 10 - r)) W = prN (fun w => if s.testBit w = true then (if li.testBit w = true then 0 else r) else (if li.testBit w = true then 1 else 10 - r)) W := fun s hs => by
    rw [← by_e hs, rsT]
    by_cases d : (lawsN (floodL s L)).testBit a = true
    · rw [if_pos d]
      obtain ⟨w, hw, h1, h2⟩ := (hal s).mp d
      rw [prN_0 hw (by rw [if_neg h2, if_pos h1]), Nat.add_zero]
    · rw [if_neg d, by_e hs]
      have e0 : (if s &&& li = 0 then 0 else 0) = 0 := by split <;> rfl
      rw [e0, Nat.zero_add]
      refine prN_cong fun w hw => ?_
      by_cases c : s.testBit w = true
      · rw [if_pos c, if_pos c]
      · rw [if_neg c, if_neg c, if_neg (fun z => d ((hal s).mpr ⟨w, hw, z, c⟩))]
  have e2 : rsN li r W L a (2 ^ W) + prN (fun w => (if hasW L a w = true then 0 else if li.testBit w = true then 1 else 10 - r) + (if li.testBit w = true then 0 else r)) W = allN li W := by
    rw [rsN, ← su_pr, ← suN_sum, suN_cong e, su_pr, allN]
    refine prN_cong fun w _ => ?_
    by_cases c : li.testBit w = true
    · rw [if_pos c, if_pos c, if_pos c]
    · rw [if_neg c, if_neg c, if_neg c]; omega
  refine ⟨prN (fun w => if li.testBit w = true then 1 else if hasW L a w = true then 1 else 10) W, prN_pos (fun w _ => by split <;> (try split) <;> omega), ?_, ?_⟩
  · rw [rnF_e, ← prN_mul, allN]
    refine prN_cong fun w _ => ?_
    by_cases c : li.testBit w = true
    · rw [if_pos c, if_pos c, if_neg (fun z => hli w z c)]
    · rw [if_neg c, if_neg c]
      by_cases d : hasW L a w = true
      · rw [if_pos d, if_pos d]
      · rw [if_neg d, if_neg d]
  · have e3 : prN (fun w => (if hasW L a w = true then 0 else if li.testBit w = true then 1 else 10 - r) + (if li.testBit w = true then 0 else r)) W = prN (fun w => if li.testBit w = true then 1 else if hasW L a w = true then 1 else 10) W * (rnF L a r W).2 := by
      rw [rnF_e, ← prN_mul]
      refine prN_cong fun w _ => ?_
      by_cases c : li.testBit w = true
      · rw [if_pos c, if_pos c, if_pos c, if_neg (fun z => hli w z c), if_neg (fun z => hli w z c)]
      · rw [if_neg c, if_neg c, if_neg c]
        by_cases d : hasW L a w = true
        · rw [if_pos d, if_pos d, if_pos d]; omega
        · rw [if_neg d, if_neg d, if_neg d]; omega
    have e4 : allN li W = prN (fun w => if li.testBit w = true then 1 else if hasW L a w = true then 1 else 10) W * (rnF L a r W).1 := by
      rw [rnF_e, ← prN_mul, allN]
      refine prN_cong fun w _ => ?_
      by_cases c : li.testBit w = true
      · rw [if_pos c, if_pos c, if_neg (fun z => hli w z c)]
      · rw [if_neg c, if_neg c]
        by_cases d : hasW L a w = true
        · rw [if_pos d, if_pos d]
        · rw [if_neg d, if_neg d]
    rw [e3, e4] at e2
    rw [Nat.mul_sub]
    omega
theorem allN_b {li W : Nat} : 0 < allN li W ∧ allN li W ≤ 10 ^ W := ⟨prN_pos (fun w _ => by split <;> omega), prN_le (fun w _ => by split <;> omega)⟩
theorem byN_b {li r s W : Nat} (hr : r ≤ 10) : byN li r s W ≤ 10 ^ W := prN_le (fun w _ => by split <;> (try split) <;> omega)
theorem rsN_b {li r W n a : Nat} {L : List Sg} (hr : r ≤ 10) : rsN li r W L a n ≤ n * 10 ^ W := suN_le fun s _ => by
  have := byN_b (li := li) (s := s) (W := W) hr
  rw [rsT]
  split
  · split
    · exact this
    · exact Nat.zero_le _
  · exact Nat.zero_le _
theorem rain_end {li r W A a : Nat} {L : List Sg} {up : Bool} (h : okL W A L) (hr : r ≤ 10) (ha : a ≤ 5) :
    nI ((if up = true then rsN li r W L a (2 ^ W) else allN li W) / Nat.gcd (rsN li r W L a (2 ^ W)) (allN li W)) = rainI W li L (nI a) (nI r) up := by
  rw [rainI, if_pos (show inB (nI a) (nI 0) (nI 5) = true ∧ inB (nI r) (nI 0) (nI 10) = true from ⟨inB_n (a := 0) (by omega) (Nat.zero_le _) ha, inB_n (a := 0) (by omega) (Nat.zero_le _) hr⟩), cl_n (by omega), cl_n (by omega)]
  by_cases c : anyN (safeB L li a) L.length = true
  · rw [if_pos c, rs_safe h hr c]
    have := (allN_b (li := li) (W := W)).1
    congr 1
    rw [Nat.gcd_self]
    split <;> exact Nat.div_self this
  · rw [if_neg c]
    obtain ⟨k, hk, e1, e2⟩ := rs_else h hr c
    show _ = nI ((if up = true then (rnF L a r W).1 - (rnF L a r W).2 else (rnF L a r W).1) / Nat.gcd (rnF L a r W).1 ((rnF L a r W).1 - (rnF L a r W).2))
    congr 1
    rw [e1, e2, Nat.gcd_mul_left, Nat.gcd_comm]
    split
    · exact Nat.mul_div_mul_left _ _ hk
    · exact Nat.mul_div_mul_left _ _ hk
