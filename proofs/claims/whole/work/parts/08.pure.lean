/-! THE SONGS' METHODS, as pure facts -/
theorem upd_s {f : Nat → Int32} {k : Nat} {x : Int32} : upd f k x k = x := by simp [upd]
theorem upd_n {f : Nat → Int32} {k j : Nat} {x : Int32} (h : j ≠ k) : upd f k x j = f j := by simp [upd, h]
def sing1 (L : List Sg) (w : Nat) (i : Nat) : Nat := if sg L i 1 = w then 2 ^ i else 0
def bitN (L : List Sg) (bits : Nat) (i : Nat) : Nat := if (bits.testBit i).toNat = 1 then 2 ^ sg L i 0 else 0
def copy1 (L : List Sg) (a p : Nat) (i : Nat) : Nat := if sg L i 0 = a then (if sg L i 3 = p then 1 else 0) else 0
theorem lawsOf_all (L : List Sg) : orN (bitN L (2 ^ L.length - 1)) L.length = lawsN L := by
  refine orN_cong fun i hi => ?_
  rw [bitN, Nat.testBit_two_pow_sub_one]
  simp [hi]
theorem bitN_lt {W A bits n : Nat} {L : List Sg} (h : okL W A L) (hn : n ≤ L.length) : orN (bitN L bits) n < 64 :=
  orN_lt (k := 6) fun i hi => by
    rw [bitN]
    split
    · exact Nat.pow_lt_pow_right (by omega) (h.2 i (by omega)).1
    · decide
theorem sing1_lt {w n : Nat} {L : List Sg} (hn : n ≤ 8) : orN (sing1 L w) n < 256 :=
  orN_lt (k := 8) fun i hi => by
    rw [sing1]
    split
    · exact Nat.pow_lt_pow_right (by omega) (by omega)
    · decide
def anyN (g : Nat → Bool) : Nat → Bool
  | 0 => false
  | n + 1 => anyN g n || g n
theorem anyN_t {g : Nat → Bool} {i : Nat} (h : g i = true) : ∀ {n : Nat}, i < n → anyN g n = true
  | 0, h0 => absurd h0 (Nat.not_lt_zero i)
  | n + 1, h0 => by
    rw [anyN]
    rcases Nat.lt_or_ge i n with q | q
    · rw [anyN_t h q]; rfl
    · rw [show n = i by omega, h, Bool.or_true]
theorem anyN_iff {g : Nat → Bool} : ∀ {n : Nat}, anyN g n = true ↔ ∃ i, i < n ∧ g i = true
  | 0 => by simp [anyN]
  | n + 1 => by
    rw [anyN, Bool.or_eq_true, anyN_iff]
    constructor
    · rintro (⟨i, h1, h2⟩ | h)
      · exact ⟨i, by omega, h2⟩
      · exact ⟨n, by omega, h⟩
    · rintro ⟨i, h1, h2⟩
      rcases Nat.lt_or_ge i n with q | q
      · exact Or.inl ⟨i, q, h2⟩
      · exact Or.inr (show n = i by omega ▸ h2)
def safeB (L : List Sg) (li a : Nat) (i : Nat) : Bool := decide (sg L i 0 = a) && (li.testBit (sg L i 1) || decide (3 < sg L i 2))
def nxt (w side : Nat) : Int32 := if side = 0 then nI w - nI 1 else nI (w + 1)
def way (W li w side : Nat) : Bool := hasB (nxt w side) W && (!li.testBit w && !li.testBit (nxt w side).toNatClampNeg)
/-- a song out of its numbers, of age 0 -/
def mkS (a w v p q : Nat) : Sg := fun k => if k = 0 then a else if k = 1 then w else if k = 2 then v else if k = 3 then p else if k = 4 then 0 else q
theorem hs_add {f : Nat → Int32} {L : List Sg} (h : hs f L) (a w v p q : Nat) : hs (upd (upd (upd (upd (upd (upd f (L.length * 6 + 0) (nI a)) (L.length * 6 + 1) (nI w)) (L.length * 6 + 2) (nI v)) (L.length * 6 + 3) (nI p)) (L.length * 6 + 4) (nI 0)) (L.length * 6 + 5) (nI q)) (L ++ [mkS a w v p q]) := by
  intro i k hi hk
  simp only [List.length_append, List.length_singleton] at hi
  rcases Nat.lt_or_ge i L.length with c | c
  · rw [sg_lt c, ← h i k c hk]
    simp only [upd]
    repeat' rw [if_neg (by omega)]
  · obtain rfl : i = L.length := by omega
    rw [sg_len]
    have : k = 0 ∨ k = 1 ∨ k = 2 ∨ k = 3 ∨ k = 4 ∨ k = 5 := by omega
    rcases this with rfl | rfl | rfl | rfl | rfl | rfl <;> simp [upd, mkS]
def slipN (st : Nat → Nat) (L : List Sg) (s : Nat) : Nat := min (sg L s 5 + (if st (sg L s 1) = 2 then 1 else 0)) 9
def sungL (st : Nat → Nat) (L : List Sg) (s j v p : Nat) : List Sg := L ++ [mkS (sg L s 0) j v p (slipN st L s)]
/-- after the wearing, before the dropping -/
def worn (f : Nat → Int32) (L : List Sg) (lo : Nat → Nat) : Prop := ∀ i k, i < L.length → k < 6 → f (i * 6 + k) = if k = 2 then nI (sg L i 2) - nI (lo i) else nI (sg L i k)
theorem sub_pos {a b : Nat} (ha : a < 2 ^ 30) (hb : b < 2 ^ 30) : nI a - nI b ≤ 0 ↔ ¬ b < a := by
  rw [Int32.le_iff_toInt_le, pk_sub_toInt ha hb]
  show (a : Int) - b ≤ 0 ↔ _
  omega
theorem sub_pos' {a b : Nat} (ha : a < 2 ^ 30) (hb : b < 2 ^ 30) : 0 < nI a - nI b ↔ b < a := by
  rw [Int32.lt_iff_toInt_lt, pk_sub_toInt ha hb]
  show 0 < (a : Int) - b ↔ _
  omega
def lowS (lo : Nat → Nat) (ag : Nat) (L : List Sg) (i : Nat) : Sg := fun k => if k = 2 then sg L i 2 - lo i else if k = 4 then sg L i 4 + ag else sg L i k
theorem low_y {lo : Nat → Nat} {ag i : Nat} {L : List Sg} (h : lo i < sg L i 2) : low lo ag L (i + 1) = low lo ag L i ++ [lowS lo ag L i] := by rw [low, if_pos h]; rfl
theorem low_n {lo : Nat → Nat} {ag i : Nat} {L : List Sg} (h : ¬ lo i < sg L i 2) : low lo ag L (i + 1) = low lo ag L i := by rw [low, if_neg h]
/-- one more song is moved up -/
theorem hs_snoc {g : Nat → Int32} {L : List Sg} {s : Sg} (h : hs g L) (hn : ∀ k, k < 6 → g (L.length * 6 + k) = nI (s k)) : hs g (L ++ [s]) := by
  intro i k hi hk
  simp only [List.length_append, List.length_singleton] at hi
  rcases Nat.lt_or_ge i L.length with c | c
  · rw [sg_lt c, h i k c hk]
  · obtain rfl : i = L.length := by omega
    rw [sg_len, hn k hk]
theorem hs_upd {g : Nat → Int32} {L : List Sg} {j : Nat} {x : Int32} (h : hs g L) (hj : L.length * 6 ≤ j) : hs (upd g j x) L := by
  intro i k hi hk
  rw [upd_n (by omega), h i k hi hk]
theorem low_age {lo : Nat → Nat} {L : List Sg} : ∀ n, (low lo 1 L n).length = (low lo 0 L n).length ∧ ∀ j k, j < (low lo 0 L n).length → sg (low lo 1 L n) j k = if k = 4 then sg (low lo 0 L n) j 4 + 1 else sg (low lo 0 L n) j k
  | 0 => ⟨rfl, fun j k h => absurd h (Nat.not_lt_zero j)⟩
  | n + 1 => by
    obtain ⟨h1, h2⟩ := low_age (lo := lo) (L := L) n
    by_cases c : lo n < sg L n 2
    · rw [low_y c, low_y c]
      refine ⟨by simp [h1], fun j k hj => ?_⟩
      simp only [List.length_append, List.length_singleton] at hj
      rcases Nat.lt_or_ge j (low lo 0 L n).length with q | q
      · rw [sg_lt (by omega), sg_lt q, h2 j k q]
      · obtain rfl : j = (low lo 0 L n).length := by omega
        rw [sg_len, ← h1, sg_len]
        simp only [lowS]
        by_cases k2 : k = 2
        · subst k2; simp
        · by_cases k4 : k = 4
          · subst k4; simp
          · simp [k2, k4]
    · rw [low_n c, low_n c]
      exact ⟨h1, h2⟩
/-- the ages of the first i are one more -/
def aged (g : Nat → Int32) (M : List Sg) (i : Nat) : Prop := ∀ j k, j < M.length → k < 6 → g (j * 6 + k) = nI (if k = 4 then (if j < i then sg M j 4 + 1 else sg M j 4) else sg M j k)
theorem aged_0 {g : Nat → Int32} {M : List Sg} (h : hs g M) : aged g M 0 := by
  intro j k hj hk
  rw [h j k hj hk]
  congr 1
  by_cases k4 : k = 4
  · subst k4; simp
  · simp [k4]
theorem aged_s {g : Nat → Int32} {M : List Sg} {i : Nat} (h : aged g M i) (hi : i < M.length) : aged (upd g (i * 6 + 4) (nI (sg M i 4 + 1))) M (i + 1) := by
  intro j k hj hk
  by_cases c : j * 6 + k = i * 6 + 4
  · obtain ⟨rfl, rfl⟩ : j = i ∧ k = 4 := by omega
    rw [upd_s]; simp
  · rw [upd_n c, h j k hj hk]
    congr 1
    by_cases k4 : k = 4
    · subst k4
      have : (j < i) = (j < i + 1) := propext ⟨fun q => by omega, fun q => by omega⟩
      simp only [this]
    · simp [k4]
theorem aged_n {g : Nat → Int32} {lo : Nat → Nat} {L : List Sg} {n : Nat} (h : aged g (low lo 0 L n) (low lo 0 L n).length) : hs g (low lo 1 L n) := by
  intro j k hj hk
  obtain ⟨h1, h2⟩ := low_age (lo := lo) (L := L) n
  rw [h1] at hj
  rw [h j k hj hk, h2 j k hj]
  congr 1
  simp [hj]
/-! the crowds of the wells, four bits each -/
def keyN (L : List Sg) (i : Nat) : Nat := 4 * (sg L i 1 * 4 + sg L i 3)
def crowdN (L : List Sg) (n : Nat) : Nat := suN (fun i => 2 ^ keyN L i) n
theorem lshl1 : ∀ k, k < 64 → lN 1 <<< ((nI k).toInt64 &&& 63) = lN (2 ^ k) := by decide +kernel
theorem crowd_lt {L : List Sg} : ∀ n, (∀ i, i < n → keyN L i ≤ 60) → crowdN L n ≤ n * 2 ^ 60
  | 0, _ => by simp [crowdN, suN]
  | n + 1, h => by
    have h1 := crowd_lt (L := L) n (fun i hi => h i (by omega))
    have h2 : 2 ^ keyN L n ≤ 2 ^ 60 := Nat.pow_le_pow_right (by omega) (h n (by omega))
    have h3 : crowdN L (n + 1) = crowdN L n + 2 ^ keyN L n := rfl
    omega
/-- a nibble of a sum in which no nibble runs over -/
theorem nib_add {x i j : Nat} (hx : ∀ k, x / 16 ^ k % 16 < 15) : (x + 16 ^ i) / 16 ^ j % 16 = x / 16 ^ j % 16 + (if i = j then 1 else 0) := by
  have hi : 0 < 16 ^ i := Nat.pow_pos (by omega)
  have hj : 0 < 16 ^ j := Nat.pow_pos (by omega)
  rcases Nat.lt_trichotomy i j with c | c | c
  · rw [if_neg (by omega), Nat.add_zero]
    congr 1
    -- no carry below j
    have key : ∀ d x, (∀ k, x / 16 ^ k % 16 < 15) → (x + 1) / 16 ^ (d + 1) = x / 16 ^ (d + 1) := by
      intro d
      induction d with
      | zero =>
        intro x hx
        have := hx 0
        simp only [Nat.pow_zero, Nat.div_one] at this
        simp only [Nat.zero_add, Nat.pow_one]
        omega
      | succ d ih =>
        intro x hx
        rw [Nat.pow_succ' (n := d + 1), ← Nat.div_div_eq_div_mul, ← Nat.div_div_eq_div_mul]
        have h0 := hx 0
        simp only [Nat.pow_zero, Nat.div_one] at h0
        rw [show (x + 1) / 16 = x / 16 by omega]
    obtain ⟨d, rfl⟩ : ∃ d, j = i + (d + 1) := ⟨j - i - 1, by omega⟩
    rw [Nat.pow_add, ← Nat.div_div_eq_div_mul, ← Nat.div_div_eq_div_mul, Nat.add_div_right _ hi]
    refine key d (x / 16 ^ i) fun k => ?_
    rw [Nat.div_div_eq_div_mul, ← Nat.pow_add]
    exact hx (i + k)
  · subst c
    rw [if_pos rfl, Nat.add_div_right _ hi]
    have := hx i
    omega
  · rw [if_neg (by omega), Nat.add_zero]
    obtain ⟨d, rfl⟩ : ∃ d, i = j + (d + 1) := ⟨i - j - 1, by omega⟩
    rw [Nat.pow_add, Nat.add_mul_div_left _ _ hj, Nat.pow_succ]
    omega
theorem crowd_nib {L : List Sg} : ∀ n, n ≤ 8 → ∀ j, crowdN L n / 16 ^ j % 16 = suN (fun i => if sg L i 1 * 4 + sg L i 3 = j then 1 else 0) n
  | 0, _, j => by simp [crowdN, suN]
  | n + 1, h, j => by
    have ih := crowd_nib (L := L) n (by omega)
    have hle : ∀ k, crowdN L n / 16 ^ k % 16 < 15 := fun k => by
      rw [ih k]
      have := suN_le (g := fun i => if sg L i 1 * 4 + sg L i 3 = k then 1 else 0) (c := 1) (n := n) (fun i _ => by split <;> omega)
      omega
    have h3 : crowdN L (n + 1) = crowdN L n + 16 ^ (sg L n 1 * 4 + sg L n 3) := by
      show crowdN L n + 2 ^ keyN L n = _
      rw [keyN, Nat.pow_mul]
    rw [h3, nib_add hle, ih j, suN]
theorem crowd_same {W A : Nat} {L : List Sg} {s : Sg} (h : okL W A L) (hs : okS W A s) : crowdN L L.length / 2 ^ (4 * (s 1 * 4 + s 3)) % 2 ^ 4 = sameN L s := by
  rw [Nat.pow_mul]
  show crowdN L L.length / 16 ^ (s 1 * 4 + s 3) % 16 = _
  rw [crowd_nib _ h.1, sameN]
  refine suN_cong fun i hi => ?_
  obtain ⟨a0, a1, a2, a3, a4, a5, a6⟩ := h.2 i hi
  obtain ⟨b0, b1, b2, b3, b4, b5, b6⟩ := hs
  by_cases c : sg L i 1 = s 1 ∧ sg L i 3 = s 3
  · rw [if_pos c, if_pos (by omega)]
  · rw [if_neg c, if_neg (by omega)]
theorem same_le {W A : Nat} {L : List Sg} {s : Sg} (h : okL W A L) : sameN L s ≤ 8 := by
  have := suN_le (g := fun i => if sg L i 1 = s 1 ∧ sg L i 3 = s 3 then 1 else 0) (c := 1) (n := L.length) (fun i _ => by split <;> omega)
  have := h.1
  rw [sameN]
  omega
theorem suN_ge {g : Nat → Nat} : ∀ {n i : Nat}, i < n → g i ≤ suN g n
  | 0, i, h => absurd h (Nat.not_lt_zero i)
  | n + 1, i, h => by
    rw [suN]
    rcases Nat.lt_or_ge i n with q | q
    · have := suN_ge (g := g) q; omega
    · rw [show n = i by omega]; omega
theorem same_ge {L : List Sg} {i : Nat} (h : i < L.length) : 1 ≤ sameN L (sg L i) := by
  have := suN_ge (g := fun j => if sg L j 1 = sg L i 1 ∧ sg L j 3 = sg L i 3 then 1 else 0) h
  simp only [and_self, if_true] at this
  exact this
theorem loss_le {W A li : Nat} {st : Nat → Nat} {L : List Sg} {i : Nat} (h : okL W A L) (hst : ∀ w, w < W → st w ≤ 2) (hi : i < L.length) : lossN st li L i ≤ 10 := by
  have h1 := same_le (s := sg L i) h
  have h2 := hst _ (h.2 i hi).2.1
  rw [lossN]
  split <;> omega
