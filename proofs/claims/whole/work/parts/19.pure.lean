/-! lids by turns, divisors, the seed: pure -/
theorem max_n {a b : Nat} (ha : a < 2 ^ 31) (hb : b < 2 ^ 31) : (if nI a < nI b then nI b else nI a) = nI (max a b) := by
  by_cases c : a < b
  · rw [if_pos ((nI_ltI ha hb).mpr c)]; congr 1; omega
  · rw [if_neg (fun q => c ((nI_ltI ha hb).mp q))]; congr 1; omega
theorem mv_lt {q m : Nat} (hq : q < 16) (hm : m ≤ 4) : mvN q m < 16 := by
  rw [mvN]
  split
  · exact hq
  · have h1 : 2 ^ (m - 1) < 2 ^ 4 := Nat.pow_lt_pow_right (by omega) (by omega)
    exact Nat.xor_lt_two_pow (n := 4) hq h1
theorem lw0_le {ll W A q : Nat} {st : Nat → Nat} {L : List Sg} (h : okL W A L) : lw0 ll st W L q ≤ 6 := by
  rw [lw0]
  split
  · exact ll_le (years_ok h 4)
  · omega
theorem lwF_le {most : Bool} {f : Nat → Nat} {q c : Nat} (h : ∀ j, f j ≤ c) : ∀ m, lwF most f q m ≤ c
  | 0 => h q
  | m + 1 => by
    have h1 := lwF_le (most := most) (q := q) h m
    have h2 := h (mvN q (m + 1))
    rw [lwF, ext]
    split <;> omega
theorem lwT_le {most : Bool} {W : Nat} {f : Nat → Nat} {c : Nat} (h : ∀ j, f j ≤ c) (q : Nat) : lwT most W f q ≤ c := lwF_le h W
/-- Euclid's way halves the product -/
theorem euc_half {a b k : Nat} (hb : b ≠ 0) (hab : b ≤ a) (h : a * b * 2 ^ k ≤ 2 ^ 27) : b * (a % b) * 2 ^ (k + 1) ≤ 2 ^ 27 := by
  have h1 : 2 * (a % b) ≤ a := by
    have := Nat.mod_lt a (Nat.pos_of_ne_zero hb)
    rcases Nat.lt_or_ge (2 * (a % b)) (a + 1) with q | q
    · omega
    · have h2 := Nat.mod_add_div a b
      have h3 : 1 ≤ a / b := Nat.div_pos hab (Nat.pos_of_ne_zero hb)
      have h4 : b * 1 ≤ b * (a / b) := Nat.mul_le_mul_left b h3
      omega
  calc b * (a % b) * 2 ^ (k + 1) = b * (2 * (a % b)) * 2 ^ k := by rw [Nat.pow_succ]; simp only [Nat.mul_comm, Nat.mul_left_comm, Nat.mul_assoc]
    _ ≤ b * a * 2 ^ k := Nat.mul_le_mul_right _ (Nat.mul_le_mul_left _ h1)
    _ = a * b * 2 ^ k := by rw [Nat.mul_comm b a]
    _ ≤ 2 ^ 27 := h
theorem euc_end {a b k : Nat} (hab : b ≤ a) (hk : 100 ≤ k) (h : a * b * 2 ^ k ≤ 2 ^ 27) : b = 0 := by
  rcases Nat.eq_zero_or_pos b with q | q
  · exact q
  · exfalso
    have h1 : 1 ≤ a * b := Nat.mul_pos (by omega) q
    have h2 : 2 ^ 100 ≤ 2 ^ k := Nat.pow_le_pow_right (by omega) hk
    have h3 : 1 * 2 ^ k ≤ a * b * 2 ^ k := Nat.mul_le_mul_right _ h1
    have h4 : (2 : Nat) ^ 27 < 2 ^ 100 := by decide
    omega
theorem euc_0 {a b : Nat} (ha : a ≤ 10000) (hb : b ≤ 10000) : a * b * 2 ^ 0 ≤ 2 ^ 27 := by
  have h : a * b ≤ 10000 * 10000 := Nat.mul_le_mul ha hb
  omega
def seedN (x : Int64) : Int64 := x * 6364136223846793005 + 1442695040888963407
def seedS (x : Int64) : Int64 := (x.toUInt64 >>> ((nI 33).toInt64.toUInt64 &&& Int64.toUInt64 63)).toInt64
def seedR (x : Int64) : Int64 := seedS x - seedS x / 10 * 10
def flB (x : Int64) (r : Nat) : Bool := !decide (0 ≤ lg_cmp (seedR x) (nI r).toInt64)
