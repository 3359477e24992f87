/-! bits of longs (pasted: a starting text of the kit) -/
theorem wb_tb (n : Nat) : (lN n).toBitVec = BitVec.ofNat 64 n := rfl
theorem wb_inj {a b : Int64} (h : a.toBitVec = b.toBitVec) : a = b := Int64.toBitVec_inj.mp h
theorem wb_tn {n : Nat} (h : n < 2 ^ 64) : (lN n).toBitVec.toNat = n := by rw [wb_tb, BitVec.toNat_ofNat, Nat.mod_eq_of_lt h]
theorem wb_of (x : Int64) : ∃ n, n < 2 ^ 64 ∧ x = lN n := ⟨x.toBitVec.toNat, x.toBitVec.isLt, wb_inj (by rw [wb_tb]; simp)⟩
theorem wb_of32 (x : Int32) : ∃ n, n < 2 ^ 32 ∧ x = nI n := ⟨x.toBitVec.toNat, x.toBitVec.isLt, Int32.toBitVec_inj.mp (by show _ = BitVec.ofNat 32 _; simp)⟩
theorem wb_c : ∀ k, k < 64 → ((nI k).toInt64 &&& 63) = lN k := by decide +kernel
theorem wb_cu : ∀ k, k < 64 → ((nI k).toInt64.toUInt64 &&& Int64.toUInt64 63) = UInt64.ofNat k := by decide +kernel
theorem wb_sm : ∀ k, k < 64 → (BitVec.ofNat 64 k).smod 64 = BitVec.ofNat 64 k := by decide +kernel
theorem wb_pw {a b : Nat} (h : a ≤ b) : 2 ^ b = 2 ^ a * 2 ^ (b - a) := by rw [← Nat.pow_add]; congr 1; omega
theorem wb_lt2 {a b : Nat} (h : a < b) : 2 ^ a < 2 ^ b := Nat.pow_lt_pow_right (by decide) h
theorem wb_mod (n : Nat) : lN n = lN (n % 2 ^ 64) := wb_inj (by rw [wb_tb, wb_tb]; apply BitVec.eq_of_toNat_eq; rw [BitVec.toNat_ofNat, BitVec.toNat_ofNat, Nat.mod_mod])
theorem wb_shr {n k : Nat} (hn : n < 2 ^ 64) (hk : k < 64) : ((lN n).toUInt64 >>> ((nI k).toInt64.toUInt64 &&& Int64.toUInt64 63)).toInt64 = lN (n / 2 ^ k) := by
  rw [wb_cu k hk]
  apply wb_inj
  apply BitVec.eq_of_toNat_eq
  show ((lN n).toUInt64 >>> UInt64.ofNat k).toNat = (BitVec.ofNat 64 _).toNat
  have h1 : (UInt64.ofNat k).toNat = k := by
    show (BitVec.ofNat 64 k).toNat = k
    rw [BitVec.toNat_ofNat, Nat.mod_eq_of_lt (by omega)]
  have h2 : (lN n).toUInt64.toNat = n := wb_tn hn
  rw [UInt64.toNat_shiftRight, h1, h2, Nat.mod_eq_of_lt hk, Nat.shiftRight_eq_div_pow, BitVec.toNat_ofNat, Nat.mod_eq_of_lt (Nat.lt_of_le_of_lt (Nat.div_le_self _ _) hn)]
theorem wb_shl (n : Nat) {k : Nat} (hk : k < 64) : lN n <<< ((nI k).toInt64 &&& 63) = lN (n * 2 ^ k) := by
  rw [wb_c k hk]
  apply wb_inj
  rw [Int64.toBitVec_shiftLeft, wb_tb, wb_tb, wb_tb, wb_sm k hk]
  apply BitVec.eq_of_toNat_eq
  rw [BitVec.shiftLeft_eq', BitVec.toNat_shiftLeft, BitVec.toNat_ofNat, BitVec.toNat_ofNat, BitVec.toNat_ofNat, Nat.mod_eq_of_lt (show k < 2 ^ 64 by omega), Nat.shiftLeft_eq, Nat.mul_mod, Nat.mod_mod, ← Nat.mul_mod]
theorem wb_and {a b : Nat} (ha : a < 2 ^ 64) (hb : b < 2 ^ 64) : lN a &&& lN b = lN (a &&& b) := by
  apply wb_inj
  rw [Int64.toBitVec_and, wb_tb, wb_tb, wb_tb]
  apply BitVec.eq_of_toNat_eq
  rw [BitVec.toNat_and, BitVec.toNat_ofNat, BitVec.toNat_ofNat, BitVec.toNat_ofNat, Nat.mod_eq_of_lt ha, Nat.mod_eq_of_lt hb, Nat.mod_eq_of_lt (Nat.and_lt_two_pow _ hb)]
theorem wb_or {a b : Nat} (ha : a < 2 ^ 64) (hb : b < 2 ^ 64) : lN a ||| lN b = lN (a ||| b) := by
  apply wb_inj
  rw [Int64.toBitVec_or, wb_tb, wb_tb, wb_tb]
  apply BitVec.eq_of_toNat_eq
  rw [BitVec.toNat_or, BitVec.toNat_ofNat, BitVec.toNat_ofNat, BitVec.toNat_ofNat, Nat.mod_eq_of_lt ha, Nat.mod_eq_of_lt hb, Nat.mod_eq_of_lt (Nat.or_lt_two_pow ha hb)]
theorem wb_mask {n k : Nat} (hn : n < 2 ^ 64) (hk : k < 64) : lN n &&& lN (2 ^ k - 1) = lN (n % 2 ^ k) := by
  rw [wb_and hn (by have := wb_lt2 hk; omega), Nat.and_two_pow_sub_one_eq_mod]
theorem wb_a1 {n : Nat} (hn : n < 2 ^ 64) : lN n &&& 1 = lN (n % 2) := wb_mask (k := 1) hn (by decide)
theorem wb_bit {n k : Nat} (hn : n < 2 ^ 64) (hk : k < 64) : ((lN n).toUInt64 >>> ((nI k).toInt64.toUInt64 &&& Int64.toUInt64 63)).toInt64 &&& 1 = lN (n / 2 ^ k % 2) := by
  rw [wb_shr hn hk, wb_a1 (Nat.lt_of_le_of_lt (Nat.div_le_self _ _) hn)]
/-! dropping and flooding -/
theorem min_n {a b : Nat} (ha : a < 2 ^ 31) (hb : b < 2 ^ 31) : (if nI b < nI a then nI b else nI a) = nI (min a b) := by
  by_cases c : b < a
  · rw [if_pos ((nI_ltI hb ha).mpr c)]; congr 1; omega
  · rw [if_neg (fun q => c ((nI_ltI hb ha).mp q))]; congr 1; omega
theorem low_fin {f : Nat → Int32} {L : List Sg} {lo : Nat → Nat} {i : Nat} (hw : worn f L lo) (hi : i < L.length) (hy : lo i < sg L i 2) : ∀ k, k < 6 → f (i * 6 + k) = nI (lowS lo 0 L i k) := by
  intro k hk
  rw [hw i k hi hk, lowS]
  by_cases k2 : k = 2
  · subst k2; simp only [if_true]; exact pk_sub (by omega)
  · by_cases k4 : k = 4
    · subst k4; simp
    · simp [k2, k4]
def fl1 (L : List Sg) (w : Nat) (j : Nat) : Nat := if sg L j 1 = w then 3 else 0
def fa1 (f : Nat → Int32) (i : Nat) : Nat := if 0 < f (i * 6 + 2) then 0 else 1
/-- the first i songs are worn -/
def wornI (g : Nat → Int32) (L : List Sg) (lo : Nat → Nat) (i : Nat) : Prop := ∀ j k, j < L.length → k < 6 → g (j * 6 + k) = if k = 2 ∧ j < i then nI (sg L j 2) - nI (lo j) else nI (sg L j k)
theorem wornI_0 {g : Nat → Int32} {L : List Sg} {lo : Nat → Nat} (h : hs g L) : wornI g L lo 0 := fun j k hj hk => by rw [h j k hj hk]; simp
theorem wornI_s {g : Nat → Int32} {L : List Sg} {lo : Nat → Nat} {i : Nat} (h : wornI g L lo i) : wornI (upd g (i * 6 + 2) (nI (sg L i 2) - nI (lo i))) L lo (i + 1) := by
  intro j k hj hk
  by_cases c : j * 6 + k = i * 6 + 2
  · obtain ⟨rfl, rfl⟩ : j = i ∧ k = 2 := by omega
    rw [upd_s]; simp
  · rw [upd_n c, h j k hj hk]
    by_cases k2 : k = 2
    · subst k2
      have : (j < i) = (j < i + 1) := propext ⟨fun q => by omega, fun q => by omega⟩
      simp only [this]
    · simp [k2]
theorem sub0 (a : Nat) : nI a - nI 0 = nI a := pk_sub (Nat.zero_le a)
theorem wornI_k {g : Nat → Int32} {L : List Sg} {lo : Nat → Nat} {i : Nat} (h : wornI g L lo i) (h0 : lo i = 0) : wornI g L lo (i + 1) := by
  intro j k hj hk
  rw [h j k hj hk]
  by_cases k2 : k = 2
  · subst k2
    by_cases e : j = i
    · subst e; simp [h0, sub0]
    · have : (j < i) = (j < i + 1) := propext ⟨fun q => by omega, fun q => by omega⟩
      simp only [this]
  · simp [k2]
theorem wornI_n {g : Nat → Int32} {L : List Sg} {lo : Nat → Nat} (h : wornI g L lo L.length) : worn g L lo := fun j k hj hk => by rw [h j k hj hk]; simp [hj]
theorem wornI_at {g : Nat → Int32} {L : List Sg} {lo : Nat → Nat} {i k : Nat} (h : wornI g L lo i) (hi : i < L.length) (hk : k < 6) : g (i * 6 + k) = nI (sg L i k) := by rw [h i k hi hk]; simp
