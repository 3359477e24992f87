/-! THE PURE PICTURE: a song is its six numbers, songs lie in a list -/
theorem fa_or (a b : Nat) : nI a ||| nI b = nI (a ||| b) := by
  apply Int32.toBitVec_inj.1
  show BitVec.ofNat 32 a ||| BitVec.ofNat 32 b = BitVec.ofNat 32 (a ||| b)
  apply BitVec.eq_of_getLsbD_eq
  intro i hi
  simp [hi]
theorem fa_and (a b : Nat) : nI a &&& nI b = nI (a &&& b) := by
  apply Int32.toBitVec_inj.1
  show BitVec.ofNat 32 a &&& BitVec.ofNat 32 b = BitVec.ofNat 32 (a &&& b)
  apply BitVec.eq_of_getLsbD_eq
  intro i hi
  simp [hi]
theorem fa_xor (a b : Nat) : nI a ^^^ nI b = nI (a ^^^ b) := by
  apply Int32.toBitVec_inj.1
  show BitVec.ofNat 32 a ^^^ BitVec.ofNat 32 b = BitVec.ofNat 32 (a ^^^ b)
  apply BitVec.eq_of_getLsbD_eq
  intro i hi
  simp [hi]
theorem shl1 : ∀ k, k < 31 → nI 1 <<< (nI k &&& 31) = nI (2 ^ k) := by decide +kernel
theorem tb0 : ∀ s, s < 256 → ∀ w, w < 8 → (nI s >>> (nI w &&& 31)) &&& nI 1 = nI (s.testBit w).toNat := by decide +kernel
def gs (f : Nat → Int32) (s k : Nat) : Int32 := f (s * 6 + k)
abbrev Sg : Type := Nat → Nat
def sg (L : List Sg) (i : Nat) : Sg := L.getD i (fun _ => 0)
def hs (f : Nat → Int32) (L : List Sg) : Prop := ∀ i k, i < L.length → k < 6 → f (i * 6 + k) = nI (sg L i k)
def okS (W A : Nat) (s : Sg) : Prop := s 0 < 6 ∧ s 1 < W ∧ 1 ≤ s 2 ∧ s 2 ≤ 9 ∧ s 3 < 4 ∧ s 4 ≤ A ∧ s 5 ≤ 9
def okL (W A : Nat) (L : List Sg) : Prop := L.length ≤ 8 ∧ ∀ i, i < L.length → okS W A (sg L i)
theorem sg_lt {L M : List Sg} {i : Nat} (h : i < L.length) : sg (L ++ M) i = sg L i := by
  simp [sg, List.getD_eq_getElem?_getD, List.getElem?_append_left h]
theorem sg_len {L : List Sg} {s : Sg} : sg (L ++ [s]) L.length = s := by
  simp [sg, List.getD_eq_getElem?_getD]
/-- a fold of bits -/
def orN (g : Nat → Nat) : Nat → Nat
  | 0 => 0
  | n + 1 => orN g n ||| g n
/-- a sum -/
def suN (g : Nat → Nat) : Nat → Nat
  | 0 => 0
  | n + 1 => suN g n + g n
theorem orN_lt {g : Nat → Nat} {k : Nat} : ∀ {n : Nat}, (∀ i, i < n → g i < 2 ^ k) → orN g n < 2 ^ k
  | 0, _ => Nat.two_pow_pos k
  | n + 1, h => Nat.or_lt_two_pow (orN_lt (fun i hi => h i (by omega))) (h n (by omega))
theorem suN_le {g : Nat → Nat} {c : Nat} : ∀ {n : Nat}, (∀ i, i < n → g i ≤ c) → suN g n ≤ n * c
  | 0, _ => by simp [suN]
  | n + 1, h => by
    have h1 := suN_le (g := g) (c := c) (n := n) (fun i hi => h i (by omega))
    have h2 := h n (by omega)
    rw [suN, Nat.add_mul]
    omega
theorem orN_cong {g g' : Nat → Nat} : ∀ {n : Nat}, (∀ i, i < n → g i = g' i) → orN g n = orN g' n
  | 0, _ => rfl
  | n + 1, h => by rw [orN, orN, orN_cong (fun i hi => h i (by omega)), h n (by omega)]
theorem suN_cong {g g' : Nat → Nat} : ∀ {n : Nat}, (∀ i, i < n → g i = g' i) → suN g n = suN g' n
  | 0, _ => rfl
  | n + 1, h => by rw [suN, suN, suN_cong (fun i hi => h i (by omega)), h n (by omega)]
def b2n (b : Bool) (x : Nat) : Nat := if b = true then x else 0
/-- the laws of the songs: bits -/
def lawsN (L : List Sg) : Nat := orN (fun i => 2 ^ sg L i 0) L.length
/-- what is lost; who is left, so much less loud, so much older -/
def low (lo : Nat → Nat) (ag : Nat) (L : List Sg) : Nat → List Sg
  | 0 => []
  | i + 1 => if lo i < sg L i 2 then low lo ag L i ++ [fun k => if k = 2 then sg L i 2 - lo i else if k = 4 then sg L i 4 + ag else sg L i k] else low lo ag L i
def sameN (L : List Sg) (s : Sg) : Nat := suN (fun i => if sg L i 1 = s 1 ∧ sg L i 3 = s 3 then 1 else 0) L.length
/-- what a song loses in a year -/
def lossN (st : Nat → Nat) (li : Nat) (L : List Sg) (i : Nat) : Nat := st (sg L i 1) + (if li.testBit (sg L i 1) = true then 0 else 1) + (sameN L (sg L i) - 1)
def yearL (st : Nat → Nat) (li : Nat) (L : List Sg) : List Sg := low (lossN st li L) 1 L L.length
def yearsL (st : Nat → Nat) (li : Nat) : Nat → List Sg → List Sg
  | 0, L => L
  | n + 1, L => yearL st li (yearsL st li n L)
def floodL (fl : Nat) (L : List Sg) : List Sg := low (fun i => if fl.testBit (sg L i 1) = true then 3 else 0) 0 L L.length
theorem low_len {lo : Nat → Nat} {ag : Nat} {L : List Sg} : ∀ n, (low lo ag L n).length ≤ n
  | 0 => Nat.le_refl 0
  | n + 1 => by
    have h := low_len (lo := lo) (ag := ag) (L := L) n
    rw [low]
    split
    · simp only [List.length_append, List.length_singleton]; omega
    · omega
theorem okL_snoc {W A : Nat} {L : List Sg} {s : Sg} (h : okL W A L) (h8 : L.length < 8) (hs : okS W A s) : okL W A (L ++ [s]) := by
  refine ⟨by simp only [List.length_append, List.length_singleton]; omega, fun i hi => ?_⟩
  simp only [List.length_append, List.length_singleton] at hi
  rcases Nat.lt_or_ge i L.length with q | q
  · rw [sg_lt q]; exact h.2 i q
  · rw [show i = L.length by omega, sg_len]; exact hs
theorem okL_nil {W A : Nat} : okL W A [] := ⟨Nat.zero_le _, fun i hi => absurd hi (Nat.not_lt_zero i)⟩
theorem low_ok {W A ag : Nat} {lo : Nat → Nat} {L : List Sg} (h : okL W A L) : ∀ n, n ≤ L.length → okL W (A + ag) (low lo ag L n)
  | 0, _ => okL_nil
  | n + 1, hn => by
    have ih := low_ok (ag := ag) (lo := lo) h n (by omega)
    have hl := low_len (lo := lo) (ag := ag) (L := L) n
    have h8 := h.1
    rw [low]
    split
    · rename_i hlo
      obtain ⟨a0, a1, a2, a3, a4, a5, a6⟩ := h.2 n (by omega)
      refine okL_snoc ih (by omega) ⟨?_, ?_, ?_, ?_, ?_, ?_, ?_⟩ <;> simp <;> omega
    · exact ih
theorem year_ok {W A li : Nat} {st : Nat → Nat} {L : List Sg} (h : okL W A L) : okL W (A + 1) (yearL st li L) := low_ok h _ (Nat.le_refl _)
theorem flood_ok {W A fl : Nat} {L : List Sg} (h : okL W A L) : okL W A (floodL fl L) := low_ok (ag := 0) h _ (Nat.le_refl _)
theorem okL_mono {W A A' : Nat} {L : List Sg} (h : okL W A L) (hA : A ≤ A') : okL W A' L := ⟨h.1, fun i hi => by
  obtain ⟨a0, a1, a2, a3, a4, a5, a6⟩ := h.2 i hi
  exact ⟨a0, a1, a2, a3, a4, by omega, a6⟩⟩
theorem years_ok {W A li : Nat} {st : Nat → Nat} {L : List Sg} (h : okL W A L) : ∀ n, okL W (A + n) (yearsL st li n L)
  | 0 => h
  | n + 1 => year_ok (years_ok h n)
theorem lawsN_lt {W A : Nat} {L : List Sg} (h : okL W A L) : lawsN L < 64 :=
  orN_lt (k := 6) fun i hi => Nat.pow_lt_pow_right (by omega) (h.2 i hi).1
/-- numbers of the interface -/
def hasB (x : Int32) (n : Nat) : Bool := !decide (x < 0) && !decide (nI n ≤ x)
def inB (x a b : Int32) : Bool := decide (a ≤ x) && decide (x ≤ b)
theorem hasB_t {x : Int32} {n : Nat} (hn : n < 2 ^ 31) (h : hasB x n = true) : ∃ j, j < n ∧ x = nI j := by
  simp only [hasB, Bool.and_eq_true, Bool.not_eq_true', decide_eq_false_iff_not] at h
  rcases pk_ix x hn with q | q | q
  · exact absurd q h.1
  · exact absurd q h.2
  · exact q
theorem hasB_n {j n : Nat} (h : j < n) (hn : n < 2 ^ 31) : hasB (nI j) n = true := by
  simp only [hasB, Bool.and_eq_true, Bool.not_eq_true', decide_eq_false_iff_not]
  exact ⟨nI_pos (by omega), fun q => by have := (nI_leI hn (by omega)).mp q; omega⟩
theorem inB_t {x : Int32} {a b : Nat} (hb : b < 2 ^ 31) (ha : a < 2 ^ 31) (h : inB x (nI a) (nI b) = true) : ∃ j, a ≤ j ∧ j ≤ b ∧ x = nI j := by
  simp only [inB, Bool.and_eq_true, decide_eq_true_eq] at h
  have h0 : ¬ x < 0 := fun q => by
    have h1 := Int32.le_iff_toInt_le.mp h.1
    have h2 := Int32.lt_iff_toInt_lt.mp q
    rw [nI_toInt ha] at h1
    have : (0 : Int32).toInt = 0 := rfl
    omega
  obtain ⟨j, hj, rfl⟩ := nI_of h0
  exact ⟨j, (nI_leI ha hj).mp h.1, (nI_leI hj hb).mp h.2, rfl⟩
theorem inB_n {j a b : Nat} (hb : b < 2 ^ 31) (h1 : a ≤ j) (h2 : j ≤ b) : inB (nI j) (nI a) (nI b) = true := by
  simp only [inB, Bool.and_eq_true, decide_eq_true_eq]
  exact ⟨(nI_leI (by omega) (by omega)).mpr h1, (nI_leI (by omega) hb).mpr h2⟩
