/-! THE MODEL'S YEAR: pure -/
def wrN (lo : Nat → Nat) (L : List Sg) (lk : Int32) : Nat → Int32
  | 0 => -9
  | i + 1 => if lo i < sg L i 2 ∧ nI i = lk then nI (low lo 0 L i).length else wrN lo L lk i
theorem low_leng {lo : Nat → Nat} {ag : Nat} {L : List Sg} : ∀ n, (low lo ag L n).length = (low lo 0 L n).length
  | 0 => rfl
  | n + 1 => by
    have ih := low_leng (lo := lo) (ag := ag) (L := L) n
    by_cases c : lo n < sg L n 2
    · rw [low_y c, low_y c]; simp [ih]
    · rw [low_n c, low_n c, ih]
def oth (L : List Sg) (i o : Nat) : Nat := if o = i then 0 else if sg L o 1 = sg L i 1 then (if sg L o 3 = sg L i 3 then 1 else 0) else 0
theorem oth_su {L : List Sg} {i : Nat} : ∀ n, suN (fun j => if sg L j 1 = sg L i 1 ∧ sg L j 3 = sg L i 3 then 1 else 0) n = suN (oth L i) n + (if i < n then 1 else 0)
  | 0 => by simp [suN]
  | n + 1 => by
    rw [suN, suN, oth_su n, oth]
    by_cases c : n = i
    · subst c; simp
    · by_cases a : sg L n 1 = sg L i 1 <;> by_cases b : sg L n 3 = sg L i 3 <;> by_cases d : i < n
      all_goals simp [a, b, c, d]
      all_goals (try omega)
      all_goals (have e1 : (i < n + 1) = (i < n) := propext ⟨fun q => by omega, fun q => by omega⟩)
      all_goals simp [e1, d] <;> omega
theorem loss_oth {L : List Sg} {st : Nat → Nat} {li i : Nat} (hi : i < L.length) : st (sg L i 1) + (if li.testBit (sg L i 1) = true then 0 else 1) + suN (oth L i) L.length = lossN st li L i := by
  have h := oth_su (L := L) (i := i) L.length
  rw [if_pos hi] at h
  rw [lossN, sameN, h]
  omega
theorem oth_le {L : List Sg} {i n : Nat} : suN (oth L i) n ≤ n * 1 := suN_le fun j _ => by
  rw [oth]
  split
  · omega
  · split
    · split <;> omega
    · omega
/-- one more song is moved up, on a page -/
theorem pgr_snoc {g : Nat → Int32} {L : List Sg} {s : Sg} {li : Nat} {ye br : Int32} {n : Int32} (h1 : hs g L) (h3 : g 49 = nI li) (h4 : g 50 = ye) (h5 : g 51 = br) (h8 : L.length < 8) (hn : ∀ k, k < 6 → g (L.length * 6 + k) = nI (s k)) (hv : n = nI (L.length + 1)) : PGR (upd g 48 n) (L ++ [s]) li ye br := by
  subst hv
  refine ⟨hs_upd (hs_snoc h1 hn) (by simp; omega), by rw [upd_s]; simp, ?_, ?_, ?_⟩
  · rw [upd_n (by omega), h3]
  · rw [upd_n (by omega), h4]
  · rw [upd_n (by omega), h5]
theorem pgr_year {g : Nat → Int32} {L : List Sg} {li : Nat} {ye br x : Int32} (h : PGR g L li ye br) (h8 : L.length ≤ 8) : PGR (upd g 50 x) L li x br := by
  obtain ⟨h1, h2, h3, h4, h5⟩ := h
  exact ⟨hs_upd h1 (by omega), by rw [upd_n (by omega), h2], by rw [upd_n (by omega), h3], upd_s, by rw [upd_n (by omega), h5]⟩
