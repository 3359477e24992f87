/-! LAMPS, the two ways: pure -/
def aK (one : Nat) : Nat → Nat
  | 0 => 1
  | k + 1 => joiN (aK one k) one 64
theorem orN_bit {g : Nat → Nat} {i : Nat} : ∀ {n : Nat}, (orN g n).testBit i = true ↔ ∃ j, j < n ∧ (g j).testBit i = true
  | 0 => by simp [orN]
  | n + 1 => by
    rw [orN, Nat.testBit_or, Bool.or_eq_true, orN_bit]
    constructor
    · rintro (⟨j, h1, h2⟩ | h)
      · exact ⟨j, by omega, h2⟩
      · exact ⟨n, by omega, h⟩
    · rintro ⟨j, h1, h2⟩
      rcases Nat.lt_or_ge j n with q | q
      · exact Or.inl ⟨j, q, h2⟩
      · obtain rfl : j = n := by omega
        exact Or.inr h2
theorem pw_bit {n u : Nat} : (2 ^ n).testBit u = true ↔ n = u := by rw [Nat.testBit_two_pow, decide_eq_true_eq]
theorem jwe_bit {s o u : Nat} : (jweN s o 64).testBit u = true ↔ ∃ t, t < 64 ∧ o.testBit t = true ∧ s ||| t = u := by
  rw [jweN, orN_bit]
  constructor
  · rintro ⟨t, h1, h2⟩
    by_cases c : o.testBit t = true
    · rw [if_pos c, pw_bit] at h2
      exact ⟨t, h1, c, h2⟩
    · rw [if_neg c, Nat.zero_testBit] at h2; cases h2
  · rintro ⟨t, h1, h2, h3⟩
    exact ⟨t, h1, by rw [if_pos h2, pw_bit]; exact h3⟩
theorem joi_bit {a o u : Nat} : (joiN a o 64).testBit u = true ↔ ∃ s, s < 64 ∧ a.testBit s = true ∧ ∃ t, t < 64 ∧ o.testBit t = true ∧ s ||| t = u := by
  rw [joiN, orN_bit]
  constructor
  · rintro ⟨s, h1, h2⟩
    by_cases c : a.testBit s = true
    · rw [if_pos c, jwe_bit] at h2
      exact ⟨s, h1, c, h2⟩
    · rw [if_neg c, Nat.zero_testBit] at h2; cases h2
  · rintro ⟨s, h1, h2, h3⟩
    exact ⟨s, h1, by rw [if_pos h2, jwe_bit]; exact h3⟩
theorem lamp_bit {L : List Sg} {li W t : Nat} {dp : Nat → Nat} : (lampN L li dp W).testBit t = true ↔ ∃ w, w < W ∧ ∃ x, x < 10 ∧ tellN L li dp w x = t := by
  rw [lampN, orN_bit]
  constructor
  · rintro ⟨w, h1, h2⟩
    rw [orN_bit] at h2
    obtain ⟨x, h3, h4⟩ := h2
    rw [lampG, pw_bit] at h4
    exact ⟨w, h1, x, h3, h4⟩
  · rintro ⟨w, h1, x, h3, h4⟩
    refine ⟨w, h1, ?_⟩
    rw [orN_bit]
    exact ⟨x, h3, by rw [lampG, pw_bit]; exact h4⟩
theorem aK_0 {one s : Nat} : (aK one 0).testBit s = true ↔ s = 0 := by
  rw [aK, show (1 : Nat) = 2 ^ 0 from rfl, pw_bit]
  exact eq_comm
theorem pop_or : ∀ s, s < 64 → ∀ t, t < 64 → s ||| t = s ∨ popN s + 1 ≤ popN (s ||| t) := by decide +kernel
theorem aK_few {one : Nat} : ∀ m u, (aK one m).testBit u = true → u < 64 ∧ ∃ k, k ≤ popN u ∧ k ≤ m ∧ (aK one k).testBit u = true
  | 0, u, h => by
    have e := aK_0.mp h
    exact ⟨by omega, 0, Nat.zero_le _, Nat.le_refl _, h⟩
  | m + 1, u, h => by
    obtain ⟨s, hs, h1, t, ht, h2, rfl⟩ := joi_bit.mp h
    obtain ⟨-, k, k1, k2, k3⟩ := aK_few m s h1
    rcases pop_or s hs t ht with q | q
    · rw [q]
      exact ⟨hs, k, k1, by omega, k3⟩
    · exact ⟨or_lt64 hs ht, k + 1, by omega, by omega, joi_bit.mpr ⟨s, hs, k3, t, ht, h2, rfl⟩⟩
theorem lmF_at {one want : Nat} : ∀ n k m, k ≤ m → m < k + n → (aK one m).testBit want = true → (∀ j, k ≤ j → j < m → ¬ (aK one j).testBit want = true) → lmF one want n k (aK one k) = nI m
  | 0, k, m, h1, h2, _, _ => by omega
  | n + 1, k, m, h1, h2, h3, h4 => by
    rw [lmF]
    by_cases c : k = m
    · subst c; rw [if_pos h3]
    · rw [if_neg (h4 k (Nat.le_refl _) (by omega))]
      exact lmF_at n (k + 1) m (by omega) (by omega) h3 (fun j a b => h4 j (by omega) b)
theorem lmF_no {one want : Nat} : ∀ n k, (∀ j, k ≤ j → j < k + n → ¬ (aK one j).testBit want = true) → lmF one want n k (aK one k) = -9
  | 0, k, _ => by rw [lmF]
  | n + 1, k, h4 => by
    rw [lmF, if_neg (h4 k (Nat.le_refl _) (by omega))]
    exact lmF_no n (k + 1) (fun j a b => h4 j (by omega) (by omega))
/-! the model's way: how far each set is -/
def FSnd (one : Nat) (D : Nat → Nat) : Prop := ∀ s, s < 64 → D s ≤ 99 ∧ (D s < 99 → (aK one (D s)).testBit s = true)
def FCmp (one : Nat) (D : Nat → Nat) (r : Nat) : Prop := ∀ k s, k ≤ r → s < 64 → (aK one k).testBit s = true → D s ≤ k
def FCmq (one : Nat) (T : Nat → Nat) (D : Nat → Nat) (r q : Nat) : Prop := ∀ p s, p < q → s < 64 → (aK one r).testBit s = true → D (s ||| T p) ≤ r + 1
def FCmi (one t : Nat) (D : Nat → Nat) (r i : Nat) : Prop := ∀ s, s < i → (aK one r).testBit s = true → D (s ||| t) ≤ r + 1
def rlx (D : Nat → Nat) (i t : Nat) (s : Nat) : Nat := if s = i ||| t then (if D i + 1 < D (i ||| t) then D i + 1 else D (i ||| t)) else D s
theorem rlx_le {D : Nat → Nat} {i t s : Nat} : rlx D i t s ≤ D s := by
  rw [rlx]
  split
  · rename_i h
    subst h
    split <;> omega
  · exact Nat.le_refl _
theorem rlx_snd {one : Nat} {D : Nat → Nat} {i t : Nat} (h : FSnd one D) (hi : i < 64) (ht : t < 64) (ho : one.testBit t = true) : FSnd one (rlx D i t) := by
  intro s hs
  rw [rlx]
  split
  · rename_i e
    subst e
    have h1 := h _ hs
    split
    · rename_i c
      refine ⟨by omega, fun _ => joi_bit.mpr ⟨i, hi, (h i hi).2 (by omega), t, ht, ho, rfl⟩⟩
    · exact h1
  · exact h s hs
theorem rlx_cmp {one : Nat} {D : Nat → Nat} {i t r : Nat} (h : FCmp one D r) : FCmp one (rlx D i t) r := fun k s a b c => Nat.le_trans rlx_le (h k s a b c)
theorem rlx_cmq {one : Nat} {T D : Nat → Nat} {i t r q : Nat} (h : FCmq one T D r q) : FCmq one T (rlx D i t) r q := fun p s a b c => Nat.le_trans rlx_le (h p s a b c)
theorem rlx_cmi {one : Nat} {D : Nat → Nat} {i t r : Nat} (h : FCmi one t D r i) (hc : FCmp one D r) (hi : i < 64) : FCmi one t (rlx D i t) r (i + 1) := by
  intro s hs hb
  rcases Nat.lt_or_ge s i with q | q
  · exact Nat.le_trans rlx_le (h s q hb)
  · obtain rfl : s = i := by omega
    have h1 := hc r s (Nat.le_refl _) hi hb
    rw [rlx, if_pos rfl]
    split <;> omega
theorem far_0 {one : Nat} : FSnd one (fun s => if s = 0 then 0 else 99) ∧ FCmp one (fun s => if s = 0 then 0 else 99) 0 := by
  refine ⟨fun s hs => ?_, fun k s hk hs hb => ?_⟩
  · by_cases c : s = 0
    · subst c
      exact ⟨by simp, fun _ => aK_0.mpr rfl⟩
    · simp [c]
  · obtain rfl : k = 0 := by omega
    rw [aK_0.mp hb]
    simp
def lampT (L : List Sg) (li : Nat) (dp : Nat → Nat) (p : Nat) : Nat := tellN L li dp (p / 10) (p % 10)
theorem cmi_cmq {one r q : Nat} {T D : Nat → Nat} (h : FCmq one T D r q) (hi : FCmi one (T q) D r 64) : FCmq one T D r (q + 1) := by
  intro p s hp hs hb
  rcases Nat.lt_or_ge p q with c | c
  · exact h p s c hs hb
  · obtain rfl : p = q := by omega
    exact hi s hs hb
theorem cmq_cmp {L : List Sg} {li W r : Nat} {dp D : Nat → Nat} (hc : FCmp (lampN L li dp W) D r) (h : FCmq (lampN L li dp W) (lampT L li dp) D r (10 * W)) : FCmp (lampN L li dp W) D (r + 1) := by
  intro k s hk hs hb
  rcases Nat.lt_or_ge r k with c | c
  · obtain rfl : k = r + 1 := by omega
    obtain ⟨u, hu, h1, t, ht, h2, rfl⟩ := joi_bit.mp hb
    obtain ⟨w, hw, x, hx, e⟩ := lamp_bit.mp h2
    have e2 : lampT L li dp (10 * w + x) = t := by
      rw [lampT, show (10 * w + x) / 10 = w by omega, show (10 * w + x) % 10 = x by omega, e]
    have h3 := h (10 * w + x) u (by omega) hu h1
    rw [e2] at h3
    exact h3
  · exact hc k s c hs hb
theorem lampT_bit {L : List Sg} {li W q : Nat} {dp : Nat → Nat} (hq : q < 10 * W) : (lampN L li dp W).testBit (lampT L li dp q) = true := lamp_bit.mpr ⟨q / 10, by omega, q % 10, by omega, rfl⟩
theorem lamps_end {L : List Sg} {li W A : Nat} {dp D : Nat → Nat} (hv : okL W A L) (h1 : FSnd (lampN L li dp W) D) (h2 : FCmp (lampN L li dp W) D 6) : (if 99 ≤ D (lawsN L) then -9 else nI (D (lawsN L))) = lampsI L li dp W := by
  have hw := lawsN_lt hv
  have h3 := h1 _ hw
  have hp := pop_le _ hw
  show _ = lmF (lampN L li dp W) (lawsN L) 7 0 (aK (lampN L li dp W) 0)
  by_cases c : ∃ k, k ≤ 6 ∧ (aK (lampN L li dp W) k).testBit (lawsN L) = true
  · obtain ⟨k, hk, hb⟩ := c
    have h4 := h2 k _ hk hw hb
    rw [if_neg (by omega)]
    refine (lmF_at 7 0 _ (Nat.zero_le _) (by omega) (h3.2 (by omega)) (fun j _ hj hbj => ?_)).symm
    have := h2 j _ (by omega) hw hbj
    omega
  · have h5 : ¬ D (lawsN L) < 99 := fun q => by
      obtain ⟨-, k, k1, k2, k3⟩ := aK_few _ _ (h3.2 q)
      exact c ⟨k, by omega, k3⟩
    rw [if_pos (by omega)]
    exact (lmF_no 7 0 (fun j _ hj hbj => c ⟨j, by omega, hbj⟩)).symm
