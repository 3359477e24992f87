/-! WHAT THE PUBLIC CALLS ANSWER: pure -/
def cl (x : Int32) : Nat := x.toNatClampNeg
theorem cl_n {j : Nat} (h : j < 2 ^ 31) : cl (nI j) = j := nI_clamp h
def wrC (T : List Nat) (x : Int32) : Int32 := if inB x (nI 0) (nI 255) = true then (if T.length < 56 then nI (T.length + 1) else -4) else -2
def wrT (T : List Nat) (x : Int32) : List Nat := if inB x (nI 0) (nI 255) = true then appT T (cl x) else T
def aboutI (W n : Nat) (ye br : Int32) (li ll lw na nt : Nat) (x : Int32) : Int32 :=
  if x = nI 0 then nI W else if x = nI 1 then nI n else if x = nI 2 then ye else if x = nI 3 then br else if x = nI 4 then nI li else if x = nI 5 then nI ll else if x = nI 6 then nI lw else if x = nI 7 then nI na else if x = nI 8 then nI nt else -2
def wellI (W : Nat) (dp st : Nat → Nat) (li : Nat) (L : List Sg) (w x : Int32) : Int32 :=
  if hasB w W = true then (if x = nI 0 then nI (dp (cl w)) else if x = nI 1 then nI (st (cl w)) else if x = nI 2 then nI (li.testBit (cl w)).toNat else if x = nI 3 then nI (orN (sing1 L (cl w)) L.length) else -2) else -1
def songI (L : List Sg) (s x : Int32) : Int32 := if hasB s L.length = true then (if inB x (nI 0) (nI 5) = true then nI (sg L (cl s) (cl x)) else -2) else -1
def heardI (W : Nat) (dp : Nat → Nat) (li : Nat) (L : List Sg) (w x : Int32) (noon : Bool) : Int32 := if hasB w W = true then (if inB x (nI 0) (nI 9) = true then nI (heardN L li (dp (cl w)) noon (cl w) (cl x)) else -2) else -1
/-- is the song at place p left, and where, year by year -/
def lastF (st : Nat → Nat) (li : Nat) : Nat → Nat → List Sg → Nat → Nat
  | 0, k, _, _ => k
  | n + 1, k, L, p => if lossN st li L p < sg L p 2 then lastF st li n (k + 1) (low (lossN st li L) 0 L L.length) ((low (lossN st li L) 0 L p).length) else k
def songLastsI (st : Nat → Nat) (li : Nat) (L : List Sg) (s : Int32) : Int32 := if hasB s L.length = true then nI (lastF st li 98 1 L (cl s)) else -1
def lawF (st : Nat → Nat) (li a : Nat) (L : List Sg) : Nat → Nat → Nat
  | 0, k => k
  | n + 1, k => if (lawsN (yearsL st li k L)).testBit a = true then lawF st li a L n (k + 1) else k
def lawLastsI (st : Nat → Nat) (li : Nat) (L : List Sg) (a : Int32) : Int32 := if inB a (nI 0) (nI 5) = true then nI (lawF st li (cl a) L 99 0) else -2
def lostI (st : Nat → Nat) (li ll : Nat) (L : List Sg) (n : Int32) : Int32 := if inB n (nI 0) (nI 30) = true then nI ll &&& (nI (lawsN (yearsL st li (cl n) L)) ^^^ (-1)) else -2
/-- the best lid: what is found, and by how many, after the first wells -/
def blF (g : Nat → Nat) (li m0 : Nat) : Nat → Int32 × Nat
  | 0 => (-9, m0)
  | w + 1 => let r := blF g li m0 w; let x := if li.testBit w = true then 0 else g w; if r.2 < x then (nI w, x) else r
def bestLidI (st : Nat → Nat) (W li ll : Nat) (L : List Sg) (n : Int32) : Int32 := if inB n (nI 1) (nI 9) = true then (blF (fun w => llN ll (yearsL st (li ||| 2 ^ w) (cl n) L)) li (llN ll (yearsL st li (cl n) L)) W).1 else -2
def mpF (L : List Sg) (a : Nat) : Nat → Int32 × Nat
  | 0 => (-9, 0)
  | p + 1 => let r := mpF L a p; let x := suN (copy1 L a p) L.length; if r.2 < x then (nI p, x) else if x = r.2 then (-9, r.2) else r
def mostPitchI (L : List Sg) (a : Int32) : Int32 := if inB a (nI 0) (nI 5) = true then (mpF L (cl a) 4).1 else -2
/-- the truest: 0 none yet, or the song and 1 -/
def trF (L : List Sg) (a : Nat) : Nat → Nat
  | 0 => 0
  | i + 1 => let r := trF L a i; if sg L i 0 = a ∧ (r = 0 ∨ sg L i 5 < sg L (r - 1) 5) then i + 1 else r
def n9 (r : Nat) : Int32 := if r = 0 then -9 else nI (r - 1)
def truestI (L : List Sg) (a : Int32) : Int32 := if inB a (nI 0) (nI 5) = true then n9 (trF L (cl a) L.length) else -2
def backI (W : Nat) (st : Nat → Nat) (li : Nat) (w v n : Int32) : Int32 := if hasB w W = true then (if inB v (nI 1) (nI 9) = true ∧ inB n (nI 0) (nI 9) = true then nI (cl v + cl n * (st (cl w) + if li.testBit (cl w) = true then 0 else 1)) else -2) else -1
def singC (W li : Nat) (L : List Sg) (s side v p : Int32) : Int32 :=
  if hasB s L.length = true then (if inB side (nI 0) (nI 1) = true ∧ inB v (nI 1) (nI 9) = true ∧ inB p (nI 0) (nI 3) = true then (if way W li (sg L (cl s) 1) (cl side) = true then (if L.length < 8 then 0 else -4) else -3) else -2) else -1
/-- the lamps: the first number by which the wanted ones are told -/
def lmF (one want : Nat) : Nat → Nat → Nat → Int32
  | 0, _, _ => -9
  | n + 1, k, all => if all.testBit want = true then nI k else lmF one want n (k + 1) (joiN all one 64)
def lampsI (L : List Sg) (li : Nat) (dp : Nat → Nat) (W : Nat) : Int32 := lmF (lampN L li dp W) (lawsN L) 7 0 1
/-- the lords' last turns -/
def lrT (W : Nat) (f : Nat → Nat) : Nat → Nat → Nat
  | 0, q => f q
  | 1, q => f q
  | n + 2, q => lrT W (fun z => lwT (decide ((n + 2) % 2 = 1)) W f z) (n + 1) q
def lmvF (f : Nat → Nat) (q : Nat) : Nat → Int × Nat
  | 0 => (-100, 0)
  | m + 1 => let r := lmvF f q m; if r.1 < (f (mvN q m) : Int) then ((f (mvN q m) : Int), m) else r
def lordsI (ll : Nat) (st : Nat → Nat) (W li : Nat) (L : List Sg) (n what : Int32) : Int32 :=
  if inB n (nI 1) (nI 3) = true ∧ inB what (nI 0) (nI 1) = true then (let r := lmvF (lrT W (lw0 ll st W L) (cl n)) li (W + 1); if what = nI 0 then zI r.1 else nI r.2) else -2
/-- a rain: wells with the law, ten each; floods of them -/
def rnF (L : List Sg) (a r : Nat) : Nat → Nat × Nat
  | 0 => (1, 1)
  | w + 1 => let z := rnF L a r w; if (orN (bitN L (orN (sing1 L w) L.length)) L.length).testBit a = true then (z.1 * 10, z.2 * r) else z
def rainI (W li : Nat) (L : List Sg) (a r : Int32) (upper : Bool) : Int32 :=
  if inB a (nI 0) (nI 5) = true ∧ inB r (nI 0) (nI 10) = true then (if anyN (safeB L li (cl a)) L.length = true then nI 1 else
    let z := rnF L (cl a) (cl r) W; nI ((if upper = true then z.1 - z.2 else z.1) / Nat.gcd z.1 (z.1 - z.2))) else -2
/-- rains by the seed: the wells of one year -/
def rwF (li r : Nat) : Nat → List Sg × Int64 → List Sg × Int64
  | 0, z => z
  | w + 1, z => let y := rwF li r w z; if li.testBit w = true then y else (if flB (seedN y.2) r = true then low (fl1 y.1 w) 0 y.1 y.1.length else y.1, seedN y.2)
def ryF (st : Nat → Nat) (W li r : Nat) : Nat → List Sg × Int64 → List Sg × Int64
  | 0, z => z
  | n + 1, z => let y := ryF st W li r n z; rwF li r W (yearL st li y.1, y.2)
def rainsI (st : Nat → Nat) (W li : Nat) (L : List Sg) (sd : Int64) (m r : Int32) : Int32 × Int64 :=
  if inB m (nI 1) (nI 20) = true ∧ inB r (nI 0) (nI 10) = true then (let z := ryF st W li (cl r) (cl m) (L, sd); (nI (lawsN z.1), z.2)) else (-2, sd)
theorem low_len2 {lo : Nat → Nat} {ag : Nat} {L : List Sg} {n : Nat} (hn : n < L.length) (hy : lo n < sg L n 2) : (low lo ag L n).length < (low lo ag L L.length).length := by
  have : ∀ k, (low lo ag L n).length + 1 ≤ (low lo ag L (n + 1 + k)).length := by
    intro k
    induction k with
    | zero => rw [Nat.add_zero, low_y hy]; simp
    | succ k ih =>
      by_cases c : lo (n + 1 + k) < sg L (n + 1 + k) 2
      · rw [← Nat.add_assoc, low_y c]; simp only [List.length_append, List.length_singleton]; omega
      · rw [← Nat.add_assoc, low_n c]; exact ih
  have h := this (L.length - (n + 1))
  rw [show n + 1 + (L.length - (n + 1)) = L.length by omega] at h
  omega
/-- who is faint ahead of p -/
theorem faint_low {f : Nat → Int32} {L : List Sg} {lo : Nat → Nat} (hw : worn f L lo) (hb : ∀ i, i < L.length → sg L i 2 < 100 ∧ lo i < 100) : ∀ p, p ≤ L.length → suN (fa1 f) p + (low lo 0 L p).length = p
  | 0, _ => rfl
  | p + 1, h => by
    have ih := faint_low hw hb p (by omega)
    have e := hw p 2 (by omega) (by omega)
    simp only [if_true] at e
    have b := hb p (by omega)
    by_cases c : lo p < sg L p 2
    · rw [low_y c, suN, fa1, e, if_pos ((sub_pos' (by omega) (by omega)).mpr c)]
      simp only [List.length_append, List.length_singleton]; omega
    · rw [low_n c, suN, fa1, e, if_neg (fun q => c ((sub_pos' (by omega) (by omega)).mp q))]
      omega
