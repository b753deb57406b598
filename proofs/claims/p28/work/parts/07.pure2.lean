/-! ===== the state of the woods, as numbers ===== -/
def tZ (z : Int → Int) : Int → Int := fun j => z (7 + j)
def Inv (z : Int → Int) : Prop :=
  (1 ≤ z 0 ∧ z 0 ≤ 30) ∧ (0 ≤ z 1 ∧ z 1 ≤ 2) ∧ (1 ≤ z 2 ∧ z 2 ≤ 9) ∧ (0 ≤ z 3 ∧ z 3 ≤ 9999) ∧
  (∀ r : Int, 0 ≤ r → r < 8 → z (7 + r) = -5 ∨ (0 ≤ z (7 + r) ∧ z (7 + r) ≤ 7)) ∧
  (∀ k : Int, 0 ≤ k → k < 3 → (0 ≤ z (15 + 4 * k) ∧ z (15 + 4 * k) ≤ 63)) ∧
  (∀ k : Int, 0 ≤ k → k < 3 → (0 ≤ z (16 + 4 * k) ∧ z (16 + 4 * k) ≤ 30)) ∧
  (∀ p : Int, 0 ≤ p → p < 64 → (0 ≤ z (28 + p) ∧ z (28 + p) ≤ 99)) ∧
  (0 ≤ z 92 ∧ z 92 ≤ 9) ∧ (∀ p : Int, 0 ≤ p → p < 64 → z (92 + p) = z 92) ∧
  (∀ p : Int, 0 ≤ p → p < 64 → (z (156 + p) = 0 ∨ z (156 + p) = 1)) ∧ 1 ≤ pAll (tZ z)
theorem Inv.s0 {z : Int → Int} (h : Inv z) : 1 ≤ z 0 ∧ z 0 ≤ 30 := h.1
theorem Inv.s1 {z : Int → Int} (h : Inv z) : 0 ≤ z 1 ∧ z 1 ≤ 2 := h.2.1
theorem Inv.s2 {z : Int → Int} (h : Inv z) : 1 ≤ z 2 ∧ z 2 ≤ 9 := h.2.2.1
theorem Inv.da {z : Int → Int} (h : Inv z) : 0 ≤ z 3 ∧ z 3 ≤ 9999 := h.2.2.2.1
theorem Inv.to {z : Int → Int} (h : Inv z) (r : Int) (h0 : 0 ≤ r) (h1 : r < 8) : z (7 + r) = -5 ∨ (0 ≤ z (7 + r) ∧ z (7 + r) ≤ 7) := h.2.2.2.2.1 r h0 h1
theorem Inv.pl {z : Int → Int} (h : Inv z) (k : Int) (h0 : 0 ≤ k) (h1 : k < 3) : 0 ≤ z (15 + 4 * k) ∧ z (15 + 4 * k) ≤ 63 := h.2.2.2.2.2.1 k h0 h1
theorem Inv.st {z : Int → Int} (h : Inv z) (k : Int) (h0 : 0 ≤ k) (h1 : k < 3) : 0 ≤ z (16 + 4 * k) ∧ z (16 + 4 * k) ≤ 30 := h.2.2.2.2.2.2.1 k h0 h1
theorem Inv.wo {z : Int → Int} (h : Inv z) (p : Int) (h0 : 0 ≤ p) (h1 : p < 64) : 0 ≤ z (28 + p) ∧ z (28 + p) ≤ 99 := h.2.2.2.2.2.2.2.1 p h0 h1
theorem Inv.mu {z : Int → Int} (h : Inv z) : 0 ≤ z 92 ∧ z 92 ≤ 9 := h.2.2.2.2.2.2.2.2.1
theorem Inv.mp {z : Int → Int} (h : Inv z) (p : Int) (h0 : 0 ≤ p) (h1 : p < 64) : z (92 + p) = z 92 := h.2.2.2.2.2.2.2.2.2.1 p h0 h1
theorem Inv.fe {z : Int → Int} (h : Inv z) (p : Int) (h0 : 0 ≤ p) (h1 : p < 64) : z (156 + p) = 0 ∨ z (156 + p) = 1 := h.2.2.2.2.2.2.2.2.2.2.1 p h0 h1
theorem Inv.pa {z : Int → Int} (h : Inv z) : 1 ≤ pAll (tZ z) := h.2.2.2.2.2.2.2.2.2.2.2
theorem Inv.tR {z : Int → Int} (h : Inv z) : ∀ r : Int, 0 ≤ r → r < 8 → -2147483648 ≤ z (7 + r) ∧ z (7 + r) < 2147483648 := fun r h0 h1 => by have := h.to r h0 h1; omega
/-! the ways -/
def abI (e : Int) : Int := if 0 ≤ e then e else 0 - e
theorem abI_b (e : Int) : 0 ≤ abI e ∧ (abI e = e ∨ abI e = -e) := by unfold abI; split <;> omega
def zWay (z : Int → Int) (k p : Int) : Int := (abI (z (15 + 4 * k) / 8 - p / 8) + abI (z (15 + 4 * k) % 8 - p % 8)) * (1 + z 92 / 3)
theorem zWay_b {z : Int → Int} (h : Inv z) {k p : Int} (hk : 0 ≤ k ∧ k < 3) (hp : 0 ≤ p ∧ p < 64) : 0 ≤ zWay z k p ∧ zWay z k p ≤ 56 := by
  have h1 := abI_b (z (15 + 4 * k) / 8 - p / 8)
  have h2 := abI_b (z (15 + 4 * k) % 8 - p % 8)
  have h3 := h.pl k hk.1 hk.2
  have h4 := h.mu
  unfold zWay
  rcases (show 1 + z 92 / 3 = 1 ∨ 1 + z 92 / 3 = 2 ∨ 1 + z 92 / 3 = 3 ∨ 1 + z 92 / 3 = 4 by omega) with e | e | e | e <;> rw [e] <;> omega
theorem zWay_0 {z : Int → Int} {k p : Int} (h : z (15 + 4 * k) = p) : zWay z k p = 0 := by
  unfold zWay
  rw [h, Int.sub_self, Int.sub_self]
  show (abI 0 + abI 0) * _ = 0
  rw [show abI 0 = 0 from rfl, Int.add_zero, Int.zero_mul]
/-! what paths do to plots -/
def pTh (t : Int → Int) (p : Int) : Int := pAb t p * pBe t p
def pHi (f : Int → Int) (p w : Int) : Int := sumI 8 (fun c => if -w ≤ c - p % 8 ∧ c - p % 8 ≤ w then f (p / 8 * 8 + c) else 0)
abbrev zHi (z t : Int → Int) (p : Int) : Int := pHi (pTh t) p (z 1)
theorem pHi_b (t : Int → Int) {p : Int} (w : Int) (hp : 0 ≤ p ∧ p < 64) : 0 ≤ pHi (pTh t) p w ∧ pHi (pTh t) p w ≤ 17496 := by
  have key : ∀ c : Int, 0 ≤ c → c < (8 : Nat) → 0 ≤ (if -w ≤ c - p % 8 ∧ c - p % 8 ≤ w then pTh t (p / 8 * 8 + c) else 0) ∧ (if -w ≤ c - p % 8 ∧ c - p % 8 ≤ w then pTh t (p / 8 * 8 + c) else 0) ≤ 2187 := by
    intro c h0 h1
    have h2 := pTh_b t (p := p / 8 * 8 + c) (by omega)
    have h3 : pTh t (p / 8 * 8 + c) = pAb t (p / 8 * 8 + c) * pBe t (p / 8 * 8 + c) := rfl
    split <;> omega
  refine ⟨sumI_nn 8 (fun c h0 h1 => (key c h0 h1).1), ?_⟩
  have h := sumI_b (b := 2187) 8 (fun c h0 h1 => (key c h0 h1).2)
  unfold pHi
  omega
theorem sumI_0 {f : Int → Int} : ∀ n : Nat, (∀ j : Int, 0 ≤ j → j < n → f j = 0) → sumI n f = 0
  | 0, _ => rfl
  | n + 1, h => by
    show sumI n f + f (n : Int) = 0
    rw [sumI_0 n (fun j h0 h1 => h j h0 (by omega)), h n (by omega) (by omega)]
    rfl
theorem sumI_tail {f : Int → Int} {n : Nat} : ∀ m : Nat, n ≤ m → (∀ j : Int, (n : Int) ≤ j → j < m → f j = 0) → sumI m f = sumI n f
  | 0, h, _ => by rw [show n = 0 by omega]
  | m + 1, h, hz => by
    by_cases e : n = m + 1
    · rw [e]
    · show sumI m f + f (m : Int) = _
      rw [hz m (by omega) (by omega), Int.add_zero]
      exact sumI_tail m (by omega) (fun j h0 h1 => hz j h0 (by omega))
def zLo (z t : Int → Int) (p : Int) : Int := z (28 + p) * zHi z t p / pAll t
theorem zLo_m {z : Int → Int} (t : Int → Int) (h : Inv z) {p : Int} (hp : 0 ≤ p ∧ p < 64) : 0 ≤ z (28 + p) * zHi z t p ∧ z (28 + p) * zHi z t p ≤ 1732104 := by
  have h1 := h.wo p hp.1 hp.2
  have h2 := pHi_b t (z 1) hp
  refine ⟨Int.mul_nonneg h1.1 h2.1, ?_⟩
  have h3 : z (28 + p) * zHi z t p ≤ 99 * 17496 := Int.mul_le_mul h1.2 h2.2 h2.1 (by omega)
  omega
theorem zLo_b {z : Int → Int} (t : Int → Int) (h : Inv z) (ha : 1 ≤ pAll t) {p : Int} (hp : 0 ≤ p ∧ p < 64) : 0 ≤ zLo z t p ∧ zLo z t p ≤ 1732104 := by
  have h1 := zLo_m t h hp
  have h2 : zLo z t p ≤ z (28 + p) * zHi z t p := Int.ediv_le_self _ h1.1
  exact ⟨Int.ediv_nonneg h1.1 (by omega), by omega⟩
/-! the acts: answer and state behind -/
def F_grow (z : Int → Int) (p w : Int) : Int := if 0 ≤ p ∧ p ≤ 63 then (if 0 ≤ w ∧ w ≤ 99 then (if z (28 + p) = w then -5 else z (28 + p)) else -2) else -1
def G_grow (z : Int → Int) (p w : Int) : Int → Int := if (0 ≤ p ∧ p ≤ 63) ∧ (0 ≤ w ∧ w ≤ 99) then upZ z (28 + p) w else z
def GR (z : Int → Int) (m : Int) : Int → Int := fun j => if 92 ≤ j ∧ j < 156 then (if 9 < z j + m then 9 else z j + m) else z j
def F_rain (z : Int → Int) (m : Int) : Int := if 1 ≤ m ∧ m ≤ 9 then (if 8 < z 92 + m then 64 else 0) else -2
def G_rain (z : Int → Int) (m : Int) : Int → Int := if 1 ≤ m ∧ m ≤ 9 then GR z m else z
def GE (z : Int → Int) (n : Int) : Int → Int := fun j => if 92 ≤ j ∧ j < 156 then (if n < z j then z j - n else 0) else if j = 3 then z 3 + n else if j = 16 ∨ j = 20 ∨ j = 24 then z 0 else z j
def F_end (z : Int → Int) (n : Int) : Int := if 1 ≤ n ∧ n ≤ 99 then (if 9999 < z 3 + n then -3 else z 3 + n) else -2
def G_end (z : Int → Int) (n : Int) : Int → Int := if (1 ≤ n ∧ n ≤ 99) ∧ z 3 + n ≤ 9999 then GE z n else z
def sLo (i : Int) : Int := if i = 0 then 1 else if i = 1 then 0 else 1
def sHi (i : Int) : Int := if i = 0 then 30 else if i = 1 then 2 else 9
theorem sLo_t {i : Int} (h : 0 ≤ i ∧ i < 3) : sF 1 0 1 i.toNat = .int (jI (sLo i)) := by
  rcases (show i = 0 ∨ i = 1 ∨ i = 2 by omega) with e | e | e <;> subst e <;> rfl
theorem sHi_t {i : Int} (h : 0 ≤ i ∧ i < 3) : sF 30 2 9 i.toNat = .int (jI (sHi i)) := by
  rcases (show i = 0 ∨ i = 1 ∨ i = 2 by omega) with e | e | e <;> subst e <;> rfl
theorem sLo_b (i : Int) : 0 ≤ sLo i ∧ sLo i ≤ 1 := by unfold sLo; (repeat' split) <;> omega
theorem sHi_b (i : Int) : 2 ≤ sHi i ∧ sHi i ≤ 30 := by unfold sHi; (repeat' split) <;> omega
def F_set (z : Int → Int) (i v : Int) : Int := if 0 ≤ i ∧ i ≤ 2 then (if sLo i ≤ v ∧ v ≤ sHi i then (if z i = v then -5 else z i) else -2) else -1
def G_set (z : Int → Int) (i v : Int) : Int → Int := if (0 ≤ i ∧ i ≤ 2) ∧ (sLo i ≤ v ∧ v ≤ sHi i) then upZ z i v else z
def GG (z : Int → Int) (k p : Int) : Int → Int := upZ (upZ z (16 + 4 * k) (z (16 + 4 * k) - zWay z k p)) (15 + 4 * k) p
def F_go (z : Int → Int) (k p : Int) : Int := if (0 ≤ k ∧ k ≤ 2) ∧ (0 ≤ p ∧ p ≤ 63) then (if z (16 + 4 * k) < zWay z k p then -4 else if z (15 + 4 * k) = p then -5 else z (16 + 4 * k) - zWay z k p) else -1
def G_go (z : Int → Int) (k p : Int) : Int → Int := if ((0 ≤ k ∧ k ≤ 2) ∧ (0 ≤ p ∧ p ≤ 63)) ∧ zWay z k p ≤ z (16 + 4 * k) then GG z k p else z
def GF (z : Int → Int) (k : Int) : Int → Int := upZ (upZ (upZ (upZ (upZ z (28 + z (15 + 4 * k)) 0) (156 + z (15 + 4 * k)) 1) (16 + 4 * k) (z (16 + 4 * k) - z 2)) (17 + 4 * k) (z (17 + 4 * k) + z (28 + z (15 + 4 * k)))) (18 + 4 * k) (z (18 + 4 * k) + 1)
def F_fell (z : Int → Int) (k : Int) : Int := if 0 ≤ k ∧ k ≤ 2 then (if z (16 + 4 * k) < z 2 then -4 else if z (28 + z (15 + 4 * k)) = 0 then -5 else z (28 + z (15 + 4 * k))) else -1
def G_fell (z : Int → Int) (k : Int) : Int → Int := if (0 ≤ k ∧ k ≤ 2) ∧ z 2 ≤ z (16 + 4 * k) ∧ ¬ z (28 + z (15 + 4 * k)) = 0 then GF z k else z
def F_hint (z : Int → Int) (r c : Int) : Int := if 0 ≤ r ∧ r ≤ 7 then (if 0 ≤ c ∧ c ≤ 7 then (if ¬ z (7 + r) = -5 ∨ pTh (tZ z) (r * 8 + c) = 0 then -4 else pTh (tZ z) (r * 8 + c)) else -2) else -1
def G_hint (z : Int → Int) (r c : Int) : Int → Int := if ((0 ≤ r ∧ r ≤ 7) ∧ (0 ≤ c ∧ c ≤ 7)) ∧ z (7 + r) = -5 ∧ ¬ pTh (tZ z) (r * 8 + c) = 0 then upZ z (7 + r) c else z
def F_back (z : Int → Int) (r : Int) : Int := if 0 ≤ r ∧ r ≤ 7 then (if z (7 + r) = -5 then -5 else pAll (tZ (upZ z (7 + r) (-5)))) else -1
def G_back (z : Int → Int) (r : Int) : Int → Int := if (0 ≤ r ∧ r ≤ 7) ∧ ¬ z (7 + r) = -5 then upZ z (7 + r) (-5) else z
/-! the storm -/
def zEn (z t : Int → Int) (p : Int) : Int := if 0 < zHi z t p then 1 else 0
def zVa (z t : Int → Int) : Int := sumI 64 (fun p => if ¬ z (156 + p) = 0 ∧ ¬ 0 < zHi z t p then 1 else 0)
def zLW (z t : Int → Int) (p : Int) : Int := if 0 < zHi z t p then z (28 + p) else 0
/-- how many plots lose at least v -/
def nGe (L : Int → Int) (v : Int) (n : Nat) : Int := sumI n (fun p => if v ≤ L p then 1 else 0)
/-- the sum of the n greatest of 64 numbers between 0 and 99: layer by layer -/
def zTop (L : Int → Int) (n : Int) : Int := sumI 99 (fun v => if nGe L (v + 1) 64 < n then nGe L (v + 1) 64 else n)
def zLost (z t : Int → Int) : Int := sumI 64 (zLW z t)
def GS (z t : Int → Int) : Int → Int := fun j => if 28 ≤ j ∧ j < 92 then (if 0 < zHi z t (j - 28) then 0 else z j) else if 156 ≤ j ∧ j < 220 then 0 else if 7 ≤ j ∧ j < 15 then -5 else if j = 4 then z 4 + zLost z t else if j = 5 then z 5 + zTop (zLW z t) (zVa z t) else if j = 6 then z 6 + 1 else z j
def F_storm (z : Int → Int) : Int := if 1 < pAll (tZ z) then -4 else zLost z (tZ z)
def G_storm (z : Int → Int) : Int → Int := if 1 < pAll (tZ z) then z else GS z (tZ z)
/-! what is told -/
def F_why (z : Int → Int) (k p : Int) : Int := if z (28 + p) = 0 then 1 else if z (16 + 4 * k) - zWay z k p < 0 then 2 else if z (16 + 4 * k) - zWay z k p < z 2 then 3 else 0
def zBet (z t : Int → Int) (k p o : Int) : Prop := zLo z t o < zLo z t p ∨ (zLo z t p = zLo z t o ∧ (z (28 + o) < z (28 + p) ∨ (z (28 + p) = z (28 + o) ∧ zWay z k p < zWay z k o)))
def zBest (z t : Int → Int) (k : Int) : Nat → Int
  | 0 => -5
  | n + 1 => if F_why z k (n : Int) = 0 ∧ (zBest z t k n = -5 ∨ (zLo z t (zBest z t k n) < zLo z t (n : Int) ∨ (zLo z t (n : Int) = zLo z t (zBest z t k n) ∧ (z (28 + zBest z t k n) < z (28 + (n : Int)) ∨ (z (28 + (n : Int)) = z (28 + zBest z t k n) ∧ zWay z k (n : Int) < zWay z k (zBest z t k n)))))) then (n : Int) else zBest z t k n
theorem zBest_b (z t : Int → Int) (k : Int) : ∀ n : Nat, zBest z t k n = -5 ∨ (0 ≤ zBest z t k n ∧ zBest z t k n < n)
  | 0 => Or.inl rfl
  | n + 1 => by
    have ih := zBest_b z t k n
    show (if _ then (n : Int) else zBest z t k n) = -5 ∨ (0 ≤ (if _ then (n : Int) else zBest z t k n) ∧ (if _ then (n : Int) else zBest z t k n) < ((n + 1 : Nat) : Int))
    have hn : (0 : Int) ≤ (n : Int) := by omega
    split
    · exact Or.inr ⟨hn, by omega⟩
    · rcases ih with h | h
      · exact Or.inl h
      · exact Or.inr ⟨h.1, by omega⟩
theorem zBest_S {z t : Int → Int} {k i : Int} (h : 0 ≤ i) : zBest z t k (i + 1).toNat = if F_why z k i = 0 ∧ (zBest z t k i.toNat = -5 ∨ (zLo z t (zBest z t k i.toNat) < zLo z t i ∨ (zLo z t i = zLo z t (zBest z t k i.toNat) ∧ (z (28 + zBest z t k i.toNat) < z (28 + i) ∨ (z (28 + i) = z (28 + zBest z t k i.toNat) ∧ zWay z k i < zWay z k (zBest z t k i.toNat)))))) then i else zBest z t k i.toNat := by
  have e : (i + 1).toNat = i.toNat + 1 := by omega
  have e2 : ((i.toNat : Nat) : Int) = i := Int.toNat_of_nonneg h
  rw [e]
  show (if F_why z k ((i.toNat : Nat) : Int) = 0 ∧ _ then ((i.toNat : Nat) : Int) else zBest z t k i.toNat) = _
  rw [e2]
theorem tZ_up (z : Int → Int) (r v : Int) : upZ (fun j => z (7 + j)) r v = tZ (upZ z (7 + r) v) := by
  funext j
  show (if j = r then v else z (7 + j)) = (if 7 + j = 7 + r then v else z (7 + j))
  by_cases h : j = r
  · rw [if_pos h, if_pos (by omega)]
  · rw [if_neg h, if_neg (by omega)]
/-! the sum of the greatest, layer by layer -/
def mnI (a b : Int) : Int := if b < a then b else a
def nEq (L : Int → Int) (w : Int) (n : Nat) : Int := sumI n (fun p => if L p = w then 1 else 0)
def sTop (L : Int → Int) (n w : Int) : Int := sumI 99 (fun v => mnI n (nGe L (if v + 1 < w + 1 then w + 1 else v + 1) 64))
theorem nGe_eq (L : Int → Int) (w : Int) : ∀ n : Nat, nGe L (w + 1) n + nEq L w n = nGe L w n
  | 0 => rfl
  | n + 1 => by
    have ih := nGe_eq L w n
    unfold nGe nEq at ih ⊢
    show sumI n (fun p => if w + 1 ≤ L p then 1 else 0) + (if w + 1 ≤ L (n : Int) then 1 else 0) + (sumI n (fun p => if L p = w then 1 else 0) + (if L (n : Int) = w then 1 else 0)) = sumI n (fun p => if w ≤ L p then 1 else 0) + (if w ≤ L (n : Int) then 1 else 0)
    have h : (if w + 1 ≤ L (n : Int) then (1 : Int) else 0) + (if L (n : Int) = w then 1 else 0) = (if w ≤ L (n : Int) then 1 else 0) := by
      by_cases a : w + 1 ≤ L (n : Int)
      · rw [if_pos a, if_neg (by omega), if_pos (by omega)]; rfl
      · by_cases b : L (n : Int) = w
        · rw [if_neg a, if_pos b, if_pos (by omega)]; rfl
        · rw [if_neg a, if_neg b, if_neg (by omega)]; rfl
    omega
theorem nGe_nn (L : Int → Int) (w : Int) (n : Nat) : 0 ≤ nGe L w n := sumI_nn n (fun j _ _ => by show (0 : Int) ≤ if w ≤ L j then 1 else 0; split <;> omega)
theorem nEq_nn (L : Int → Int) (w : Int) (n : Nat) : 0 ≤ nEq L w n := sumI_nn n (fun j _ _ => by show (0 : Int) ≤ if L j = w then 1 else 0; split <;> omega)
theorem nEq_S {L : Int → Int} {w i : Int} (h : 0 ≤ i) : nEq L w (i + 1).toNat = nEq L w i.toNat + (if L i = w then 1 else 0) := sumI_S h _
theorem nGe_0 {L : Int → Int} {w : Int} (h : ∀ p : Int, 0 ≤ p → p < 64 → L p < w) : nGe L w 64 = 0 := sumI_0 64 (fun j h0 h1 => if_neg (by have := h j h0 (by omega); omega))
theorem sumI_add (f g : Int → Int) : ∀ n : Nat, sumI n f + sumI n g = sumI n (fun j => f j + g j)
  | 0 => rfl
  | n + 1 => by
    have ih := sumI_add f g n
    show sumI n f + f (n : Int) + (sumI n g + g (n : Int)) = sumI n (fun j => f j + g j) + (f (n : Int) + g (n : Int))
    omega
theorem sumI_low (d : Int) : ∀ (n : Nat) (w : Int), 0 ≤ w → sumI n (fun v => if v + 1 < w + 1 then d else 0) = (if w < (n : Int) then w else (n : Int)) * d
  | 0, w, h => by
    show (0 : Int) = _
    rw [if_neg (by omega)]; simp
  | n + 1, w, h => by
    have ih := sumI_low d n w h
    show sumI n (fun v => if v + 1 < w + 1 then d else 0) + (if (n : Int) + 1 < w + 1 then d else 0) = _
    rw [ih]
    by_cases a : w < (n : Int)
    · rw [if_pos a, if_neg (by omega), if_pos (by omega), Int.add_zero]
    · by_cases b : w = (n : Int)
      · subst b
        rw [if_neg (by omega), if_neg (by omega), if_pos (by omega), Int.add_zero]
      · rw [if_neg a, if_pos (by omega), if_neg (by omega)]
        rw [show ((n + 1 : Nat) : Int) = (n : Int) + 1 by omega, Int.add_mul, Int.one_mul]
theorem sTop_S (L : Int → Int) (n : Int) {w : Int} (h : 1 ≤ w ∧ w ≤ 99) : sTop L n (w - 1) = sTop L n w + w * (mnI n (nGe L w 64) - mnI n (nGe L (w + 1) 64)) := by
  have e := sumI_low (mnI n (nGe L w 64) - mnI n (nGe L (w + 1) 64)) 99 w (by omega)
  have e2 : (if w < ((99 : Nat) : Int) then w else ((99 : Nat) : Int)) = w := by split <;> omega
  rw [e2] at e
  rw [← e]
  unfold sTop
  rw [sumI_add]
  refine sumI_congr 99 (fun v h0 h1 => ?_)
  by_cases a : v + 1 < w + 1
  · rw [if_pos a, if_pos a]
    by_cases b : v + 1 < w - 1 + 1
    · rw [if_pos b, show w - 1 + 1 = w by omega]; omega
    · rw [if_neg b, show v + 1 = w by omega]; omega
  · rw [if_neg a, if_neg a, if_neg (by omega), Int.add_zero]
theorem sTop_0 (L : Int → Int) (n : Int) : sTop L n 0 = zTop L n := by
  unfold sTop zTop
  refine sumI_congr 99 (fun v h0 h1 => ?_)
  rw [if_neg (by omega)]
  rfl
theorem sTop_99 {L : Int → Int} {n : Int} (hn : 0 ≤ n) (h : ∀ p : Int, 0 ≤ p → p < 64 → L p < 100) : sTop L n 99 = 0 := by
  unfold sTop
  refine sumI_0 99 (fun v h0 h1 => ?_)
  rw [if_pos (by omega), show (99 : Int) + 1 = 100 by omega, nGe_0 h]
  unfold mnI
  split <;> omega
/-- the greatest one taken away, the others are n fewer -/
theorem zTop_S {L : Int → Int} {n b : Int} (hn : 0 ≤ n) (hb : 0 ≤ b ∧ b < 64) (hL : ∀ p : Int, 0 ≤ p → p < 64 → 0 ≤ L p ∧ L p ≤ 99) (hm : ∀ p : Int, 0 ≤ p → p < 64 → L p ≤ L b) : zTop L (n + 1) = L b + zTop (upZ L b 0) n := by
  have key : ∀ v : Int, 1 ≤ v → ∀ m : Nat, nGe L v m = nGe (upZ L b 0) v m + (if v ≤ L b ∧ b < m then 1 else 0) := by
    intro v hv m
    induction m with
    | zero => 
      rw [if_neg (by omega)]; rfl
    | succ m ih =>
      unfold nGe at ih ⊢
      show sumI m (fun p => if v ≤ L p then 1 else 0) + (if v ≤ L (m : Int) then 1 else 0) = sumI m (fun p => if v ≤ upZ L b 0 p then 1 else 0) + (if v ≤ upZ L b 0 (m : Int) then 1 else 0) + _
      by_cases e : (m : Int) = b
      · rw [upZ_eq _ _ _ e, e]
        rw [if_neg (show ¬ (v ≤ L b ∧ b < ((m : Nat) : Int)) by omega)] at ih
        by_cases a : v ≤ L b
        · rw [if_pos a, if_neg (by omega), if_pos (by omega)]; omega
        · rw [if_neg a, if_neg (by omega), if_neg (by omega)]; omega
      · rw [upZ_ne _ _ _ e]
        by_cases a : v ≤ L b ∧ b < ((m : Nat) : Int)
        · rw [if_pos a] at ih
          rw [if_pos (show v ≤ L b ∧ b < ((m + 1 : Nat) : Int) by omega)]; omega
        · rw [if_neg a] at ih
          rw [if_neg (show ¬ (v ≤ L b ∧ b < ((m + 1 : Nat) : Int)) by omega)]; omega
  have hz : ∀ v : Int, L b < v → nGe L v 64 = 0 := fun v hv => nGe_0 (fun p h0 h1 => by have := hm p h0 h1; omega)
  have e := sumI_low 1 99 (L b) (by have := hL b hb.1 hb.2; omega)
  have e2 : (if L b < ((99 : Nat) : Int) then L b else ((99 : Nat) : Int)) = L b := by have := hL b hb.1 hb.2; split <;> omega
  rw [e2, Int.mul_one] at e
  rw [← e]
  unfold zTop
  rw [sumI_add]
  refine sumI_congr 99 (fun v h0 h1 => ?_)
  have k := key (v + 1) (by omega) 64
  have nn := nGe_nn (upZ L b 0) (v + 1) 64
  by_cases a : v + 1 < L b + 1
  · rw [if_pos (by omega)] at k
    rw [if_pos a]
    split <;> split <;> omega
  · rw [hz (v + 1) (by omega)] at k ⊢
    rw [if_neg (by omega)] at k
    rw [if_neg a]
    split <;> split <;> omega
theorem zTop_0 {L : Int → Int} : zTop L 0 = 0 := by
  unfold zTop
  refine sumI_0 99 (fun v h0 h1 => ?_)
  have nn := nGe_nn L (v + 1) 64
  rw [if_neg (by omega)]
/-! every path goes through each row -/
def pFl (t : Int → Int) (r : Int) : Int := sumI 8 (fun c => pTh t (r * 8 + c))
theorem sum8 (f : Int → Int) : sumI 8 f = f 0 + f 1 + f 2 + f 3 + f 4 + f 5 + f 6 + f 7 := by
  show 0 + f 0 + f 1 + f 2 + f 3 + f 4 + f 5 + f 6 + f 7 = _
  rw [Int.zero_add]
theorem pTh_up {t : Int → Int} {r c : Int} (hr : 1 ≤ r ∧ r < 8) (hc : 0 ≤ c ∧ c < 8) : pTh t (r * 8 + c) = pAr (pAb t) ((r - 1) * 8 + c) * pBe t (r * 8 + c) := by
  unfold pTh
  by_cases h : t ((r * 8 + c) / 8) = -5 ∨ t ((r * 8 + c) / 8) = (r * 8 + c) % 8
  · rw [pAb_S (by omega) h, show r * 8 + c - 8 = (r - 1) * 8 + c by omega]
  · rw [pBe_no (by omega) h, Int.mul_zero, Int.mul_zero]
theorem pTh_dn {t : Int → Int} {r c : Int} (hr : 0 ≤ r ∧ r < 7) (hc : 0 ≤ c ∧ c < 8) : pTh t (r * 8 + c) = pAb t (r * 8 + c) * pAr (pBe t) ((r + 1) * 8 + c) := by
  unfold pTh
  by_cases h : t ((r * 8 + c) / 8) = -5 ∨ t ((r * 8 + c) / 8) = (r * 8 + c) % 8
  · rw [pBe_S (by omega) h, show r * 8 + c + 8 = (r + 1) * 8 + c by omega]
  · rw [pAb_no (by omega) h, Int.zero_mul, Int.zero_mul]
theorem pAr_at (f : Int → Int) {r c : Int} (hr : 0 ≤ r) (hc : 0 ≤ c ∧ c < 8) : pAr f (r * 8 + c) = f (r * 8 + c) + (if 0 < c then f (r * 8 + c - 1) else 0) + (if c < 7 then f (r * 8 + c + 1) else 0) := by
  unfold pAr
  rw [show (r * 8 + c) % 8 = c by omega]
theorem pFl_S (t : Int → Int) {r : Int} (hr : 0 ≤ r ∧ r < 7) : pFl t r = pFl t (r + 1) := by
  have e1 : pFl t r = sumI 8 (fun c => pAb t (r * 8 + c) * pAr (pBe t) ((r + 1) * 8 + c)) := sumI_congr 8 (fun c h0 h1 => pTh_dn hr ⟨h0, by omega⟩)
  have e2 : pFl t (r + 1) = sumI 8 (fun c => pAr (pAb t) (r * 8 + c) * pBe t ((r + 1) * 8 + c)) := sumI_congr 8 (fun c h0 h1 => by
    have h := pTh_up (t := t) (r := r + 1) (c := c) (by omega) ⟨h0, by omega⟩
    rw [show r + 1 - 1 = r by omega] at h
    exact h)
  rw [e1, e2, sum8, sum8]
  try simp only []
  rw [pAr_at _ (by omega) (by omega), pAr_at _ (by omega) (by omega), pAr_at _ (by omega) (by omega), pAr_at _ (by omega) (by omega), pAr_at _ (by omega) (by omega), pAr_at _ (by omega) (by omega), pAr_at _ (by omega) (by omega), pAr_at _ (by omega) (by omega)]
  rw [pAr_at _ (by omega) (by omega), pAr_at _ (by omega) (by omega), pAr_at _ (by omega) (by omega), pAr_at _ (by omega) (by omega), pAr_at _ (by omega) (by omega), pAr_at _ (by omega) (by omega), pAr_at _ (by omega) (by omega), pAr_at _ (by omega) (by omega)]
  simp only [show r * 8 + 0 = r * 8 by omega, show (r + 1) * 8 + 0 = (r + 1) * 8 by omega, show r * 8 + 0 + 1 = r * 8 + 1 by omega, show (r + 1) * 8 + 0 + 1 = (r + 1) * 8 + 1 by omega, show r * 8 + 1 + 1 = r * 8 + 2 by omega, show r * 8 + 2 + 1 = r * 8 + 3 by omega, show r * 8 + 3 + 1 = r * 8 + 4 by omega, show r * 8 + 4 + 1 = r * 8 + 5 by omega, show r * 8 + 5 + 1 = r * 8 + 6 by omega, show r * 8 + 6 + 1 = r * 8 + 7 by omega, show (r + 1) * 8 + 1 + 1 = (r + 1) * 8 + 2 by omega, show (r + 1) * 8 + 2 + 1 = (r + 1) * 8 + 3 by omega, show (r + 1) * 8 + 3 + 1 = (r + 1) * 8 + 4 by omega, show (r + 1) * 8 + 4 + 1 = (r + 1) * 8 + 5 by omega, show (r + 1) * 8 + 5 + 1 = (r + 1) * 8 + 6 by omega, show (r + 1) * 8 + 6 + 1 = (r + 1) * 8 + 7 by omega, show r * 8 + 1 - 1 = r * 8 by omega, show r * 8 + 2 - 1 = r * 8 + 1 by omega, show r * 8 + 3 - 1 = r * 8 + 2 by omega, show r * 8 + 4 - 1 = r * 8 + 3 by omega, show r * 8 + 5 - 1 = r * 8 + 4 by omega, show r * 8 + 6 - 1 = r * 8 + 5 by omega, show r * 8 + 7 - 1 = r * 8 + 6 by omega, show (r + 1) * 8 + 1 - 1 = (r + 1) * 8 by omega, show (r + 1) * 8 + 2 - 1 = (r + 1) * 8 + 1 by omega, show (r + 1) * 8 + 3 - 1 = (r + 1) * 8 + 2 by omega, show (r + 1) * 8 + 4 - 1 = (r + 1) * 8 + 3 by omega, show (r + 1) * 8 + 5 - 1 = (r + 1) * 8 + 4 by omega, show (r + 1) * 8 + 6 - 1 = (r + 1) * 8 + 5 by omega, show (r + 1) * 8 + 7 - 1 = (r + 1) * 8 + 6 by omega]
  simp (config := { decide := true }) only [if_true, if_false]
  generalize pAb t (r * 8) = a0
  generalize pAb t (r * 8 + 1) = a1
  generalize pAb t (r * 8 + 2) = a2
  generalize pAb t (r * 8 + 3) = a3
  generalize pAb t (r * 8 + 4) = a4
  generalize pAb t (r * 8 + 5) = a5
  generalize pAb t (r * 8 + 6) = a6
  generalize pAb t (r * 8 + 7) = a7
  generalize pBe t ((r + 1) * 8) = b0
  generalize pBe t ((r + 1) * 8 + 1) = b1
  generalize pBe t ((r + 1) * 8 + 2) = b2
  generalize pBe t ((r + 1) * 8 + 3) = b3
  generalize pBe t ((r + 1) * 8 + 4) = b4
  generalize pBe t ((r + 1) * 8 + 5) = b5
  generalize pBe t ((r + 1) * 8 + 6) = b6
  generalize pBe t ((r + 1) * 8 + 7) = b7
  simp only [Int.mul_add, Int.add_mul, Int.add_zero, Int.mul_zero, Int.zero_mul]
  generalize a0 * b0 = m00
  generalize a0 * b1 = m01
  generalize a1 * b0 = m10
  generalize a1 * b1 = m11
  generalize a1 * b2 = m12
  generalize a2 * b1 = m21
  generalize a2 * b2 = m22
  generalize a2 * b3 = m23
  generalize a3 * b2 = m32
  generalize a3 * b3 = m33
  generalize a3 * b4 = m34
  generalize a4 * b3 = m43
  generalize a4 * b4 = m44
  generalize a4 * b5 = m45
  generalize a5 * b4 = m54
  generalize a5 * b5 = m55
  generalize a5 * b6 = m56
  generalize a6 * b5 = m65
  generalize a6 * b6 = m66
  generalize a6 * b7 = m67
  generalize a7 * b6 = m76
  generalize a7 * b7 = m77
  omega
theorem pFl_0 (t : Int → Int) : pFl t 0 = pAll t := by
  refine sumI_congr 8 (fun c h0 h1 => ?_)
  rw [show 0 * 8 + c = c by omega]
  unfold pTh
  by_cases h : t (c / 8) = -5 ∨ t (c / 8) = c % 8
  · rw [pAb_1 ⟨h0, by omega⟩ h, Int.one_mul]
  · rw [pBe_no ⟨h0, by omega⟩ h, Int.mul_zero]
theorem pFl_all (t : Int → Int) {r : Int} (hr : 0 ≤ r ∧ r < 8) : pFl t r = pAll t := by
  have h0 := pFl_0 t
  have h1 := pFl_S t (r := 0) (by omega)
  have h2 := pFl_S t (r := 1) (by omega)
  have h3 := pFl_S t (r := 2) (by omega)
  have h4 := pFl_S t (r := 3) (by omega)
  have h5 := pFl_S t (r := 4) (by omega)
  have h6 := pFl_S t (r := 5) (by omega)
  have h7 := pFl_S t (r := 6) (by omega)
  simp only [Int.zero_add, show (1 : Int) + 1 = 2 by omega, show (2 : Int) + 1 = 3 by omega, show (3 : Int) + 1 = 4 by omega, show (4 : Int) + 1 = 5 by omega, show (5 : Int) + 1 = 6 by omega, show (6 : Int) + 1 = 7 by omega] at h1 h2 h3 h4 h5 h6 h7
  rcases (show r = 0 ∨ r = 1 ∨ r = 2 ∨ r = 3 ∨ r = 4 ∨ r = 5 ∨ r = 6 ∨ r = 7 by omega) with e | e | e | e | e | e | e | e <;> subst e <;> omega
/-- a row has a column of a path that is left -/
theorem pTh_ex {t : Int → Int} (ha : 1 ≤ pAll t) {r : Int} (hr : 0 ≤ r ∧ r < 8) : ∃ c : Int, 0 ≤ c ∧ c < 8 ∧ 0 < pTh t (r * 8 + c) := by
  have h := pFl_all t hr
  by_cases e : ∃ c : Int, 0 ≤ c ∧ c < 8 ∧ 0 < pTh t (r * 8 + c)
  · exact e
  · have h0 : pFl t r = 0 := sumI_0 8 (fun c a b => by
      have h2 := (pTh_b t (p := r * 8 + c) (by omega)).1
      have h3 : ¬ 0 < pTh t (r * 8 + c) := fun z => e ⟨c, a, by omega, z⟩
      have h4 : pTh t (r * 8 + c) = pAb t (r * 8 + c) * pBe t (r * 8 + c) := rfl
      omega)
    omega
