/-! ===== sums, paths ===== -/
def sumI : Nat → (Int → Int) → Int
  | 0, _ => 0
  | n + 1, f => sumI n f + f (n : Int)
theorem sumI_congr {f g : Int → Int} : ∀ (n : Nat), (∀ j : Int, 0 ≤ j → j < n → f j = g j) → sumI n f = sumI n g
  | 0, _ => rfl
  | n + 1, h => by
    show sumI n f + f (n : Int) = sumI n g + g (n : Int)
    rw [sumI_congr n (fun j h0 h1 => h j h0 (by omega)), h n (by omega) (by omega)]
theorem sumI_S {i : Int} (h : 0 ≤ i) (f : Int → Int) : sumI (i + 1).toNat f = sumI i.toNat f + f i := by
  rw [show (i + 1).toNat = i.toNat + 1 by omega]
  show sumI i.toNat f + f ((i.toNat : Nat) : Int) = _
  rw [Int.toNat_of_nonneg h]
theorem sumI_nn {f : Int → Int} : ∀ (n : Nat), (∀ j : Int, 0 ≤ j → j < n → 0 ≤ f j) → 0 ≤ sumI n f
  | 0, _ => Int.le_refl 0
  | n + 1, h => by
    have h1 := sumI_nn n (fun j h0 h1 => h j h0 (by omega))
    have h2 := h n (by omega) (by omega)
    show 0 ≤ sumI n f + f (n : Int)
    omega
theorem sumI_le {f g : Int → Int} : ∀ (n : Nat), (∀ j : Int, 0 ≤ j → j < n → f j ≤ g j) → sumI n f ≤ sumI n g
  | 0, _ => Int.le_refl 0
  | n + 1, h => by
    have h1 := sumI_le n (fun j h0 h1 => h j h0 (by omega))
    have h2 := h n (by omega) (by omega)
    show sumI n f + f (n : Int) ≤ sumI n g + g (n : Int)
    omega
theorem sumI_b {f : Int → Int} {b : Int} : ∀ (n : Nat), (∀ j : Int, 0 ≤ j → j < n → f j ≤ b) → sumI n f ≤ n * b
  | 0, _ => by show (0 : Int) ≤ ((0 : Nat) : Int) * b; simp
  | n + 1, h => by
    have h1 := sumI_b n (fun j h0 h1 => h j h0 (by omega))
    have h2 := h n (by omega) (by omega)
    show sumI n f + f (n : Int) ≤ ((n + 1 : Nat) : Int) * b
    have e : ((n + 1 : Nat) : Int) * b = (n : Int) * b + b := by rw [Int.natCast_succ, Int.add_mul, Int.one_mul]
    omega
theorem upZ_step {f g : Int → Int} {i v : Int} (hf : ∀ j : Int, 0 ≤ j → j < i → f j = g j) (hv : v = g i) : ∀ j : Int, 0 ≤ j → j < i + 1 → upZ f i v j = g j := by
  intro j h0 h1
  by_cases hj : j = i
  · rw [upZ_eq _ _ _ hj, hv, hj]
  · rw [upZ_ne _ _ _ hj]
    exact hf j h0 (by omega)
theorem upZ_down {f g : Int → Int} {i v N : Int} (hf : ∀ j : Int, i < j → j < N → f j = g j) (hv : v = g i) : ∀ j : Int, i + (-1) < j → j < N → upZ f i v j = g j := by
  intro j h0 h1
  by_cases hj : j = i
  · rw [upZ_eq _ _ _ hj, hv, hj]
  · rw [upZ_ne _ _ _ hj]
    exact hf j (by omega) h1
/-- parts of paths from the first row down to a column of the row r, with the columns t told (-5: none) -/
def pA (t : Int → Int) : Nat → Int → Int
  | 0, c => if t 0 = -5 ∨ t 0 = c then 1 else 0
  | r + 1, c => if t ((r : Int) + 1) = -5 ∨ t ((r : Int) + 1) = c then pA t r c + (if 0 < c then pA t r (c - 1) else 0) + (if c < 7 then pA t r (c + 1) else 0) else 0
/-- .. and from a column of the row 7 - k to the last row -/
def pB (t : Int → Int) : Nat → Int → Int
  | 0, c => if t 7 = -5 ∨ t 7 = c then 1 else 0
  | k + 1, c => if t (6 - (k : Int)) = -5 ∨ t (6 - (k : Int)) = c then pB t k c + (if 0 < c then pB t k (c - 1) else 0) + (if c < 7 then pB t k (c + 1) else 0) else 0
def pAb (t : Int → Int) (p : Int) : Int := pA t (p / 8).toNat (p % 8)
def pBe (t : Int → Int) (p : Int) : Int := pB t (7 - p / 8).toNat (p % 8)
def pAr (f : Int → Int) (p : Int) : Int := f p + (if 0 < p % 8 then f (p - 1) else 0) + (if p % 8 < 7 then f (p + 1) else 0)
def pAll (t : Int → Int) : Int := sumI 8 (pBe t)
theorem pAb_no {t : Int → Int} {p : Int} (hp : 0 ≤ p ∧ p < 64) (h : ¬ (t (p / 8) = -5 ∨ t (p / 8) = p % 8)) : pAb t p = 0 := by
  unfold pAb
  by_cases h0 : p / 8 = 0
  · rw [h0] at h ⊢
    exact if_neg h
  · obtain ⟨r, hr⟩ : ∃ r : Nat, (p / 8).toNat = r + 1 := ⟨(p / 8).toNat - 1, by omega⟩
    rw [hr]
    have e : (r : Int) + 1 = p / 8 := by omega
    show (if t ((r : Int) + 1) = -5 ∨ t ((r : Int) + 1) = p % 8 then _ else 0) = (0 : Int)
    rw [e, if_neg h]
theorem pAb_1 {t : Int → Int} {p : Int} (hp : 0 ≤ p ∧ p < 8) (h : t (p / 8) = -5 ∨ t (p / 8) = p % 8) : pAb t p = 1 := by
  unfold pAb
  have h0 : p / 8 = 0 := by omega
  rw [h0] at h ⊢
  exact if_pos h
theorem pAb_S {t : Int → Int} {p : Int} (hp : 8 ≤ p ∧ p < 64) (h : t (p / 8) = -5 ∨ t (p / 8) = p % 8) : pAb t p = pAr (pAb t) (p - 8) := by
  obtain ⟨r, hr⟩ : ∃ r : Nat, (p / 8).toNat = r + 1 := ⟨(p / 8).toNat - 1, by omega⟩
  have e : (r : Int) + 1 = p / 8 := by omega
  have e1 : ((p - 8) / 8).toNat = r := by omega
  have e2 : (p - 8) % 8 = p % 8 := by omega
  unfold pAr
  rw [show pAb t p = pA t (p / 8).toNat (p % 8) from rfl, hr]
  show (if t ((r : Int) + 1) = -5 ∨ t ((r : Int) + 1) = p % 8 then pA t r (p % 8) + (if 0 < p % 8 then pA t r (p % 8 - 1) else 0) + (if p % 8 < 7 then pA t r (p % 8 + 1) else 0) else 0) = _
  rw [e, if_pos h, e2]
  rw [show pAb t (p - 8) = pA t r (p % 8) by unfold pAb; rw [e1, e2]]
  congr 1
  · congr 1
    by_cases hc : 0 < p % 8
    · rw [if_pos hc, if_pos hc]
      unfold pAb
      rw [show (p - 8 - 1) / 8 = (p - 8) / 8 by omega, e1, show (p - 8 - 1) % 8 = p % 8 - 1 by omega]
    · rw [if_neg hc, if_neg hc]
  · by_cases hc : p % 8 < 7
    · rw [if_pos hc, if_pos hc]
      unfold pAb
      rw [show (p - 8 + 1) / 8 = (p - 8) / 8 by omega, e1, show (p - 8 + 1) % 8 = p % 8 + 1 by omega]
    · rw [if_neg hc, if_neg hc]
theorem pBe_no {t : Int → Int} {p : Int} (hp : 0 ≤ p ∧ p < 64) (h : ¬ (t (p / 8) = -5 ∨ t (p / 8) = p % 8)) : pBe t p = 0 := by
  unfold pBe
  by_cases h0 : p / 8 = 7
  · rw [h0] at h ⊢
    exact if_neg h
  · obtain ⟨r, hr⟩ : ∃ r : Nat, (7 - p / 8).toNat = r + 1 := ⟨(7 - p / 8).toNat - 1, by omega⟩
    rw [hr]
    have e : 6 - (r : Int) = p / 8 := by omega
    show (if t (6 - (r : Int)) = -5 ∨ t (6 - (r : Int)) = p % 8 then _ else 0) = (0 : Int)
    rw [e, if_neg h]
theorem pBe_1 {t : Int → Int} {p : Int} (hp : 56 ≤ p ∧ p < 64) (h : t (p / 8) = -5 ∨ t (p / 8) = p % 8) : pBe t p = 1 := by
  unfold pBe
  have h0 : p / 8 = 7 := by omega
  rw [h0] at h ⊢
  exact if_pos h
theorem pBe_S {t : Int → Int} {p : Int} (hp : 0 ≤ p ∧ p < 56) (h : t (p / 8) = -5 ∨ t (p / 8) = p % 8) : pBe t p = pAr (pBe t) (p + 8) := by
  obtain ⟨r, hr⟩ : ∃ r : Nat, (7 - p / 8).toNat = r + 1 := ⟨(7 - p / 8).toNat - 1, by omega⟩
  have e : 6 - (r : Int) = p / 8 := by omega
  have e1 : (7 - (p + 8) / 8).toNat = r := by omega
  have e2 : (p + 8) % 8 = p % 8 := by omega
  unfold pAr
  rw [show pBe t p = pB t (7 - p / 8).toNat (p % 8) from rfl, hr]
  show (if t (6 - (r : Int)) = -5 ∨ t (6 - (r : Int)) = p % 8 then pB t r (p % 8) + (if 0 < p % 8 then pB t r (p % 8 - 1) else 0) + (if p % 8 < 7 then pB t r (p % 8 + 1) else 0) else 0) = _
  rw [e, if_pos h, e2]
  rw [show pBe t (p + 8) = pB t r (p % 8) by unfold pBe; rw [e1, e2]]
  congr 1
  · congr 1
    by_cases hc : 0 < p % 8
    · rw [if_pos hc, if_pos hc]
      unfold pBe
      rw [show (p + 8 - 1) / 8 = (p + 8) / 8 by omega, e1, show (p + 8 - 1) % 8 = p % 8 - 1 by omega]
    · rw [if_neg hc, if_neg hc]
  · by_cases hc : p % 8 < 7
    · rw [if_pos hc, if_pos hc]
      unfold pBe
      rw [show (p + 8 + 1) / 8 = (p + 8) / 8 by omega, e1, show (p + 8 + 1) % 8 = p % 8 + 1 by omega]
    · rw [if_neg hc, if_neg hc]
theorem pAr_congr {f g : Int → Int} {p : Int} (h0 : f p = g p) (h1 : 0 < p % 8 → f (p - 1) = g (p - 1)) (h2 : p % 8 < 7 → f (p + 1) = g (p + 1)) : pAr f p = pAr g p := by
  unfold pAr
  rw [h0]
  congr 1
  · congr 1
    by_cases hc : 0 < p % 8
    · rw [if_pos hc, if_pos hc, h1 hc]
    · rw [if_neg hc, if_neg hc]
  · by_cases hc : p % 8 < 7
    · rw [if_pos hc, if_pos hc, h2 hc]
    · rw [if_neg hc, if_neg hc]
/-! bounds -/
theorem pA_b (t : Int → Int) : ∀ (r : Nat) (c : Int), 0 ≤ pA t r c ∧ pA t r c ≤ 3 ^ r
  | 0, c => by
    show 0 ≤ (if t 0 = -5 ∨ t 0 = c then (1 : Int) else 0) ∧ (if t 0 = -5 ∨ t 0 = c then (1 : Int) else 0) ≤ 3 ^ 0
    split <;> simp
  | r + 1, c => by
    have h1 := pA_b t r c
    have h2 := pA_b t r (c - 1)
    have h3 := pA_b t r (c + 1)
    have e : (3 : Int) ^ (r + 1) = 3 ^ r * 3 := Int.pow_succ 3 r
    have e0 : (0 : Int) ≤ 3 ^ r := by omega
    show 0 ≤ (if t ((r : Int) + 1) = -5 ∨ t ((r : Int) + 1) = c then pA t r c + (if 0 < c then pA t r (c - 1) else 0) + (if c < 7 then pA t r (c + 1) else 0) else 0) ∧ (if t ((r : Int) + 1) = -5 ∨ t ((r : Int) + 1) = c then pA t r c + (if 0 < c then pA t r (c - 1) else 0) + (if c < 7 then pA t r (c + 1) else 0) else 0) ≤ 3 ^ (r + 1)
    rw [e]
    split <;> (repeat' split) <;> omega
theorem pB_b (t : Int → Int) : ∀ (r : Nat) (c : Int), 0 ≤ pB t r c ∧ pB t r c ≤ 3 ^ r
  | 0, c => by
    show 0 ≤ (if t 7 = -5 ∨ t 7 = c then (1 : Int) else 0) ∧ (if t 7 = -5 ∨ t 7 = c then (1 : Int) else 0) ≤ 3 ^ 0
    split <;> simp
  | r + 1, c => by
    have h1 := pB_b t r c
    have h2 := pB_b t r (c - 1)
    have h3 := pB_b t r (c + 1)
    have e : (3 : Int) ^ (r + 1) = 3 ^ r * 3 := Int.pow_succ 3 r
    have e0 : (0 : Int) ≤ 3 ^ r := by omega
    show 0 ≤ (if t (6 - (r : Int)) = -5 ∨ t (6 - (r : Int)) = c then pB t r c + (if 0 < c then pB t r (c - 1) else 0) + (if c < 7 then pB t r (c + 1) else 0) else 0) ∧ (if t (6 - (r : Int)) = -5 ∨ t (6 - (r : Int)) = c then pB t r c + (if 0 < c then pB t r (c - 1) else 0) + (if c < 7 then pB t r (c + 1) else 0) else 0) ≤ 3 ^ (r + 1)
    rw [e]
    split <;> (repeat' split) <;> omega
theorem pTh_b (t : Int → Int) {p : Int} (hp : 0 ≤ p ∧ p < 64) : 0 ≤ pAb t p * pBe t p ∧ pAb t p * pBe t p ≤ 2187 := by
  have h1 := pA_b t (p / 8).toNat (p % 8)
  have h2 := pB_b t (7 - p / 8).toNat (p % 8)
  refine ⟨Int.mul_nonneg h1.1 h2.1, ?_⟩
  have h3 : pAb t p * pBe t p ≤ 3 ^ (p / 8).toNat * 3 ^ (7 - p / 8).toNat := Int.mul_le_mul h1.2 h2.2 h2.1 (Int.le_trans h1.1 h1.2)
  rw [← Int.pow_add, show (p / 8).toNat + (7 - p / 8).toNat = 7 by omega] at h3
  exact h3
theorem pBe_b (t : Int → Int) {p : Int} (hp : 0 ≤ p ∧ p < 64) : 0 ≤ pBe t p ∧ pBe t p ≤ 2187 := by
  have h2 := pB_b t (7 - p / 8).toNat (p % 8)
  have h3 : (3 : Int) ^ (7 - p / 8).toNat ≤ 3 ^ 7 := by
    rcases (show (7 - p / 8).toNat = 0 ∨ (7 - p / 8).toNat = 1 ∨ (7 - p / 8).toNat = 2 ∨ (7 - p / 8).toNat = 3 ∨ (7 - p / 8).toNat = 4 ∨ (7 - p / 8).toNat = 5 ∨ (7 - p / 8).toNat = 6 ∨ (7 - p / 8).toNat = 7 by omega) with h | h | h | h | h | h | h | h <;> rw [h] <;> decide
  exact ⟨h2.1, Int.le_trans h2.2 h3⟩
theorem pAb_b (t : Int → Int) {p : Int} (hp : 0 ≤ p ∧ p < 64) : 0 ≤ pAb t p ∧ pAb t p ≤ 2187 := by
  have h2 := pA_b t (p / 8).toNat (p % 8)
  have h3 : (3 : Int) ^ (p / 8).toNat ≤ 3 ^ 7 := by
    rcases (show (p / 8).toNat = 0 ∨ (p / 8).toNat = 1 ∨ (p / 8).toNat = 2 ∨ (p / 8).toNat = 3 ∨ (p / 8).toNat = 4 ∨ (p / 8).toNat = 5 ∨ (p / 8).toNat = 6 ∨ (p / 8).toNat = 7 by omega) with h | h | h | h | h | h | h | h <;> rw [h] <;> decide
  exact ⟨h2.1, Int.le_trans h2.2 h3⟩
theorem pAll_b (t : Int → Int) : 0 ≤ pAll t ∧ pAll t ≤ 17496 := by
  refine ⟨sumI_nn 8 (fun j h0 h1 => (pBe_b t ⟨h0, by omega⟩).1), ?_⟩
  have h := sumI_b (f := pBe t) (b := 2187) 8 (fun j h0 h1 => (pBe_b t ⟨h0, by omega⟩).2)
  unfold pAll
  omega
/-! how many columns are open (n of them looked at), the least one, the greatest one -/
def cOpen (o : Int → Int) : Nat → Int
  | 0 => 0
  | n + 1 => cOpen o n + (if 0 < o (n : Int) then 1 else 0)
def cLeast (o : Int → Int) : Nat → Int
  | 0 => -5
  | n + 1 => if 0 < o (n : Int) ∧ cLeast o n = -5 then (n : Int) else cLeast o n
def cMost (o : Int → Int) : Nat → Int
  | 0 => -5
  | n + 1 => if 0 < o (n : Int) then (n : Int) else cMost o n
/-- the row with the most, of n + 1 rows, the lowest of several -/
def cRow (g : Int → Int) : Nat → Int
  | 0 => 0
  | n + 1 => if g (cRow g n) < g ((n : Int) + 1) then (n : Int) + 1 else cRow g n
theorem cOpen_b (o : Int → Int) : ∀ n : Nat, 0 ≤ cOpen o n ∧ cOpen o n ≤ n
  | 0 => by show (0 : Int) ≤ 0 ∧ (0 : Int) ≤ ((0 : Nat) : Int); omega
  | n + 1 => by
    have h := cOpen_b o n
    show 0 ≤ cOpen o n + (if 0 < o (n : Int) then 1 else 0) ∧ cOpen o n + (if 0 < o (n : Int) then 1 else 0) ≤ ((n + 1 : Nat) : Int)
    split <;> omega
theorem cRow_b (g : Int → Int) : ∀ n : Nat, 0 ≤ cRow g n ∧ cRow g n ≤ n
  | 0 => by show (0 : Int) ≤ 0 ∧ (0 : Int) ≤ ((0 : Nat) : Int); omega
  | n + 1 => by
    have h := cRow_b g n
    show 0 ≤ (if g (cRow g n) < g ((n : Int) + 1) then (n : Int) + 1 else cRow g n) ∧ (if g (cRow g n) < g ((n : Int) + 1) then (n : Int) + 1 else cRow g n) ≤ ((n + 1 : Nat) : Int)
    split <;> omega
theorem cOpen_S {o : Int → Int} {i : Int} (h : 0 ≤ i) : cOpen o (i + 1).toNat = cOpen o i.toNat + (if 0 < o i then 1 else 0) := by
  rw [show (i + 1).toNat = i.toNat + 1 by omega]
  show cOpen o i.toNat + (if 0 < o ((i.toNat : Nat) : Int) then 1 else 0) = _
  rw [Int.toNat_of_nonneg h]
theorem cLeast_S {o : Int → Int} {i : Int} (h : 0 ≤ i) : cLeast o (i + 1).toNat = if 0 < o i ∧ cLeast o i.toNat = -5 then i else cLeast o i.toNat := by
  rw [show (i + 1).toNat = i.toNat + 1 by omega]
  show (if 0 < o ((i.toNat : Nat) : Int) ∧ cLeast o i.toNat = -5 then ((i.toNat : Nat) : Int) else cLeast o i.toNat) = _
  rw [Int.toNat_of_nonneg h]
theorem cMost_S {o : Int → Int} {i : Int} (h : 0 ≤ i) : cMost o (i + 1).toNat = if 0 < o i then i else cMost o i.toNat := by
  rw [show (i + 1).toNat = i.toNat + 1 by omega]
  show (if 0 < o ((i.toNat : Nat) : Int) then ((i.toNat : Nat) : Int) else cMost o i.toNat) = _
  rw [Int.toNat_of_nonneg h]
theorem cRow_S {g : Int → Int} {i : Int} (h : 0 ≤ i) : cRow g (i + 1).toNat = if g (cRow g i.toNat) < g (i + 1) then i + 1 else cRow g i.toNat := by
  rw [show (i + 1).toNat = i.toNat + 1 by omega]
  show (if g (cRow g i.toNat) < g (((i.toNat : Nat) : Int) + 1) then ((i.toNat : Nat) : Int) + 1 else cRow g i.toNat) = _
  rw [Int.toNat_of_nonneg h]
/-- none below c is open: the least of all is c, where c is open -/
theorem cLeast_none {o : Int → Int} : ∀ (n : Nat), (∀ j : Int, 0 ≤ j → j < n → ¬ 0 < o j) → cLeast o n = -5
  | 0, _ => rfl
  | n + 1, h => by
    show (if 0 < o (n : Int) ∧ cLeast o n = -5 then (n : Int) else cLeast o n) = -5
    rw [if_neg (fun z => h n (by omega) (by omega) z.1)]
    exact cLeast_none n (fun j h0 h1 => h j h0 (by omega))
theorem cLeast_at {o : Int → Int} {c : Int} (h0 : 0 ≤ c) (hn : ∀ j : Int, 0 ≤ j → j < c → ¬ 0 < o j) (ho : 0 < o c) : ∀ n : Nat, c < n → cLeast o n = c
  | 0, h => absurd h (by omega)
  | n + 1, h => by
    show (if 0 < o (n : Int) ∧ cLeast o n = -5 then (n : Int) else cLeast o n) = c
    by_cases hc : c = n
    · rw [if_pos ⟨by rw [← hc]; exact ho, cLeast_none n (fun j a b => hn j a (by omega))⟩, hc]
    · have ih := cLeast_at h0 hn ho n (by omega)
      rw [ih, if_neg (fun z => by omega)]
theorem cMost_at {o : Int → Int} {c : Int} (h0 : 0 ≤ c) (ho : 0 < o c) : ∀ n : Nat, c < n → (∀ j : Int, c < j → j < n → ¬ 0 < o j) → cMost o n = c
  | 0, h, _ => absurd h (by omega)
  | n + 1, h, hn => by
    show (if 0 < o (n : Int) then (n : Int) else cMost o n) = c
    by_cases hc : c = n
    · rw [if_pos (by rw [← hc]; exact ho), hc]
    · rw [if_neg (hn n (by omega) (by omega))]
      exact cMost_at h0 ho n (by omega) (fun j a b => hn j a (by omega))
/-! ===== the cells of the classes' objects ===== -/
def wV (Y : Nat → ClassId) (h : Nat) (q : Nat → Nat) (wo fe : Int → Int) (mu : Int) (pl st sa fl to se : Int → Int) (da lo re sm : Int) : va_W :=
  [ob h 3 [.ref (q 0), .ref (q 1), .int (jI mu), .ref (q 2), .ref (q 3), .ref (q 4), .ref (q 5), .ref (q 6), .ref (q 7), .int (jI da), .int (jI lo), .int (jI re), .int (jI sm)], aN Y (q 0) 64 wo, aZ Y (q 1) 64 fe, aN Y (q 2) 3 pl, aN Y (q 3) 3 st, aN Y (q 4) 3 sa, aN Y (q 5) 3 fl, aN Y (q 6) 8 to, aN Y (q 7) 3 se]
/-- a wood that holds the state z: settings 0-2, day 3, lost 4, regretted 5, storms 6, hints 7-14, crews 15-26 (plot, steps, saved, felled), worths 28-91, mud 92-155, felled 156-219 -/
def wZ (Y : Nat → ClassId) (h : Nat) (q : Nat → Nat) (z : Int → Int) : va_W :=
  wV Y h q (fun j => z (28 + j)) (fun j => z (156 + j)) (z 92) (fun j => z (15 + 4 * j)) (fun j => z (16 + 4 * j)) (fun j => z (17 + 4 * j)) (fun j => z (18 + 4 * j)) (fun j => z (7 + j)) (fun j => z j) (z 3) (z 4) (z 5) (z 6)
def pV (Y : Nat → ClassId) (h : Nat) (q : Nat → Nat) (ab be : Int → Int) (al : Int) : va_W := [ob h 2 [.ref (q 0), .ref (q 1), .int (jI al)], aN Y (q 0) 64 ab, aN Y (q 1) 64 be]
def pT (Y : Nat → ClassId) (h : Nat) (q : Nat → Nat) (t : Int → Int) : va_W := pV Y h q (pAb t) (pBe t) (pAll t)
def dV (Y : Nat → ClassId) (h q : Nat) (tx : Int → Int) (ln an ki fi se : Int) : va_W := [ob h 0 [.ref q, .int (jI ln), .int (jI an), .int (jI ki), .int (jI fi), .int (jI se)], aC Y q 60 tx]
def mV (Y : Nat → ClassId) (h : Nat) (q : Nat → Nat) (z sp pa : Int → Int) (st : Int) (ke : Int → Int) (ik : Int) (tx : Int → Int) (ln sn se : Int) (dn up fa lo to : Int → Int) (tm so : Int) : va_W :=
  [ob h 5 [.ref (q 0), .ref (q 1), .ref (q 2), .int (jI st), .ref (q 3), .int (jI ik), .ref (q 4), .int (jI ln), .int (jI sn), .int (jI se), .ref (q 5), .ref (q 6), .ref (q 7), .ref (q 8), .ref (q 9), .int (jI tm), .int (jI so)], aN Y (q 0) 220 z, aN Y (q 1) 220 sp, aN Y (q 2) 880 pa, aN Y (q 3) 220 ke, aN Y (q 4) 60 tx, aN Y (q 5) 64 dn, aN Y (q 6) 64 up, aN Y (q 7) 64 fa, aN Y (q 8) 64 lo, aN Y (q 9) 93 to]
theorem wV_le {Y : Nat → ClassId} {h : Nat} {q : Nat → Nat} {wo fe : Int → Int} {mu : Int} {pl st sa fl to se : Int → Int} {da lo re sm : Int} {wo' fe' : Int → Int} {mu' : Int} {pl' st' sa' fl' to' se' : Int → Int} {da' lo' re' sm' : Int}
    (h1 : ∀ j : Int, 0 ≤ j → j < (64 : Nat) → wo j = wo' j) (h2 : ∀ j : Int, 0 ≤ j → j < (64 : Nat) → fe j = fe' j) (h3 : mu = mu') (h4 : ∀ j : Int, 0 ≤ j → j < (3 : Nat) → pl j = pl' j) (h5 : ∀ j : Int, 0 ≤ j → j < (3 : Nat) → st j = st' j) (h6 : ∀ j : Int, 0 ≤ j → j < (3 : Nat) → sa j = sa' j) (h7 : ∀ j : Int, 0 ≤ j → j < (3 : Nat) → fl j = fl' j) (h8 : ∀ j : Int, 0 ≤ j → j < (8 : Nat) → to j = to' j) (h9 : ∀ j : Int, 0 ≤ j → j < (3 : Nat) → se j = se' j) (h10 : da = da') (h11 : lo = lo') (h12 : re = re') (h13 : sm = sm') :
    wLe (wV Y h q wo fe mu pl st sa fl to se da lo re sm) (wV Y h q wo' fe' mu' pl' st' sa' fl' to' se' da' lo' re' sm') := by
  subst h3; subst h10; subst h11; subst h12; subst h13
  exact wLe.cons (cLe.rf _) (wLe.cons (cLe.ar _ _ _ h1) (wLe.cons (cLe.ar _ _ _ h2) (wLe.cons (cLe.ar _ _ _ h4) (wLe.cons (cLe.ar _ _ _ h5) (wLe.cons (cLe.ar _ _ _ h6) (wLe.cons (cLe.ar _ _ _ h7) (wLe.cons (cLe.ar _ _ _ h8) (wLe.cons (cLe.ar _ _ _ h9) wLe.nil))))))))
theorem pV_le {Y : Nat → ClassId} {h : Nat} {q : Nat → Nat} {ab be ab' be' : Int → Int} {al al' : Int} (h1 : ∀ j : Int, 0 ≤ j → j < (64 : Nat) → ab j = ab' j) (h2 : ∀ j : Int, 0 ≤ j → j < (64 : Nat) → be j = be' j) (h3 : al = al') : wLe (pV Y h q ab be al) (pV Y h q ab' be' al') := by
  subst h3
  exact wLe.cons (cLe.rf _) (wLe.cons (cLe.ar _ _ _ h1) (wLe.cons (cLe.ar _ _ _ h2) wLe.nil))
