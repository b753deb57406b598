/-! ===== paths: sums over a row, columns of a row ===== -/
theorem hi_row (f : Int → Int) (w : Int) {r c : Int} (hc : 0 ≤ c ∧ c < 8) : pHi f (r * 8 + c) w = sumI 8 (fun d => if -w ≤ d - c ∧ d - c ≤ w then f (r * 8 + d) else 0) := by
  unfold pHi
  rw [show (r * 8 + c) % 8 = c by omega, show (r * 8 + c) / 8 = r by omega]
theorem hi_sum0 (g : Int → Int) : sumI 8 (fun c => sumI 8 (fun d => if -(0 : Int) ≤ d - c ∧ d - c ≤ 0 then g d else 0)) = sumI 8 g := by
  simp only [sum8]
  simp (config := { decide := true }) only [if_true, if_false]
  omega
theorem hi_sum1 (g : Int → Int) (h : ∀ c : Int, 0 ≤ c → c < 8 → 0 ≤ g c) : sumI 8 g ≤ sumI 8 (fun c => sumI 8 (fun d => if -(1 : Int) ≤ d - c ∧ d - c ≤ 1 then g d else 0)) ∧ sumI 8 (fun c => sumI 8 (fun d => if -(1 : Int) ≤ d - c ∧ d - c ≤ 1 then g d else 0)) ≤ 3 * sumI 8 g := by
  have h0 := h 0 (by omega) (by omega)
  have h1 := h 1 (by omega) (by omega)
  have h2 := h 2 (by omega) (by omega)
  have h3 := h 3 (by omega) (by omega)
  have h4 := h 4 (by omega) (by omega)
  have h5 := h 5 (by omega) (by omega)
  have h6 := h 6 (by omega) (by omega)
  have h7 := h 7 (by omega) (by omega)
  simp only [sum8]
  simp (config := { decide := true }) only [if_true, if_false]
  omega
theorem hi_sum2 (g : Int → Int) (h : ∀ c : Int, 0 ≤ c → c < 8 → 0 ≤ g c) : sumI 8 g ≤ sumI 8 (fun c => sumI 8 (fun d => if -(2 : Int) ≤ d - c ∧ d - c ≤ 2 then g d else 0)) ∧ sumI 8 (fun c => sumI 8 (fun d => if -(2 : Int) ≤ d - c ∧ d - c ≤ 2 then g d else 0)) ≤ 5 * sumI 8 g := by
  have h0 := h 0 (by omega) (by omega)
  have h1 := h 1 (by omega) (by omega)
  have h2 := h 2 (by omega) (by omega)
  have h3 := h 3 (by omega) (by omega)
  have h4 := h 4 (by omega) (by omega)
  have h5 := h 5 (by omega) (by omega)
  have h6 := h 6 (by omega) (by omega)
  have h7 := h 7 (by omega) (by omega)
  simp only [sum8]
  simp (config := { decide := true }) only [if_true, if_false]
  omega
theorem hi_rows {z : Int → Int} (hI : Inv z) {r : Int} (hr : 0 ≤ r ∧ r < 8) : pAll (tZ z) ≤ sumI 8 (fun c => zHi z (tZ z) (r * 8 + c)) ∧ sumI 8 (fun c => zHi z (tZ z) (r * 8 + c)) ≤ pAll (tZ z) * (2 * z 1 + 1) := by
  have e : sumI 8 (fun c => zHi z (tZ z) (r * 8 + c)) = sumI 8 (fun c => sumI 8 (fun d => if -(z 1) ≤ d - c ∧ d - c ≤ z 1 then pTh (tZ z) (r * 8 + d) else 0)) := sumI_congr 8 (fun c a b => hi_row (pTh (tZ z)) (z 1) ⟨a, by omega⟩)
  have f : sumI 8 (fun d => pTh (tZ z) (r * 8 + d)) = pAll (tZ z) := pFl_all (tZ z) hr
  have nn : ∀ c : Int, 0 ≤ c → c < 8 → 0 ≤ pTh (tZ z) (r * 8 + c) := fun c a b => (pTh_b (tZ z) (p := r * 8 + c) (by omega)).1
  have s1 := hI.s1
  rw [e, ← f]
  rcases (show z 1 = 0 ∨ z 1 = 1 ∨ z 1 = 2 by omega) with y | y | y
  · rw [y]
    have k := hi_sum0 (fun d => pTh (tZ z) (r * 8 + d))
    rw [k]
    omega
  · rw [y]
    have k := hi_sum1 (fun d => pTh (tZ z) (r * 8 + d)) nn
    omega
  · rw [y]
    have k := hi_sum2 (fun d => pTh (tZ z) (r * 8 + d)) nn
    omega
/-! the least and the greatest of the columns -/
theorem cLeast_sp (o : Int → Int) : ∀ n : Nat, (cLeast o n = -5 ∧ ∀ j : Int, 0 ≤ j → j < n → ¬ 0 < o j) ∨ (0 ≤ cLeast o n ∧ cLeast o n < n ∧ 0 < o (cLeast o n) ∧ ∀ j : Int, 0 ≤ j → j < cLeast o n → ¬ 0 < o j)
  | 0 => Or.inl ⟨rfl, fun j a b => by omega⟩
  | n + 1 => by
    show ((if 0 < o (n : Int) ∧ cLeast o n = -5 then (n : Int) else cLeast o n) = -5 ∧ _) ∨ (0 ≤ (if 0 < o (n : Int) ∧ cLeast o n = -5 then (n : Int) else cLeast o n) ∧ (if 0 < o (n : Int) ∧ cLeast o n = -5 then (n : Int) else cLeast o n) < ((n + 1 : Nat) : Int) ∧ 0 < o (if 0 < o (n : Int) ∧ cLeast o n = -5 then (n : Int) else cLeast o n) ∧ ∀ j : Int, 0 ≤ j → j < (if 0 < o (n : Int) ∧ cLeast o n = -5 then (n : Int) else cLeast o n) → ¬ 0 < o j)
    rcases cLeast_sp o n with ⟨h1, h2⟩ | ⟨h1, h2, h3, h4⟩
    · by_cases e : 0 < o (n : Int)
      · rw [if_pos ⟨e, h1⟩]
        exact Or.inr ⟨by omega, by omega, e, fun j a b => h2 j a b⟩
      · rw [if_neg (fun q => e q.1)]
        refine Or.inl ⟨h1, fun j a b => ?_⟩
        by_cases y : j = (n : Int)
        · rw [y]; exact e
        · exact h2 j a (by omega)
    · rw [if_neg (fun q => by omega)]
      exact Or.inr ⟨h1, by omega, h3, h4⟩
theorem cMost_sp (o : Int → Int) : ∀ n : Nat, (cMost o n = -5 ∧ ∀ j : Int, 0 ≤ j → j < n → ¬ 0 < o j) ∨ (0 ≤ cMost o n ∧ cMost o n < n ∧ 0 < o (cMost o n) ∧ ∀ j : Int, cMost o n < j → j < n → ¬ 0 < o j)
  | 0 => Or.inl ⟨rfl, fun j a b => by omega⟩
  | n + 1 => by
    show ((if 0 < o (n : Int) then (n : Int) else cMost o n) = -5 ∧ _) ∨ (0 ≤ (if 0 < o (n : Int) then (n : Int) else cMost o n) ∧ (if 0 < o (n : Int) then (n : Int) else cMost o n) < ((n + 1 : Nat) : Int) ∧ 0 < o (if 0 < o (n : Int) then (n : Int) else cMost o n) ∧ ∀ j : Int, (if 0 < o (n : Int) then (n : Int) else cMost o n) < j → j < ((n + 1 : Nat) : Int) → ¬ 0 < o j)
    by_cases e : 0 < o (n : Int)
    · rw [if_pos e]
      exact Or.inr ⟨by omega, by omega, e, fun j a b => by omega⟩
    · rw [if_neg e]
      rcases cMost_sp o n with ⟨h1, h2⟩ | ⟨h1, h2, h3, h4⟩
      · refine Or.inl ⟨h1, fun j a b => ?_⟩
        by_cases y : j = (n : Int)
        · rw [y]; exact e
        · exact h2 j a (by omega)
      · refine Or.inr ⟨h1, by omega, h3, fun j a b => ?_⟩
        by_cases y : j = (n : Int)
        · rw [y]; exact e
        · exact h4 j a (by omega)
/-- a row of the paths: its least column, its greatest column -/
def rL (t : Int → Int) (r : Int) : Int := cLeast (fun c => pTh t (r * 8 + c)) 8
def rG (t : Int → Int) (r : Int) : Int := cMost (fun c => pTh t (r * 8 + c)) 8
theorem rL_sp {t : Int → Int} (ha : 1 ≤ pAll t) {r : Int} (hr : 0 ≤ r ∧ r < 8) : (0 ≤ rL t r ∧ rL t r ≤ 7) ∧ 0 < pTh t (r * 8 + rL t r) ∧ ∀ j : Int, 0 ≤ j → j < rL t r → ¬ 0 < pTh t (r * 8 + j) := by
  obtain ⟨c, h0, h1, h2⟩ := pTh_ex ha hr
  rcases cLeast_sp (fun c => pTh t (r * 8 + c)) 8 with ⟨_, k⟩ | ⟨k1, k2, k3, k4⟩
  · exact absurd h2 (k c h0 h1)
  · have k1' : 0 ≤ rL t r := k1
    have k2' : rL t r < ((8 : Nat) : Int) := k2
    exact ⟨⟨k1', by omega⟩, k3, k4⟩
theorem rG_sp {t : Int → Int} (ha : 1 ≤ pAll t) {r : Int} (hr : 0 ≤ r ∧ r < 8) : (0 ≤ rG t r ∧ rG t r ≤ 7) ∧ 0 < pTh t (r * 8 + rG t r) ∧ ∀ j : Int, rG t r < j → j < 8 → ¬ 0 < pTh t (r * 8 + j) := by
  obtain ⟨c, h0, h1, h2⟩ := pTh_ex ha hr
  rcases cMost_sp (fun c => pTh t (r * 8 + c)) 8 with ⟨_, k⟩ | ⟨k1, k2, k3, k4⟩
  · exact absurd h2 (k c h0 h1)
  · have k1' : 0 ≤ rG t r := k1
    have k2' : rG t r < ((8 : Nat) : Int) := k2
    exact ⟨⟨k1', by omega⟩, k3, fun j a b => k4 j a (by omega)⟩
theorem br1 {z : Int → Int} (h : Inv z) {r : Int} (hr : 0 ≤ r ∧ r ≤ 7) : 0 ≤ cLeast (fun c => pTh (tZ z) (r * 8 + c)) 8 ∧ cLeast (fun c => pTh (tZ z) (r * 8 + c)) 8 ≤ 7 := (rL_sp h.pa (r := r) (by omega)).1
theorem br2 {z : Int → Int} (h : Inv z) {r : Int} (hr : 0 ≤ r ∧ r ≤ 7) : 0 ≤ cMost (fun c => pTh (tZ z) (r * 8 + c)) 8 ∧ cMost (fun c => pTh (tZ z) (r * 8 + c)) 8 ≤ 7 := (rG_sp h.pa (r := r) (by omega)).1
theorem pTh_n (t : Int → Int) {r c : Int} (hr : 0 ≤ r ∧ r < 8) (hc : 0 ≤ c ∧ c < 8) : 0 ≤ pTh t (r * 8 + c) := (pTh_b t (p := r * 8 + c) (by omega)).1
theorem mul_pos1 {a b : Int} (h : 0 < a * b) (hb : 0 ≤ b) : 0 < a ∧ 0 < b := by
  have h1 : ¬ b = 0 := fun e => by rw [e, Int.mul_zero] at h; omega
  refine ⟨?_, by omega⟩
  by_cases q : 0 < a
  · exact q
  · have := Int.mul_le_mul_of_nonneg_right (show a ≤ 0 by omega) hb
    rw [Int.zero_mul] at this
    omega
/-- a column of a path that is left has a neighbour in the row above .. -/
theorem nb_up {t : Int → Int} {r c : Int} (hr : 1 ≤ r ∧ r < 8) (hc : 0 ≤ c ∧ c < 8) (h : 0 < pTh t (r * 8 + c)) : ∃ d : Int, (0 ≤ d ∧ d < 8) ∧ (d - c < 2 ∧ c - d < 2) ∧ 0 < pTh t ((r - 1) * 8 + d) := by
  rw [pTh_up hr hc] at h
  have hb := (pBe_b t (p := r * 8 + c) (by omega)).1
  obtain ⟨h1, h2⟩ := mul_pos1 h hb
  rw [pAr_at (pAb t) (r := r - 1) (by omega) hc] at h1
  have key : ∀ d : Int, 0 ≤ d → d < 8 → d - c < 2 → c - d < 2 → 0 < pAb t ((r - 1) * 8 + d) → 0 < pTh t ((r - 1) * 8 + d) := by
    intro d a b e1 e2 hA
    have op : t (((r - 1) * 8 + d) / 8) = -5 ∨ t (((r - 1) * 8 + d) / 8) = ((r - 1) * 8 + d) % 8 := by
      by_cases y : t (((r - 1) * 8 + d) / 8) = -5 ∨ t (((r - 1) * 8 + d) / 8) = ((r - 1) * 8 + d) % 8
      · exact y
      · rw [pAb_no (by omega) y] at hA; omega
    have e3 := pBe_S (t := t) (p := (r - 1) * 8 + d) (by omega) op
    rw [show (r - 1) * 8 + d + 8 = r * 8 + d by omega, pAr_at (pBe t) (by omega) ⟨a, b⟩] at e3
    have n0 := (pBe_b t (p := r * 8 + d) (by omega)).1
    have pos : 0 < pBe t ((r - 1) * 8 + d) := by
      rw [e3]
      rcases (show d = c ∨ d = c + 1 ∨ d = c - 1 by omega) with y | y | y
      · subst y
        have n1 : 0 ≤ (if 0 < d then pBe t (r * 8 + d - 1) else 0) := by
          split
          · exact (pBe_b t (p := r * 8 + d - 1) (by omega)).1
          · omega
        have n2 : 0 ≤ (if d < 7 then pBe t (r * 8 + d + 1) else 0) := by
          split
          · exact (pBe_b t (p := r * 8 + d + 1) (by omega)).1
          · omega
        omega
      · have n2 : 0 ≤ (if d < 7 then pBe t (r * 8 + d + 1) else 0) := by
          split
          · exact (pBe_b t (p := r * 8 + d + 1) (by omega)).1
          · omega
        rw [if_pos (show 0 < d by omega), show r * 8 + d - 1 = r * 8 + c by omega]
        omega
      · have n1 : 0 ≤ (if 0 < d then pBe t (r * 8 + d - 1) else 0) := by
          split
          · exact (pBe_b t (p := r * 8 + d - 1) (by omega)).1
          · omega
        rw [if_pos (show d < 7 by omega), show r * 8 + d + 1 = r * 8 + c by omega]
        omega
    exact Int.mul_pos hA pos
  by_cases a0 : 0 < pAb t ((r - 1) * 8 + c)
  · exact ⟨c, hc, by omega, key c hc.1 hc.2 (by omega) (by omega) a0⟩
  · by_cases a1 : 0 < c ∧ 0 < pAb t ((r - 1) * 8 + c - 1)
    · exact ⟨c - 1, by omega, by omega, key (c - 1) (by omega) (by omega) (by omega) (by omega) (by rw [show (r - 1) * 8 + (c - 1) = (r - 1) * 8 + c - 1 by omega]; exact a1.2)⟩
    · by_cases a2 : c < 7 ∧ 0 < pAb t ((r - 1) * 8 + c + 1)
      · exact ⟨c + 1, by omega, by omega, key (c + 1) (by omega) (by omega) (by omega) (by omega) (by rw [show (r - 1) * 8 + (c + 1) = (r - 1) * 8 + c + 1 by omega]; exact a2.2)⟩
      · exfalso
        have b1 : (if 0 < c then pAb t ((r - 1) * 8 + c - 1) else 0) ≤ 0 := by
          by_cases y : 0 < c
          · rw [if_pos y]; exact Int.not_lt.mp (fun q => a1 ⟨y, q⟩)
          · rw [if_neg y]; omega
        have b2 : (if c < 7 then pAb t ((r - 1) * 8 + c + 1) else 0) ≤ 0 := by
          by_cases y : c < 7
          · rw [if_pos y]; exact Int.not_lt.mp (fun q => a2 ⟨y, q⟩)
          · rw [if_neg y]; omega
        omega
/-- .. and in the row below -/
theorem nb_dn {t : Int → Int} {r c : Int} (hr : 0 ≤ r ∧ r < 7) (hc : 0 ≤ c ∧ c < 8) (h : 0 < pTh t (r * 8 + c)) : ∃ d : Int, (0 ≤ d ∧ d < 8) ∧ (d - c < 2 ∧ c - d < 2) ∧ 0 < pTh t ((r + 1) * 8 + d) := by
  rw [pTh_dn hr hc, Int.mul_comm] at h
  have hb := (pAb_b t (p := r * 8 + c) (by omega)).1
  obtain ⟨h1, h2⟩ := mul_pos1 h hb
  rw [pAr_at (pBe t) (r := r + 1) (by omega) hc] at h1
  have key : ∀ d : Int, 0 ≤ d → d < 8 → d - c < 2 → c - d < 2 → 0 < pBe t ((r + 1) * 8 + d) → 0 < pTh t ((r + 1) * 8 + d) := by
    intro d a b e1 e2 hA
    have op : t (((r + 1) * 8 + d) / 8) = -5 ∨ t (((r + 1) * 8 + d) / 8) = ((r + 1) * 8 + d) % 8 := by
      by_cases y : t (((r + 1) * 8 + d) / 8) = -5 ∨ t (((r + 1) * 8 + d) / 8) = ((r + 1) * 8 + d) % 8
      · exact y
      · rw [pBe_no (by omega) y] at hA; omega
    have e3 := pAb_S (t := t) (p := (r + 1) * 8 + d) (by omega) op
    rw [show (r + 1) * 8 + d - 8 = r * 8 + d by omega, pAr_at (pAb t) (by omega) ⟨a, b⟩] at e3
    have n0 := (pAb_b t (p := r * 8 + d) (by omega)).1
    have pos : 0 < pAb t ((r + 1) * 8 + d) := by
      rw [e3]
      rcases (show d = c ∨ d = c + 1 ∨ d = c - 1 by omega) with y | y | y
      · subst y
        have n1 : 0 ≤ (if 0 < d then pAb t (r * 8 + d - 1) else 0) := by
          split
          · exact (pAb_b t (p := r * 8 + d - 1) (by omega)).1
          · omega
        have n2 : 0 ≤ (if d < 7 then pAb t (r * 8 + d + 1) else 0) := by
          split
          · exact (pAb_b t (p := r * 8 + d + 1) (by omega)).1
          · omega
        omega
      · have n2 : 0 ≤ (if d < 7 then pAb t (r * 8 + d + 1) else 0) := by
          split
          · exact (pAb_b t (p := r * 8 + d + 1) (by omega)).1
          · omega
        rw [if_pos (show 0 < d by omega), show r * 8 + d - 1 = r * 8 + c by omega]
        omega
      · have n1 : 0 ≤ (if 0 < d then pAb t (r * 8 + d - 1) else 0) := by
          split
          · exact (pAb_b t (p := r * 8 + d - 1) (by omega)).1
          · omega
        rw [if_pos (show d < 7 by omega), show r * 8 + d + 1 = r * 8 + c by omega]
        omega
    exact Int.mul_pos pos hA
  by_cases a0 : 0 < pBe t ((r + 1) * 8 + c)
  · exact ⟨c, hc, by omega, key c hc.1 hc.2 (by omega) (by omega) a0⟩
  · by_cases a1 : 0 < c ∧ 0 < pBe t ((r + 1) * 8 + c - 1)
    · exact ⟨c - 1, by omega, by omega, key (c - 1) (by omega) (by omega) (by omega) (by omega) (by rw [show (r + 1) * 8 + (c - 1) = (r + 1) * 8 + c - 1 by omega]; exact a1.2)⟩
    · by_cases a2 : c < 7 ∧ 0 < pBe t ((r + 1) * 8 + c + 1)
      · exact ⟨c + 1, by omega, by omega, key (c + 1) (by omega) (by omega) (by omega) (by omega) (by rw [show (r + 1) * 8 + (c + 1) = (r + 1) * 8 + c + 1 by omega]; exact a2.2)⟩
      · exfalso
        have b1 : (if 0 < c then pBe t ((r + 1) * 8 + c - 1) else 0) ≤ 0 := by
          by_cases y : 0 < c
          · rw [if_pos y]; exact Int.not_lt.mp (fun q => a1 ⟨y, q⟩)
          · rw [if_neg y]; omega
        have b2 : (if c < 7 then pBe t ((r + 1) * 8 + c + 1) else 0) ≤ 0 := by
          by_cases y : c < 7
          · rw [if_pos y]; exact Int.not_lt.mp (fun q => a2 ⟨y, q⟩)
          · rw [if_neg y]; omega
        omega
theorem rL_le {t : Int → Int} (ha : 1 ≤ pAll t) {r c : Int} (hr : 0 ≤ r ∧ r < 8) (hc : 0 ≤ c ∧ c < 8) (h : 0 < pTh t (r * 8 + c)) : rL t r ≤ c := by
  by_cases q : rL t r ≤ c
  · exact q
  · exact absurd h ((rL_sp ha hr).2.2 c hc.1 (by omega))
theorem rG_le {t : Int → Int} (ha : 1 ≤ pAll t) {r c : Int} (hr : 0 ≤ r ∧ r < 8) (hc : 0 ≤ c ∧ c < 8) (h : 0 < pTh t (r * 8 + c)) : c ≤ rG t r := by
  by_cases q : c ≤ rG t r
  · exact q
  · exact absurd h ((rG_sp ha hr).2.2 c (by omega) hc.2)
theorem rows_near {t : Int → Int} (ha : 1 ≤ pAll t) {r : Int} (hr : 1 ≤ r ∧ r < 8) : (rL t r - rL t (r - 1) < 2 ∧ rL t (r - 1) - rL t r < 2) ∧ (rG t r - rG t (r - 1) < 2 ∧ rG t (r - 1) - rG t r < 2) := by
  have a1 := rL_sp ha (r := r) (by omega)
  have a2 := rL_sp ha (r := r - 1) (by omega)
  have a3 := rG_sp ha (r := r) (by omega)
  have a4 := rG_sp ha (r := r - 1) (by omega)
  obtain ⟨d1, b1, c1, e1⟩ := nb_up (r := r) hr (by omega) a1.2.1
  obtain ⟨d2, b2, c2, e2⟩ := nb_dn (r := r - 1) (by omega) (by omega) a2.2.1
  obtain ⟨d3, b3, c3, e3⟩ := nb_up (r := r) hr (by omega) a3.2.1
  obtain ⟨d4, b4, c4, e4⟩ := nb_dn (r := r - 1) (by omega) (by omega) a4.2.1
  rw [show r - 1 + 1 = r by omega] at e2 e4
  have f1 := rL_le ha (r := r - 1) (by omega) b1 e1
  have f2 := rL_le ha (r := r) (by omega) b2 e2
  have f3 := rG_le ha (r := r - 1) (by omega) b3 e3
  have f4 := rG_le ha (r := r) (by omega) b4 e4
  omega
/-- a row that is told has one column -/
theorem row_told {t : Int → Int} (ha : 1 ≤ pAll t) {r : Int} (hr : 0 ≤ r ∧ r < 8) (h : ¬ t r = -5) : rL t r = t r ∧ rG t r = t r := by
  have key : ∀ c : Int, 0 ≤ c → c < 8 → 0 < pTh t (r * 8 + c) → c = t r := by
    intro c a b q
    by_cases y : t ((r * 8 + c) / 8) = -5 ∨ t ((r * 8 + c) / 8) = (r * 8 + c) % 8
    · rw [show (r * 8 + c) / 8 = r by omega, show (r * 8 + c) % 8 = c by omega] at y
      rcases y with y | y
      · exact absurd y h
      · exact y.symm
    · have e : pTh t (r * 8 + c) = 0 := by
        unfold pTh
        rw [pAb_no (by omega) y, Int.zero_mul]
      omega
  have a1 := rL_sp ha hr
  have a2 := rG_sp ha hr
  exact ⟨key _ a1.1.1 (by omega) a1.2.1, key _ a2.1.1 (by omega) a2.2.1⟩
/-! the row whose hint tells the most -/
theorem cOpen_1 {o : Int → Int} {i : Int} (hi : 0 ≤ i) (ho : 0 < o i) : ∀ n : Nat, i < n → 1 ≤ cOpen o n
  | 0, h => by omega
  | n + 1, h => by
    have b := (cOpen_b o n).1
    show 1 ≤ cOpen o n + (if 0 < o (n : Int) then 1 else 0)
    by_cases y : i = (n : Int)
    · rw [if_pos (by rw [← y]; exact ho)]; omega
    · have := cOpen_1 hi ho n (by omega)
      split <;> omega
theorem cOpen_2 {o : Int → Int} {i j : Int} (hi : 0 ≤ i) (hij : i < j) (ho : 0 < o i) (hp : 0 < o j) : ∀ n : Nat, j < n → 2 ≤ cOpen o n
  | 0, h => by omega
  | n + 1, h => by
    show 2 ≤ cOpen o n + (if 0 < o (n : Int) then 1 else 0)
    by_cases y : j = (n : Int)
    · have := cOpen_1 hi ho n (by omega)
      rw [if_pos (by rw [← y]; exact hp)]; omega
    · have := cOpen_2 hi hij ho hp n (by omega)
      split <;> omega
theorem cOpen_s {o : Int → Int} {i : Int} : ∀ n : Nat, (∀ j : Int, 0 ≤ j → j < n → ¬ j = i → ¬ 0 < o j) → cOpen o n ≤ 1 ∧ (n ≤ i → cOpen o n ≤ 0)
  | 0, _ => by show (0 : Int) ≤ 1 ∧ (_ → (0 : Int) ≤ 0); omega
  | n + 1, h => by
    have ih := cOpen_s n (fun j a b => h j a (by omega))
    show cOpen o n + (if 0 < o (n : Int) then 1 else 0) ≤ 1 ∧ (((n + 1 : Nat) : Int) ≤ i → cOpen o n + (if 0 < o (n : Int) then 1 else 0) ≤ 0)
    by_cases y : (n : Int) = i
    · have := ih.2 (by omega)
      split <;> omega
    · rw [if_neg (h n (by omega) (by omega) y)]
      omega
theorem cRow_top (g : Int → Int) : ∀ (n : Nat) (r : Int), 0 ≤ r → r ≤ n → g r ≤ g (cRow g n)
  | 0, r, h0, h1 => by
    rw [show r = 0 by omega]
    exact Int.le_refl _
  | n + 1, r, h0, h1 => by
    have ih := fun r a b => cRow_top g n r a b
    show g r ≤ g (if g (cRow g n) < g ((n : Int) + 1) then (n : Int) + 1 else cRow g n)
    by_cases y : g (cRow g n) < g ((n : Int) + 1)
    · rw [if_pos y]
      by_cases e : r = (n : Int) + 1
      · rw [e]; exact Int.le_refl _
      · have := ih r h0 (by omega); omega
    · rw [if_neg y]
      by_cases e : r = (n : Int) + 1
      · rw [e]; omega
      · exact ih r h0 (by omega)
/-- rows of one column each hold one path alone -/
theorem one_path {t : Int → Int} (ha : 1 ≤ pAll t) (h : ∀ r : Int, 0 ≤ r → r < 8 → rL t r = rG t r) : pAll t = 1 := by
  have only : ∀ r c : Int, 0 ≤ r → r < 8 → 0 ≤ c → c < 8 → ¬ c = rL t r → pTh t (r * 8 + c) = 0 := by
    intro r c a b d e f
    have n := pTh_n t (r := r) (c := c) ⟨a, b⟩ ⟨d, e⟩
    by_cases q : 0 < pTh t (r * 8 + c)
    · have l1 := rL_le ha ⟨a, b⟩ ⟨d, e⟩ q
      have l2 := rG_le ha ⟨a, b⟩ ⟨d, e⟩ q
      have := h r a b
      omega
    · omega
  have up : ∀ n : Nat, (n : Int) < 8 → pAb t ((n : Int) * 8 + rL t n) = 1 := by
    intro n
    induction n with
    | zero =>
      intro _
      have s := rL_sp ha (r := ((0 : Nat) : Int)) (by omega)
      have s2 : 0 < pAb t (((0 : Nat) : Int) * 8 + rL t ((0 : Nat) : Int)) * pBe t (((0 : Nat) : Int) * 8 + rL t ((0 : Nat) : Int)) := s.2.1
      have s3 := mul_pos1 s2 (pBe_b t (p := ((0 : Nat) : Int) * 8 + rL t ((0 : Nat) : Int)) (by omega)).1
      by_cases y : t ((((0 : Nat) : Int) * 8 + rL t ((0 : Nat) : Int)) / 8) = -5 ∨ t ((((0 : Nat) : Int) * 8 + rL t ((0 : Nat) : Int)) / 8) = (((0 : Nat) : Int) * 8 + rL t ((0 : Nat) : Int)) % 8
      · exact pAb_1 (by omega) y
      · rw [pAb_no (by omega) y] at s3; omega
    | succ n ih =>
      intro hn
      have ih := ih (by omega)
      have s := rL_sp ha (r := ((n + 1 : Nat) : Int)) (by omega)
      have sn := rL_sp ha (r := (n : Int)) (by omega)
      have e1 : ((n + 1 : Nat) : Int) = (n : Int) + 1 := by omega
      rw [e1] at s ⊢
      generalize rL t ((n : Int) + 1) = c at s ⊢
      have s2 : 0 < pAb t (((n : Int) + 1) * 8 + c) * pBe t (((n : Int) + 1) * 8 + c) := s.2.1
      have s3 := mul_pos1 s2 (pBe_b t (p := ((n : Int) + 1) * 8 + c) (by omega)).1
      have op : t ((((n : Int) + 1) * 8 + c) / 8) = -5 ∨ t ((((n : Int) + 1) * 8 + c) / 8) = (((n : Int) + 1) * 8 + c) % 8 := by
        by_cases y : t ((((n : Int) + 1) * 8 + c) / 8) = -5 ∨ t ((((n : Int) + 1) * 8 + c) / 8) = (((n : Int) + 1) * 8 + c) % 8
        · exact y
        · rw [pAb_no (by omega) y] at s3; omega
      have e2 := pAb_S (t := t) (p := ((n : Int) + 1) * 8 + c) (by omega) op
      rw [show ((n : Int) + 1) * 8 + c - 8 = (n : Int) * 8 + c by omega, pAr_at (pAb t) (by omega) (by omega)] at e2
      -- a neighbour that is not the row's column has no path down to it
      have none : ∀ d : Int, 0 ≤ d → d < 8 → d - c < 2 → c - d < 2 → ¬ d = rL t n → pAb t ((n : Int) * 8 + d) = 0 := by
        intro d a b f1 f2 f3
        have n0 := (pAb_b t (p := (n : Int) * 8 + d) (by omega)).1
        by_cases q : 0 < pAb t ((n : Int) * 8 + d)
        · exfalso
          have z := only n d (by omega) (by omega) a b f3
          have op2 : t (((n : Int) * 8 + d) / 8) = -5 ∨ t (((n : Int) * 8 + d) / 8) = ((n : Int) * 8 + d) % 8 := by
            by_cases y : t (((n : Int) * 8 + d) / 8) = -5 ∨ t (((n : Int) * 8 + d) / 8) = ((n : Int) * 8 + d) % 8
            · exact y
            · rw [pAb_no (by omega) y] at q; omega
          have e3 := pBe_S (t := t) (p := (n : Int) * 8 + d) (by omega) op2
          rw [show (n : Int) * 8 + d + 8 = ((n : Int) + 1) * 8 + d by omega, pAr_at (pBe t) (by omega) ⟨a, b⟩] at e3
          have m0 := (pBe_b t (p := ((n : Int) + 1) * 8 + d) (by omega)).1
          have n1 : 0 ≤ (if 0 < d then pBe t (((n : Int) + 1) * 8 + d - 1) else 0) := by
            split
            · exact (pBe_b t (p := ((n : Int) + 1) * 8 + d - 1) (by omega)).1
            · omega
          have n2 : 0 ≤ (if d < 7 then pBe t (((n : Int) + 1) * 8 + d + 1) else 0) := by
            split
            · exact (pBe_b t (p := ((n : Int) + 1) * 8 + d + 1) (by omega)).1
            · omega
          have pos : 0 < pBe t ((n : Int) * 8 + d) := by
            rw [e3]
            rcases (show d = c ∨ d = c + 1 ∨ d = c - 1 by omega) with y | y | y
            · subst y; omega
            · rw [if_pos (show 0 < d by omega), show ((n : Int) + 1) * 8 + d - 1 = ((n : Int) + 1) * 8 + c by omega]
              omega
            · rw [if_pos (show d < 7 by omega), show ((n : Int) + 1) * 8 + d + 1 = ((n : Int) + 1) * 8 + c by omega]
              omega
          have : 0 < pTh t ((n : Int) * 8 + d) := Int.mul_pos q pos
          omega
        · omega
      -- the row's own column is a neighbour: else no path would come down
      generalize hm : rL t n = m at ih none sn
      have hle : pAb t ((n : Int) * 8 + c) + (if 0 < c then pAb t ((n : Int) * 8 + c - 1) else 0) + (if c < 7 then pAb t ((n : Int) * 8 + c + 1) else 0) = 1 := by
        have pos : 0 < pAb t ((n : Int) * 8 + c) + (if 0 < c then pAb t ((n : Int) * 8 + c - 1) else 0) + (if c < 7 then pAb t ((n : Int) * 8 + c + 1) else 0) := by rw [← e2]; exact s3.1
        by_cases y0 : c = m
        · have b1 : (if 0 < c then pAb t ((n : Int) * 8 + c - 1) else 0) = 0 := by
            by_cases y : 0 < c
            · rw [if_pos y]; have := none (c - 1) (by omega) (by omega) (by omega) (by omega) (by omega); rw [show (n : Int) * 8 + (c - 1) = (n : Int) * 8 + c - 1 by omega] at this; exact this
            · rw [if_neg y]
          have b2 : (if c < 7 then pAb t ((n : Int) * 8 + c + 1) else 0) = 0 := by
            by_cases y : c < 7
            · rw [if_pos y]; have := none (c + 1) (by omega) (by omega) (by omega) (by omega) (by omega); rw [show (n : Int) * 8 + (c + 1) = (n : Int) * 8 + c + 1 by omega] at this; exact this
            · rw [if_neg y]
          rw [b1, b2, y0, ih]; rfl
        · have b0 := none c (by omega) (by omega) (by omega) (by omega) y0
          by_cases y1 : c - 1 = m
          · have b2 : (if c < 7 then pAb t ((n : Int) * 8 + c + 1) else 0) = 0 := by
              by_cases y : c < 7
              · rw [if_pos y]; have := none (c + 1) (by omega) (by omega) (by omega) (by omega) (by omega); rw [show (n : Int) * 8 + (c + 1) = (n : Int) * 8 + c + 1 by omega] at this; exact this
              · rw [if_neg y]
            rw [b0, b2, if_pos (show 0 < c by omega), show (n : Int) * 8 + c - 1 = (n : Int) * 8 + m by omega, ih]; rfl
          · have b1 : (if 0 < c then pAb t ((n : Int) * 8 + c - 1) else 0) = 0 := by
              by_cases y : 0 < c
              · rw [if_pos y]; have := none (c - 1) (by omega) (by omega) (by omega) (by omega) (by omega); rw [show (n : Int) * 8 + (c - 1) = (n : Int) * 8 + c - 1 by omega] at this; exact this
              · rw [if_neg y]
            by_cases y2 : c + 1 = m
            · rw [b0, b1, if_pos (show c < 7 by omega), show (n : Int) * 8 + c + 1 = (n : Int) * 8 + m by omega, ih]; rfl
            · have b2 : (if c < 7 then pAb t ((n : Int) * 8 + c + 1) else 0) = 0 := by
                by_cases y : c < 7
                · rw [if_pos y]; have := none (c + 1) (by omega) (by omega) (by omega) (by omega) (by omega); rw [show (n : Int) * 8 + (c + 1) = (n : Int) * 8 + c + 1 by omega] at this; exact this
                · rw [if_neg y]
              omega
      rw [e2, hle]
  have s := rL_sp ha (r := 7) (by omega)
  have u := up 7 (by omega)
  have u' : pAb t (7 * 8 + rL t 7) = 1 := u
  have s2 : 0 < pAb t (7 * 8 + rL t 7) * pBe t (7 * 8 + rL t 7) := s.2.1
  have s3 := mul_pos1 s2 (pBe_b t (p := 7 * 8 + rL t 7) (by omega)).1
  have b1 : pBe t (7 * 8 + rL t 7) = 1 := by
    by_cases y : t ((7 * 8 + rL t 7) / 8) = -5 ∨ t ((7 * 8 + rL t 7) / 8) = (7 * 8 + rL t 7) % 8
    · exact pBe_1 (by omega) y
    · rw [pBe_no (by omega) y] at s3; omega
  have tot : pTh t (7 * 8 + rL t 7) = 1 := by
    show pAb t (7 * 8 + rL t 7) * pBe t (7 * 8 + rL t 7) = 1
    rw [u', b1]; rfl
  have f := pFl_all t (r := 7) (by omega)
  have f2 : sumI 8 (fun c => pTh t (7 * 8 + c)) = pAll t := f
  rw [sum8] at f2
  have o7 := fun c a b e => only 7 c (by omega) (by omega) a b e
  have hs := s.1
  generalize rL t 7 = c at o7 tot hs
  rcases (show c = 0 ∨ c = 1 ∨ c = 2 ∨ c = 3 ∨ c = 4 ∨ c = 5 ∨ c = 6 ∨ c = 7 by omega) with e | e | e | e | e | e | e | e <;> subst e
  · have q1 := o7 1 (by omega) (by omega) (by omega); have q2 := o7 2 (by omega) (by omega) (by omega); have q3 := o7 3 (by omega) (by omega) (by omega); have q4 := o7 4 (by omega) (by omega) (by omega); have q5 := o7 5 (by omega) (by omega) (by omega); have q6 := o7 6 (by omega) (by omega) (by omega); have q7 := o7 7 (by omega) (by omega) (by omega); omega
  · have q0 := o7 0 (by omega) (by omega) (by omega); have q2 := o7 2 (by omega) (by omega) (by omega); have q3 := o7 3 (by omega) (by omega) (by omega); have q4 := o7 4 (by omega) (by omega) (by omega); have q5 := o7 5 (by omega) (by omega) (by omega); have q6 := o7 6 (by omega) (by omega) (by omega); have q7 := o7 7 (by omega) (by omega) (by omega); omega
  · have q0 := o7 0 (by omega) (by omega) (by omega); have q1 := o7 1 (by omega) (by omega) (by omega); have q3 := o7 3 (by omega) (by omega) (by omega); have q4 := o7 4 (by omega) (by omega) (by omega); have q5 := o7 5 (by omega) (by omega) (by omega); have q6 := o7 6 (by omega) (by omega) (by omega); have q7 := o7 7 (by omega) (by omega) (by omega); omega
  · have q0 := o7 0 (by omega) (by omega) (by omega); have q1 := o7 1 (by omega) (by omega) (by omega); have q2 := o7 2 (by omega) (by omega) (by omega); have q4 := o7 4 (by omega) (by omega) (by omega); have q5 := o7 5 (by omega) (by omega) (by omega); have q6 := o7 6 (by omega) (by omega) (by omega); have q7 := o7 7 (by omega) (by omega) (by omega); omega
  · have q0 := o7 0 (by omega) (by omega) (by omega); have q1 := o7 1 (by omega) (by omega) (by omega); have q2 := o7 2 (by omega) (by omega) (by omega); have q3 := o7 3 (by omega) (by omega) (by omega); have q5 := o7 5 (by omega) (by omega) (by omega); have q6 := o7 6 (by omega) (by omega) (by omega); have q7 := o7 7 (by omega) (by omega) (by omega); omega
  · have q0 := o7 0 (by omega) (by omega) (by omega); have q1 := o7 1 (by omega) (by omega) (by omega); have q2 := o7 2 (by omega) (by omega) (by omega); have q3 := o7 3 (by omega) (by omega) (by omega); have q4 := o7 4 (by omega) (by omega) (by omega); have q6 := o7 6 (by omega) (by omega) (by omega); have q7 := o7 7 (by omega) (by omega) (by omega); omega
  · have q0 := o7 0 (by omega) (by omega) (by omega); have q1 := o7 1 (by omega) (by omega) (by omega); have q2 := o7 2 (by omega) (by omega) (by omega); have q3 := o7 3 (by omega) (by omega) (by omega); have q4 := o7 4 (by omega) (by omega) (by omega); have q5 := o7 5 (by omega) (by omega) (by omega); have q7 := o7 7 (by omega) (by omega) (by omega); omega
  · have q0 := o7 0 (by omega) (by omega) (by omega); have q1 := o7 1 (by omega) (by omega) (by omega); have q2 := o7 2 (by omega) (by omega) (by omega); have q3 := o7 3 (by omega) (by omega) (by omega); have q4 := o7 4 (by omega) (by omega) (by omega); have q5 := o7 5 (by omega) (by omega) (by omega); have q6 := o7 6 (by omega) (by omega) (by omega); omega
/-- the open row, if several paths are left, has several columns; no row has more -/
theorem open_sp {z : Int → Int} (hI : Inv z) (h : 1 < pAll (tZ z)) : (0 ≤ F_open z ∧ F_open z ≤ 7) ∧ rL (tZ z) (F_open z) < rG (tZ z) (F_open z) ∧ 2 ≤ cOpen (fun c => pTh (tZ z) (F_open z * 8 + c)) 8 := by
  have e : F_open z = cRow (fun r => cOpen (fun c => pTh (tZ z) (r * 8 + c)) 8) 7 := if_neg (by omega)
  have b := cRow_b (fun r => cOpen (fun c => pTh (tZ z) (r * 8 + c)) 8) 7
  rw [← e] at b
  have top := cRow_top (fun r => cOpen (fun c => pTh (tZ z) (r * 8 + c)) 8) 7
  rw [← e] at top
  have many : 2 ≤ cOpen (fun c => pTh (tZ z) (F_open z * 8 + c)) 8 := by
    by_cases q : 2 ≤ cOpen (fun c => pTh (tZ z) (F_open z * 8 + c)) 8
    · exact q
    · exfalso
      have all1 : ∀ r : Int, 0 ≤ r → r < 8 → rL (tZ z) r = rG (tZ z) r := by
        intro r a b'
        have s1 := rL_sp hI.pa ⟨a, b'⟩
        have s2 := rG_sp hI.pa ⟨a, b'⟩
        have l := rL_le hI.pa ⟨a, b'⟩ (c := rG (tZ z) r) (by omega) s2.2.1
        by_cases y : rL (tZ z) r < rG (tZ z) r
        · exfalso
          have k := cOpen_2 (o := fun c => pTh (tZ z) (r * 8 + c)) s1.1.1 y s1.2.1 s2.2.1 8 (by omega)
          have k2 := top r a (by omega)
          have k3 : cOpen (fun c => pTh (tZ z) (r * 8 + c)) 8 ≤ cOpen (fun c => pTh (tZ z) (F_open z * 8 + c)) 8 := k2
          omega
        · omega
      have := one_path hI.pa all1
      omega
  refine ⟨by omega, ?_, many⟩
  have s1 := rL_sp hI.pa (r := F_open z) (by omega)
  have s2 := rG_sp hI.pa (r := F_open z) (by omega)
  have l := rL_le hI.pa (r := F_open z) (by omega) (c := rG (tZ z) (F_open z)) (by omega) s2.2.1
  by_cases y : rL (tZ z) (F_open z) = rG (tZ z) (F_open z)
  · exfalso
    have k := (cOpen_s (o := fun c => pTh (tZ z) (F_open z * 8 + c)) (i := rL (tZ z) (F_open z)) 8 (fun j a b f g => by
      have g' : 0 < pTh (tZ z) (F_open z * 8 + j) := g
      have l1 := rL_le hI.pa (r := F_open z) (by omega) (c := j) (by omega) g'
      have l2 := rG_le hI.pa (r := F_open z) (by omega) (c := j) (by omega) g'
      omega)).1
    omega
  · omega
