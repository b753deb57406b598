/-! ===== texts ===== -/
/-- the digit at a place, -1 if there is none -/
def dg (tx : Int → Int) (ln a : Int) : Int := if a < ln ∧ 48 ≤ tx a ∧ tx a ≤ 57 then tx a - 48 else -1
theorem dg_b (tx : Int → Int) (ln a : Int) : -1 ≤ dg tx ln a ∧ dg tx ln a ≤ 9 := by unfold dg; split <;> omega
/-- the number at a place, -1 if none is allowed there, and the place behind it -/
def nV (tx : Int → Int) (ln lo hi a : Int) : Int := if lo ≤ dg tx ln a ∧ dg tx ln a ≤ hi then (if dg tx ln a = 0 ∨ dg tx ln (a + 1) = -1 ∨ hi < dg tx ln a * 10 + dg tx ln (a + 1) then dg tx ln a else dg tx ln a * 10 + dg tx ln (a + 1)) else -1
def nP (tx : Int → Int) (ln lo hi a : Int) : Int := if lo ≤ dg tx ln a ∧ dg tx ln a ≤ hi then (if dg tx ln a = 0 ∨ dg tx ln (a + 1) = -1 ∨ hi < dg tx ln a * 10 + dg tx ln (a + 1) then a + 1 else a + 2) else a
theorem nV_b {tx : Int → Int} {ln lo hi a : Int} (h0 : 0 ≤ lo) (h9 : lo ≤ 1) (h1 : hi ≤ 99) : nV tx ln lo hi a = -1 ∨ (lo ≤ nV tx ln lo hi a ∧ nV tx ln lo hi a ≤ hi) := by
  have b1 := dg_b tx ln a
  have b2 := dg_b tx ln (a + 1)
  unfold nV
  split
  · split <;> omega
  · exact Or.inl rfl
theorem dg_lt {tx : Int → Int} {ln a : Int} (h : ¬ dg tx ln a = -1) : a < ln := by
  unfold dg at h
  split at h <;> omega
theorem nP_b {tx : Int → Int} {ln lo hi a : Int} (h0 : 0 ≤ lo) (ha : a ≤ ln) : a ≤ nP tx ln lo hi a ∧ nP tx ln lo hi a ≤ ln ∧ (¬ nV tx ln lo hi a = -1 → a < nP tx ln lo hi a) ∧ (nV tx ln lo hi a = -1 → nP tx ln lo hi a = a) := by
  have b1 := dg_b tx ln a
  have b2 := dg_b tx ln (a + 1)
  have l1 := dg_lt (tx := tx) (ln := ln) (a := a)
  have l2 := dg_lt (tx := tx) (ln := ln) (a := a + 1)
  unfold nP nV
  split
  · split
    · have := l1 (by omega); omega
    · have := l1 (by omega)
      have := l2 (by omega)
      omega
  · omega
def tK (tx : Int → Int) (ln a : Int) : Int := if a < ln then tx a else 0
def lo1 (k : Int) : Int := if k = 114 ∨ k = 46 then 1 else 0
def hi1 (k : Int) : Int := if k = 116 then 63 else if k = 114 then 9 else if k = 104 then 7 else if k = 46 then 99 else 2
def sg (k : Int) : Int := if k = 116 then 61 else if k = 104 then 58 else if k = 103 then 62 else 0
def hi2 (k : Int) : Int := if k = 116 then 99 else if k = 104 then 7 else 63
abbrev kOk (k : Int) : Prop := k = 116 ∨ k = 114 ∨ k = 104 ∨ k = 103 ∨ k = 102 ∨ k = 46
def tFi (tx : Int → Int) (ln a : Int) : Int := nV tx ln (lo1 (tK tx ln a)) (hi1 (tK tx ln a)) (a + 1)
def tP1 (tx : Int → Int) (ln a : Int) : Int := nP tx ln (lo1 (tK tx ln a)) (hi1 (tK tx ln a)) (a + 1)
def tSe (tx : Int → Int) (ln a : Int) : Int := nV tx ln 0 (hi2 (tK tx ln a)) (tP1 tx ln a + 1)
/-- a thing is read at the place a: whether it is allowed to its end, where it ends or its fault lies -/
abbrev tOk (tx : Int → Int) (ln a : Int) : Prop := kOk (tK tx ln a) ∧ ¬ tFi tx ln a = -1 ∧ (sg (tK tx ln a) = 0 ∨ (tP1 tx ln a < ln ∧ tx (tP1 tx ln a) = sg (tK tx ln a) ∧ ¬ tSe tx ln a = -1))
def tEnd (tx : Int → Int) (ln a : Int) : Int := if kOk (tK tx ln a) then (if tFi tx ln a = -1 then a + 1 else if sg (tK tx ln a) = 0 then tP1 tx ln a else if tP1 tx ln a < ln ∧ tx (tP1 tx ln a) = sg (tK tx ln a) then nP tx ln 0 (hi2 (tK tx ln a)) (tP1 tx ln a + 1) else tP1 tx ln a) else a
theorem tK_of {tx : Int → Int} {ln a K : Int} (h : a < ln ∧ tx a = K) : tK tx ln a = K := by unfold tK; rw [if_pos h.1, h.2]
theorem tK_no {tx : Int → Int} {ln a K : Int} (hK : ¬ K = 0) (h : ¬ (a < ln ∧ tx a = K)) : ¬ tK tx ln a = K := by
  unfold tK
  split <;> omega
theorem tOk_2 {tx : Int → Int} {ln a K lo hi s m : Int} (hk : tK tx ln a = K) (h1 : lo1 K = lo) (h2 : hi1 K = hi) (h3 : sg K = s) (h4 : hi2 K = m) (ho : kOk K) (hs : ¬ s = 0) : tOk tx ln a ↔ (¬ nV tx ln lo hi (a + 1) = -1 ∧ nP tx ln lo hi (a + 1) < ln ∧ tx (nP tx ln lo hi (a + 1)) = s ∧ ¬ nV tx ln 0 m (nP tx ln lo hi (a + 1) + 1) = -1) := by
  unfold tOk tSe tP1 tFi
  rw [hk, h1, h2, h3, h4]
  constructor
  · intro h
    rcases h.2.2 with z | z
    · exact absurd z hs
    · exact ⟨h.2.1, z⟩
  · intro h
    exact ⟨ho, h.1, Or.inr h.2⟩
theorem tEnd_2 {tx : Int → Int} {ln a K lo hi s m : Int} (hk : tK tx ln a = K) (h1 : lo1 K = lo) (h2 : hi1 K = hi) (h3 : sg K = s) (h4 : hi2 K = m) (ho : kOk K) (hs : ¬ s = 0) : tEnd tx ln a = if nV tx ln lo hi (a + 1) = -1 then a + 1 else if nP tx ln lo hi (a + 1) < ln ∧ tx (nP tx ln lo hi (a + 1)) = s then nP tx ln 0 m (nP tx ln lo hi (a + 1) + 1) else nP tx ln lo hi (a + 1) := by
  unfold tEnd tP1 tFi
  rw [hk, h1, h2, h3, h4, if_pos ho, if_neg hs]
theorem tOk_1 {tx : Int → Int} {ln a K lo hi : Int} (hk : tK tx ln a = K) (h1 : lo1 K = lo) (h2 : hi1 K = hi) (h3 : sg K = 0) (ho : kOk K) : tOk tx ln a ↔ ¬ nV tx ln lo hi (a + 1) = -1 := by
  unfold tOk tSe tP1 tFi
  rw [hk, h1, h2, h3]
  exact ⟨fun h => h.2.1, fun h => ⟨ho, h, Or.inl rfl⟩⟩
theorem tEnd_1 {tx : Int → Int} {ln a K lo hi : Int} (hk : tK tx ln a = K) (h1 : lo1 K = lo) (h2 : hi1 K = hi) (h3 : sg K = 0) (ho : kOk K) (hl : 0 ≤ lo) (ha : a + 1 ≤ ln) : tEnd tx ln a = nP tx ln lo hi (a + 1) := by
  have e := nP_b (tx := tx) (hi := hi) hl ha
  unfold tEnd tP1 tFi
  rw [hk, h1, h2, h3, if_pos ho]
  by_cases z : nV tx ln lo hi (a + 1) = -1
  · rw [if_pos z, e.2.2.2 z]
  · rw [if_neg z, if_pos rfl]
theorem tEnd_b {tx : Int → Int} {ln a : Int} (ha : a ≤ ln) : a ≤ tEnd tx ln a ∧ tEnd tx ln a ≤ ln ∧ (tOk tx ln a → a + 2 ≤ tEnd tx ln a) := by
  have hl : 0 ≤ lo1 (tK tx ln a) := by unfold lo1; split <;> omega
  by_cases hk : kOk (tK tx ln a)
  · have hlt : a < ln := by
      by_cases z : a < ln
      · exact z
      · unfold tK at hk
        rw [if_neg z] at hk
        omega
    have e1 := nP_b (tx := tx) (hi := hi1 (tK tx ln a)) hl (show a + 1 ≤ ln by omega)
    have e1' : a + 1 ≤ tP1 tx ln a ∧ tP1 tx ln a ≤ ln ∧ (¬ tFi tx ln a = -1 → a + 1 < tP1 tx ln a) ∧ (tFi tx ln a = -1 → tP1 tx ln a = a + 1) := e1
    unfold tEnd
    rw [if_pos hk]
    by_cases z : tFi tx ln a = -1
    · rw [if_pos z]
      exact ⟨by omega, by omega, fun h => absurd z h.2.1⟩
    · rw [if_neg z]
      have e2 := e1'.2.2.1 z
      by_cases y : sg (tK tx ln a) = 0
      · rw [if_pos y]
        exact ⟨by omega, by omega, fun _ => by omega⟩
      · rw [if_neg y]
        by_cases x : tP1 tx ln a < ln ∧ tx (tP1 tx ln a) = sg (tK tx ln a)
        · rw [if_pos x]
          have e3 := nP_b (tx := tx) (hi := hi2 (tK tx ln a)) (Int.le_refl 0) (show tP1 tx ln a + 1 ≤ ln by omega)
          exact ⟨by omega, by omega, fun _ => by omega⟩
        · rw [if_neg x]
          exact ⟨by omega, by omega, fun _ => by omega⟩
  · unfold tEnd
    rw [if_neg hk]
    exact ⟨by omega, by omega, fun h => absurd h.1 hk⟩
/-- the text from the place a on, with n things read: how many there are, or -100 minus the fault -/
def gT (tx : Int → Int) (ln : Int) : Nat → Int → Int → Int
  | 0, _, _ => -1000
  | f + 1, a, n => if tOk tx ln a then (if tEnd tx ln a = ln then n + 1 else if tEnd tx ln a < ln ∧ tx (tEnd tx ln a) = 59 then gT tx ln f (tEnd tx ln a + 1) (n + 1) else -100 - tEnd tx ln a) else -100 - tEnd tx ln a
def F_text (tx : Int → Int) (ln : Int) : Int := gT tx ln 40 0 0
theorem gT_S {tx : Int → Int} {ln : Int} {f : Nat} {a n : Int} : gT tx ln (f + 1) a n = if tOk tx ln a then (if tEnd tx ln a = ln then n + 1 else if tEnd tx ln a < ln ∧ tx (tEnd tx ln a) = 59 then gT tx ln f (tEnd tx ln a + 1) (n + 1) else -100 - tEnd tx ln a) else -100 - tEnd tx ln a := rfl
/-- where the things begin -/
def aP (tx : Int → Int) (ln : Int) : Nat → Int
  | 0 => 0
  | n + 1 => tEnd tx ln (aP tx ln n) + 1
theorem aP_S {tx : Int → Int} {ln i : Int} (h : 0 ≤ i) : aP tx ln (i + 1).toNat = tEnd tx ln (aP tx ln i.toNat) + 1 := by
  rw [show (i + 1).toNat = i.toNat + 1 by omega]
  rfl
/-- a good text of N things -/
def tGood (tx : Int → Int) (ln N : Int) : Prop := (∀ i : Int, 0 ≤ i → i < N → tOk tx ln (aP tx ln i.toNat) ∧ 0 ≤ aP tx ln i.toNat ∧ aP tx ln i.toNat ≤ ln) ∧ (∀ i : Int, 0 ≤ i → i + 1 < N → tEnd tx ln (aP tx ln i.toNat) < ln ∧ tx (tEnd tx ln (aP tx ln i.toNat)) = 59)
theorem gT_good {tx : Int → Int} {ln : Int} : ∀ (f : Nat) (a n : Int), 0 ≤ n → a = aP tx ln n.toNat → 0 ≤ a → a ≤ ln → 3 * n ≤ a → (∀ i : Int, 0 ≤ i → i < n → tOk tx ln (aP tx ln i.toNat) ∧ 0 ≤ aP tx ln i.toNat ∧ aP tx ln i.toNat ≤ ln) → (∀ i : Int, 0 ≤ i → i < n → tEnd tx ln (aP tx ln i.toNat) < ln ∧ tx (tEnd tx ln (aP tx ln i.toNat)) = 59) → ∀ r, gT tx ln f a n = r → 0 ≤ r → tGood tx ln r ∧ 1 ≤ r ∧ 3 * r ≤ ln + 3
  | 0, a, n, _, _, _, _, _, _, _, r, h, h0 => by
    have : (-1000 : Int) = r := h
    omega
  | f + 1, a, n, hn, ha, ha0, ha1, h3, hg, hs, r, h, h0 => by
    rw [gT_S] at h
    have e := tEnd_b (tx := tx) ha1
    by_cases k : tOk tx ln a
    · rw [if_pos k] at h
      have e2 := e.2.2 k
      have hg' : ∀ i : Int, 0 ≤ i → i < n + 1 → tOk tx ln (aP tx ln i.toNat) ∧ 0 ≤ aP tx ln i.toNat ∧ aP tx ln i.toNat ≤ ln := fun i h1 h2 => by
        by_cases z : i = n
        · subst z
          rw [← ha]
          exact ⟨k, ha0, ha1⟩
        · exact hg i h1 (by omega)
      by_cases y : tEnd tx ln a = ln
      · rw [if_pos y] at h
        subst h
        exact ⟨⟨hg', fun i h1 h2 => hs i h1 (by omega)⟩, by omega, by omega⟩
      · rw [if_neg y] at h
        by_cases x : tEnd tx ln a < ln ∧ tx (tEnd tx ln a) = 59
        · rw [if_pos x] at h
          refine gT_good f (tEnd tx ln a + 1) (n + 1) (by omega) (by rw [aP_S hn, ← ha]) (by omega) (by omega) (by omega) hg' (fun i h1 h2 => ?_) r h h0
          by_cases z : i = n
          · subst z
            rw [← ha]
            exact x
          · exact hs i h1 (by omega)
        · rw [if_neg x] at h
          omega
    · rw [if_neg k] at h
      omega
theorem F_text_good {tx : Int → Int} {ln : Int} (h0 : 0 ≤ ln) (h : 0 ≤ F_text tx ln) : tGood tx ln (F_text tx ln) ∧ 1 ≤ F_text tx ln ∧ 3 * F_text tx ln ≤ ln + 3 :=
  gT_good 40 0 0 (by omega) rfl (by omega) h0 (by omega) (fun i h1 h2 => by omega) (fun i h1 h2 => by omega) _ rfl h
theorem dV_an {Y : Nat → ClassId} {h q : Nat} {tx : Int → Int} {ln an an' ki fi se : Int} (e : an = an') : jLe (dV Y h q tx ln an ki fi se) (dV Y h q tx ln an' ki fi se) := e ▸ jLe.rf _
theorem dV_le {Y : Nat → ClassId} {h q : Nat} {tx tx' : Int → Int} {ln ln' an ki fi se : Int} (e1 : ∀ j : Int, 0 ≤ j → j < (60 : Nat) → tx j = tx' j) (e2 : ln = ln') : wLe (dV Y h q tx ln an ki fi se) (dV Y h q tx' ln' an ki fi se) := by
  subst e2
  exact wLe.cons (cLe.rf _) (wLe.cons (cLe.ar _ _ _ e1) wLe.nil)
