/-- a row that is told: all paths that are left go through its column -/
theorem pAll_told {t : Int → Int} {r c : Int} (hr : 0 ≤ r ∧ r < 8) (hc : 0 ≤ c ∧ c < 8) (h : t r = -5) : pAll (upZ t r c) = pTh t (r * 8 + c) := by
  rw [← pTh_hint hr hc h, ← pFl_all (upZ t r c) hr]
  unfold pFl
  rw [sum8]
  have k : ∀ d : Int, 0 ≤ d → d < 8 → ¬ d = c → pTh (upZ t r c) (r * 8 + d) = 0 := fun d a b e => by
    unfold pTh
    rw [pAb_no (t := upZ t r c) (p := r * 8 + d) (by omega) (by
      rw [show (r * 8 + d) / 8 = r by omega, show (r * 8 + d) % 8 = d by omega, upZ_eq _ _ _ rfl]
      omega), Int.zero_mul]
  have k0 := k 0 (by omega) (by omega)
  have k1 := k 1 (by omega) (by omega)
  have k2 := k 2 (by omega) (by omega)
  have k3 := k 3 (by omega) (by omega)
  have k4 := k 4 (by omega) (by omega)
  have k5 := k 5 (by omega) (by omega)
  have k6 := k 6 (by omega) (by omega)
  have k7 := k 7 (by omega) (by omega)
  rcases (show c = 0 ∨ c = 1 ∨ c = 2 ∨ c = 3 ∨ c = 4 ∨ c = 5 ∨ c = 6 ∨ c = 7 by omega) with e | e | e | e | e | e | e | e <;> subst e <;> omega
/-! ===== crews: the best plot, the ways ===== -/
theorem zBest_ok (z t : Int → Int) (k : Int) : ∀ n : Nat, zBest z t k n = -5 ∨ F_why z k (zBest z t k n) = 0
  | 0 => Or.inl rfl
  | n + 1 => by
    have ih := zBest_ok z t k n
    have e := zBest_S (z := z) (t := t) (k := k) (i := (n : Int)) (by omega)
    rw [show ((n : Int) + 1).toNat = n + 1 by omega, show ((n : Int)).toNat = n by omega] at e
    by_cases c : F_why z k (n : Int) = 0 ∧ (zBest z t k n = -5 ∨ (zLo z t (zBest z t k n) < zLo z t (n : Int) ∨ (zLo z t (n : Int) = zLo z t (zBest z t k n) ∧ (z (28 + zBest z t k n) < z (28 + (n : Int)) ∨ (z (28 + (n : Int)) = z (28 + zBest z t k n) ∧ zWay z k (n : Int) < zWay z k (zBest z t k n))))))
    · rw [if_pos c] at e
      rw [e]
      exact Or.inr c.1
    · rw [if_neg c] at e
      rw [e]
      exact ih
theorem zBest_top (z t : Int → Int) (k : Int) : ∀ (n : Nat) (p : Int), 0 ≤ p → p < n → F_why z k p = 0 → ¬ zBest z t k n = -5 ∧ zLo z t p ≤ zLo z t (zBest z t k n)
  | 0, p, h0, h1, _ => by omega
  | n + 1, p, h0, h1, hp => by
    have ih := fun a b c => zBest_top z t k n p a b c
    have e := zBest_S (z := z) (t := t) (k := k) (i := (n : Int)) (by omega)
    rw [show ((n : Int) + 1).toNat = n + 1 by omega, show ((n : Int)).toNat = n by omega] at e
    by_cases c : F_why z k (n : Int) = 0 ∧ (zBest z t k n = -5 ∨ (zLo z t (zBest z t k n) < zLo z t (n : Int) ∨ (zLo z t (n : Int) = zLo z t (zBest z t k n) ∧ (z (28 + zBest z t k n) < z (28 + (n : Int)) ∨ (z (28 + (n : Int)) = z (28 + zBest z t k n) ∧ zWay z k (n : Int) < zWay z k (zBest z t k n))))))
    · rw [if_pos c] at e
      rw [e]
      refine ⟨by omega, ?_⟩
      by_cases y : p = (n : Int)
      · rw [y]; exact Int.le_refl _
      · have ih := ih h0 (by omega) hp
        rcases c.2 with q | q | q
        · exact absurd q ih.1
        · have := ih.2; omega
        · have := ih.2; omega
    · rw [if_neg c] at e
      rw [e]
      by_cases y : p = (n : Int)
      · subst y
        have q : ¬ zBest z t k n = -5 := fun q => c ⟨hp, Or.inl q⟩
        refine ⟨q, ?_⟩
        by_cases w : zLo z t (zBest z t k n) < zLo z t (n : Int)
        · exact absurd ⟨hp, Or.inr (Or.inl w)⟩ c
        · omega
      · exact ih h0 (by omega) hp
theorem best_ok (z : Int → Int) (k : Int) : zBest z (tZ z) k 64 = -5 ∨ ((0 ≤ zBest z (tZ z) k 64 ∧ zBest z (tZ z) k 64 ≤ 63) ∧ F_why z k (zBest z (tZ z) k 64) = 0) := by
  have b := zBest_b z (tZ z) k 64
  rcases zBest_ok z (tZ z) k 64 with h | h
  · exact Or.inl h
  · rcases b with b | b
    · exact Or.inl b
    · exact Or.inr ⟨by omega, h⟩
theorem best_top {z : Int → Int} {k p : Int} (hp : 0 ≤ p ∧ p < 64) (h : F_why z k p = 0) : 0 ≤ zBest z (tZ z) k 64 ∧ zLo z (tZ z) p ≤ zLo z (tZ z) (zBest z (tZ z) k 64) := by
  have t := zBest_top z (tZ z) k 64 p hp.1 (by omega) h
  have b := zBest_b z (tZ z) k 64
  exact ⟨by omega, t.2⟩
theorem way_0 {z : Int → Int} (hI : Inv z) {k p : Int} (hk : 0 ≤ k ∧ k ≤ 2) (hp : 0 ≤ p ∧ p ≤ 63) : zWay z k p = 0 ↔ p = z (15 + 4 * k) := by
  have h1 := abI_b (z (15 + 4 * k) / 8 - p / 8)
  have h2 := abI_b (z (15 + 4 * k) % 8 - p % 8)
  have h3 := hI.pl k hk.1 (by omega)
  have h4 := hI.mu
  constructor
  · intro h
    unfold zWay at h
    rcases (show 1 + z 92 / 3 = 1 ∨ 1 + z 92 / 3 = 2 ∨ 1 + z 92 / 3 = 3 ∨ 1 + z 92 / 3 = 4 by omega) with e | e | e | e <;> rw [e] at h <;> omega
  · intro h
    exact zWay_0 h.symm
theorem way_nb {z : Int → Int} (hI : Inv z) {k p : Int} (hk : 0 ≤ k ∧ k ≤ 2) (hp : 0 ≤ p ∧ p < 64) (h7 : p % 8 < 7) : zWay z k p ≤ zWay z k (p + 1) + (1 + z 92 / 3) :=
  zW2_nb (z := z) (f := z (15 + 4 * k)) (p := p) (q := p + 1) hI.mu (by have := hI.pl k hk.1 (by omega); omega) hp (Or.inr (Or.inl ⟨h7, rfl⟩))
theorem why_is (z : Int → Int) (k p : Int) : F_why z k p = if z (28 + p) = 0 then 1 else if z (16 + 4 * k) < zWay z k p then 2 else if z (16 + 4 * k) < zWay z k p + z 2 then 3 else 0 := by
  unfold F_why
  (repeat' split) <;> omega
/-! ===== the acts: what they leave within its bounds ===== -/
theorem sumI_dot (L : Int → Int) : ∀ m : Nat, (∀ p : Int, 0 ≤ p → p < m → 0 ≤ L p ∧ L p ≤ 99) → sumI 99 (fun v => nGe L (v + 1) m) = sumI m L
  | 0, _ => sumI_0 99 (fun j _ _ => rfl)
  | m + 1, h => by
    have ih := sumI_dot L m (fun p a b => h p a (by omega))
    have b := h (m : Int) (by omega) (by omega)
    have e := sumI_low 1 99 (L (m : Int)) b.1
    rw [Int.mul_one, show (if L (m : Int) < ((99 : Nat) : Int) then L (m : Int) else ((99 : Nat) : Int)) = L (m : Int) by split <;> omega] at e
    have e2 : sumI 99 (fun v => nGe L (v + 1) (m + 1)) = sumI 99 (fun v => nGe L (v + 1) m) + sumI 99 (fun v => if v + 1 < L (m : Int) + 1 then 1 else 0) := by
      rw [sumI_add]
      refine sumI_congr 99 (fun v _ _ => ?_)
      show nGe L (v + 1) m + (if v + 1 ≤ L (m : Int) then 1 else 0) = nGe L (v + 1) m + (if v + 1 < L (m : Int) + 1 then 1 else 0)
      by_cases q : v + 1 ≤ L (m : Int)
      · rw [if_pos q, if_pos (by omega)]
      · rw [if_neg q, if_neg (by omega)]
    rw [e2, ih, e]
    rfl
theorem zTop_le {L : Int → Int} {n : Int} (hn : 0 ≤ n) (h : ∀ p : Int, 0 ≤ p → p < 64 → 0 ≤ L p ∧ L p ≤ 99) : 0 ≤ zTop L n ∧ zTop L n ≤ sumI 64 L := by
  refine ⟨sumI_nn 99 (fun v a b => ?_), ?_⟩
  · have := nGe_nn L (v + 1) 64
    show 0 ≤ if nGe L (v + 1) 64 < n then nGe L (v + 1) 64 else n
    split <;> omega
  · rw [← sumI_dot L 64 (fun p a b => h p a (by omega))]
    refine sumI_le 99 (fun v a b => ?_)
    show (if nGe L (v + 1) 64 < n then nGe L (v + 1) 64 else n) ≤ nGe L (v + 1) 64
    split <;> omega
theorem zVa_nn (z t : Int → Int) : 0 ≤ zVa z t := sumI_nn 64 (fun j _ _ => by show (0 : Int) ≤ if ¬ z (156 + j) = 0 ∧ ¬ 0 < zHi z t j then 1 else 0; split <;> omega)
theorem Bd.of {n : Int} {z y : Int → Int} (h : Bd n z) (e3 : y 3 = z 3) (e4 : y 4 = z 4) (e5 : y 5 = z 5) (e6 : y 6 = z 6) (ek : ∀ k : Int, 0 ≤ k → k < 3 → y (17 + 4 * k) = z (17 + 4 * k) ∧ y (18 + 4 * k) = z (18 + 4 * k)) : Bd n y := by
  obtain ⟨h1, h2, h3, h4⟩ := h
  exact ⟨by rw [e3]; exact h1, by rw [e4, e5]; exact h2, by rw [e6]; exact h3, fun k a b => by rw [(ek k a b).1, (ek k a b).2]; exact h4 k a b⟩
theorem Bd.up {n i v : Int} {z : Int → Int} (h : Bd n z) (hi : ¬ i = 3 ∧ ¬ i = 4 ∧ ¬ i = 5 ∧ ¬ i = 6 ∧ ¬ (17 ≤ i ∧ i < 27 ∧ (i % 4 = 1 ∨ i % 4 = 2))) : Bd n (upZ z i v) :=
  h.of (upZ_ne _ _ _ (by omega)) (upZ_ne _ _ _ (by omega)) (upZ_ne _ _ _ (by omega)) (upZ_ne _ _ _ (by omega)) (fun k a b => ⟨upZ_ne _ _ _ (by omega), upZ_ne _ _ _ (by omega)⟩)
theorem Bd.grow {n : Int} {z : Int → Int} (h : Bd n z) (p w : Int) : Bd n (G_grow z p w) := by
  unfold G_grow
  split
  · exact h.up (by omega)
  · exact h
theorem Bd.rain {n : Int} {z : Int → Int} (h : Bd n z) (m : Int) : Bd n (G_rain z m) := by
  unfold G_rain
  split
  · exact h.of (if_neg (by omega)) (if_neg (by omega)) (if_neg (by omega)) (if_neg (by omega)) (fun k a b => ⟨if_neg (by omega), if_neg (by omega)⟩)
  · exact h
theorem Bd.set {n : Int} {z : Int → Int} (h : Bd n z) (i v : Int) : Bd n (G_set z i v) := by
  unfold G_set
  split
  · exact h.up (by omega)
  · exact h
theorem Bd.hint {n : Int} {z : Int → Int} (h : Bd n z) (r c : Int) : Bd n (G_hint z r c) := by
  unfold G_hint
  split
  · exact h.up (by omega)
  · exact h
theorem Bd.back {n : Int} {z : Int → Int} (h : Bd n z) (r : Int) : Bd n (G_back z r) := by
  unfold G_back
  split
  · exact h.up (by omega)
  · exact h
theorem Bd.go {n : Int} {z : Int → Int} (h : Bd n z) (k p : Int) : Bd n (G_go z k p) := by
  unfold G_go
  split
  · exact (h.up (by omega)).up (by omega)
  · exact h
theorem Bd.pass {n : Int} {z : Int → Int} (h : Bd n z) (m : Int) : Bd (n + 1) (G_end z m) := by
  unfold G_end
  split
  · next e =>
    obtain ⟨h1, h2, h3, h4⟩ := h
    have e3 : GE z m 3 = z 3 + m := by
      unfold GE
      rw [if_neg (by omega), if_pos rfl]
    have ex : ∀ j : Int, ¬ (92 ≤ j ∧ j < 156) → ¬ j = 3 → ¬ (j = 16 ∨ j = 20 ∨ j = 24) → GE z m j = z j := fun j a b c => by
      unfold GE
      rw [if_neg a, if_neg b, if_neg c]
    refine ⟨by rw [e3]; omega, by rw [ex 5 (by omega) (by omega) (by omega), ex 4 (by omega) (by omega) (by omega)]; omega, by rw [ex 6 (by omega) (by omega) (by omega)]; omega, fun k a b => ?_⟩
    have := h4 k a b
    rw [ex (18 + 4 * k) (by omega) (by omega) (by omega), ex (17 + 4 * k) (by omega) (by omega) (by omega)]
    omega
  · exact h.mono (by omega)
theorem Bd.fell {n : Int} {z : Int → Int} (hI : Inv z) (h : Bd n z) (k : Int) : Bd (n + 1) (G_fell z k) := by
  unfold G_fell
  split
  · next e =>
    have pl := hI.pl k (by omega) (by omega)
    have wo := hI.wo (z (15 + 4 * k)) (by omega) (by omega)
    have wz := e.2.2
    have base : Bd n (upZ (upZ (upZ z (28 + z (15 + 4 * k)) 0) (156 + z (15 + 4 * k)) 1) (16 + 4 * k) (z (16 + 4 * k) - z 2)) := ((h.up (by omega)).up (by omega)).up (by omega)
    obtain ⟨h1, h2, h3, h4⟩ := base
    have hk := h.cr k (by omega) (by omega)
    unfold GF
    generalize upZ (upZ (upZ z (28 + z (15 + 4 * k)) 0) (156 + z (15 + 4 * k)) 1) (16 + 4 * k) (z (16 + 4 * k) - z 2) = y at h1 h2 h3 h4 ⊢
    have ex : ∀ j : Int, ¬ j = 17 + 4 * k → ¬ j = 18 + 4 * k → upZ (upZ y (17 + 4 * k) (z (17 + 4 * k) + z (28 + z (15 + 4 * k)))) (18 + 4 * k) (z (18 + 4 * k) + 1) j = y j := fun j a b => by rw [upZ_ne _ _ _ b, upZ_ne _ _ _ a]
    refine ⟨by rw [ex 3 (by omega) (by omega)]; omega, by rw [ex 5 (by omega) (by omega), ex 4 (by omega) (by omega)]; omega, by rw [ex 6 (by omega) (by omega)]; omega, fun j a b => ?_⟩
    by_cases q : j = k
    · subst q
      rw [upZ_eq _ _ _ rfl, upZ_ne _ _ _ (by omega), upZ_eq _ _ _ rfl]
      omega
    · have := h4 j a b
      rw [ex _ (by omega) (by omega), ex _ (by omega) (by omega)]
      omega
  · exact h.mono (by omega)
theorem Bd.storm {n : Int} {z : Int → Int} (hI : Inv z) (h : Bd n z) : Bd (n + 1) (G_storm z) := by
  unfold G_storm
  split
  · exact h.mono (by omega)
  · obtain ⟨h1, h2, h3, h4⟩ := h
    have lb := zLost_b (tZ z) hI
    have tp := zTop_le (L := zLW z (tZ z)) (n := zVa z (tZ z)) (zVa_nn z (tZ z)) (fun p a b => zLW_b (tZ z) hI p a b)
    have tp2 : zTop (zLW z (tZ z)) (zVa z (tZ z)) ≤ zLost z (tZ z) := tp.2
    have e3 : GS z (tZ z) 3 = z 3 := by
      unfold GS
      rw [if_neg (by omega), if_neg (by omega), if_neg (by omega), if_neg (by omega), if_neg (by omega), if_neg (by omega)]
    have e4 : GS z (tZ z) 4 = z 4 + zLost z (tZ z) := by
      unfold GS
      rw [if_neg (by omega), if_neg (by omega), if_neg (by omega), if_pos rfl]
    have e5 : GS z (tZ z) 5 = z 5 + zTop (zLW z (tZ z)) (zVa z (tZ z)) := by
      unfold GS
      rw [if_neg (by omega), if_neg (by omega), if_neg (by omega), if_neg (by omega), if_pos rfl]
    have e6 : GS z (tZ z) 6 = z 6 + 1 := by
      unfold GS
      rw [if_neg (by omega), if_neg (by omega), if_neg (by omega), if_neg (by omega), if_neg (by omega), if_pos rfl]
    refine ⟨by rw [e3]; omega, by rw [e4, e5]; omega, by rw [e6]; omega, fun k a b => ?_⟩
    have ex : ∀ j : Int, 15 ≤ j → j < 28 → GS z (tZ z) j = z j := fun j c d => by
      unfold GS
      rw [if_neg (by omega), if_neg (by omega), if_neg (by omega), if_neg (by omega), if_neg (by omega), if_neg (by omega)]
    have := h4 k a b
    rw [ex _ (by omega) (by omega), ex _ (by omega) (by omega)]
    omega
/-! ===== the acts: what is told behind them ===== -/
theorem storm_due {z : Int → Int} (hI : Inv z) (h : ¬ 1 < pAll (tZ z)) : F_storm z = sumI 64 (fun p => zLo z (tZ z) p) := by
  have one : pAll (tZ z) = 1 := by have := hI.pa; omega
  unfold F_storm
  rw [if_neg h]
  refine sumI_congr 64 (fun p a b => ?_)
  have b2 := bp2 hI (p := p) (by omega)
  show (if 0 < zHi z (tZ z) p then z (28 + p) else 0) = z (28 + p) * zHi z (tZ z) p / pAll (tZ z)
  rw [one, Int.ediv_one]
  by_cases q : 0 < zHi z (tZ z) p
  · rw [if_pos q, show zHi z (tZ z) p = 1 by omega, Int.mul_one]
  · rw [if_neg q, show zHi z (tZ z) p = 0 by omega, Int.mul_zero]
theorem storm_left {z : Int → Int} (h : ¬ 1 < pAll (tZ z)) : G_storm z 4 = z 4 + F_storm z ∧ sumI 8 (fun r => if ¬ G_storm z (7 + r) = -5 then 1 else 0) = 0 ∧ sumI 64 (fun p => if ¬ G_storm z (156 + p) = 0 then 1 else 0) = 0 := by
  have eG : G_storm z = GS z (tZ z) := if_neg h
  have eF : F_storm z = zLost z (tZ z) := if_neg h
  rw [eG, eF]
  refine ⟨?_, sumI_0 8 (fun r a b => ?_), sumI_0 64 (fun p a b => ?_)⟩
  · unfold GS
    rw [if_neg (by omega), if_neg (by omega), if_neg (by omega), if_pos rfl]
  · rw [if_neg]
    intro q
    apply q
    unfold GS
    rw [if_neg (by omega), if_neg (by omega), if_pos (by omega)]
  · rw [if_neg]
    intro q
    apply q
    unfold GS
    rw [if_neg (by omega), if_pos (by omega)]
theorem hint_left {z : Int → Int} {r c : Int} (hr : 0 ≤ r ∧ r < 8) (hc : 0 ≤ c ∧ c < 8) (h1 : z (7 + r) = -5) (h2 : ¬ pTh (tZ z) (r * 8 + c) = 0) : F_hint z r c = pTh (tZ z) (r * 8 + c) ∧ pAll (tZ (G_hint z r c)) = pTh (tZ z) (r * 8 + c) ∧ G_hint z r c (7 + r) = c := by
  have eG : G_hint z r c = upZ z (7 + r) c := if_pos ⟨⟨by omega, by omega⟩, h1, h2⟩
  refine ⟨?_, ?_, ?_⟩
  · unfold F_hint
    rw [if_pos (by omega), if_pos (by omega), if_neg (fun q => q.elim (fun y => y h1) h2)]
  · rw [eG, ← tZ_up z r c]
    exact pAll_told hr hc h1
  · rw [eG]; exact upZ_eq _ _ _ rfl
