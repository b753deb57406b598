/-! ===== what the law asks: answers and their bounds ===== -/
def Bd (n : Int) (z : Int → Int) : Prop := (0 ≤ z 3 ∧ z 3 ≤ 99 * n) ∧ (0 ≤ z 5 ∧ z 5 ≤ z 4 ∧ z 4 ≤ 6336 * n) ∧ (0 ≤ z 6 ∧ z 6 ≤ n) ∧ ∀ k : Int, 0 ≤ k → k < 3 → 0 ≤ z (18 + 4 * k) ∧ z (18 + 4 * k) ≤ z (17 + 4 * k) ∧ z (17 + 4 * k) ≤ 99 * n
theorem Bd.mono {n m : Int} {z : Int → Int} (h : Bd n z) (hm : n ≤ m) : Bd m z := by
  obtain ⟨h1, h2, h3, h4⟩ := h
  exact ⟨by omega, by omega, by omega, fun k a b => by have := h4 k a b; omega⟩
theorem Bd.cr {n : Int} {z : Int → Int} (h : Bd n z) (k : Int) (a : 0 ≤ k) (b : k < 3) : 0 ≤ z (18 + 4 * k) ∧ z (18 + 4 * k) ≤ z (17 + 4 * k) ∧ z (17 + 4 * k) ≤ 99 * n := h.2.2.2 k a b
theorem fp0 {z : Int → Int} {p : Int} (h : 0 ≤ p ∧ p ≤ 63) : F_plot z p 0 = z (28 + p) := by unfold F_plot; rw [if_pos h]; rfl
theorem fp1 {z : Int → Int} {p : Int} (h : 0 ≤ p ∧ p ≤ 63) : F_plot z p 1 = z 92 := by unfold F_plot; rw [if_pos h]; rfl
theorem fp2 {z : Int → Int} {p : Int} (h : 0 ≤ p ∧ p ≤ 63) : F_plot z p 2 = zHi z (tZ z) p := by unfold F_plot; rw [if_pos h]; rfl
theorem fp3 {z : Int → Int} {p : Int} (h : 0 ≤ p ∧ p ≤ 63) : F_plot z p 3 = if 0 < zHi z (tZ z) p then 1 else 0 := by unfold F_plot; rw [if_pos h]; rfl
theorem fp4 {z : Int → Int} {p : Int} (h : 0 ≤ p ∧ p ≤ 63) : F_plot z p 4 = if zHi z (tZ z) p = pAll (tZ z) then 1 else 0 := by unfold F_plot; rw [if_pos h]; rfl
theorem fp5 {z : Int → Int} {p : Int} (h : 0 ≤ p ∧ p ≤ 63) : F_plot z p 5 = zLo z (tZ z) p := by unfold F_plot; rw [if_pos h]; rfl
theorem fp6 {z : Int → Int} {p : Int} (h : 0 ≤ p ∧ p ≤ 63) : F_plot z p 6 = z (156 + p) := by unfold F_plot; rw [if_pos h]; rfl
theorem fc0 {z : Int → Int} {k : Int} (h : 0 ≤ k ∧ k ≤ 2) : F_crew z k 0 = z (15 + 4 * k) := by unfold F_crew; rw [if_pos h]; rfl
theorem fc1 {z : Int → Int} {k : Int} (h : 0 ≤ k ∧ k ≤ 2) : F_crew z k 1 = z (16 + 4 * k) := by unfold F_crew; rw [if_pos h]; rfl
theorem fc2 {z : Int → Int} {k : Int} (h : 0 ≤ k ∧ k ≤ 2) : F_crew z k 2 = z (17 + 4 * k) := by unfold F_crew; rw [if_pos h]; rfl
theorem fc3 {z : Int → Int} {k : Int} (h : 0 ≤ k ∧ k ≤ 2) : F_crew z k 3 = z (18 + 4 * k) := by unfold F_crew; rw [if_pos h]; rfl
theorem fr0 {z : Int → Int} {r : Int} (h : 0 ≤ r ∧ r ≤ 7) : F_row z r 0 = z (7 + r) := by unfold F_row; rw [if_pos h]; rfl
theorem fr1 {z : Int → Int} {r : Int} (h : 0 ≤ r ∧ r ≤ 7) : F_row z r 1 = cLeast (fun c => pTh (tZ z) (r * 8 + c)) 8 := by unfold F_row; rw [if_pos h]; rfl
theorem fr2 {z : Int → Int} {r : Int} (h : 0 ≤ r ∧ r ≤ 7) : F_row z r 2 = cMost (fun c => pTh (tZ z) (r * 8 + c)) 8 := by unfold F_row; rw [if_pos h]; rfl
theorem fw {z : Int → Int} {k p : Int} (hk : 0 ≤ k ∧ k ≤ 2) (hp : 0 ≤ p ∧ p ≤ 63) : F_way z k p = zWay z k p := if_pos ⟨hk, hp⟩
theorem fre {z : Int → Int} {k p : Int} (hk : 0 ≤ k ∧ k ≤ 2) (hp : 0 ≤ p ∧ p ≤ 63) : F_reason z k p = F_why z k p := if_pos ⟨hk, hp⟩
theorem fbe {z : Int → Int} {k : Int} (hk : 0 ≤ k ∧ k ≤ 2) : F_best z k = zBest z (tZ z) k 64 := if_pos hk
theorem fto {z : Int → Int} {r c : Int} (hr : 0 ≤ r ∧ r ≤ 7) (hc : 0 ≤ c ∧ c ≤ 7) : F_told z r c = pTh (tZ z) (r * 8 + c) := by unfold F_told; rw [if_pos hr, if_pos hc]
theorem ite_b (P : Prop) [Decidable P] : 0 ≤ (if P then (1 : Int) else 0) ∧ (if P then (1 : Int) else 0) ≤ 1 := by
  by_cases h : P
  · rw [if_pos h]; omega
  · rw [if_neg h]; omega
theorem pHi_le (t : Int → Int) {p : Int} (w : Int) (hp : 0 ≤ p ∧ p < 64) : pHi (pTh t) p w ≤ pAll t := by
  rw [← pFl_all t (r := p / 8) (by omega)]
  refine sumI_le 8 (fun c h0 h1 => ?_)
  have h2 := (pTh_b t (p := p / 8 * 8 + c) (by omega)).1
  have h3 : 0 ≤ pTh t (p / 8 * 8 + c) := h2
  show (if -w ≤ c - p % 8 ∧ c - p % 8 ≤ w then pTh t (p / 8 * 8 + c) else 0) ≤ pTh t (p / 8 * 8 + c)
  split
  · exact Int.le_refl _
  · exact h3
theorem bp0 {z : Int → Int} (h : Inv z) {p : Int} (hp : 0 ≤ p ∧ p ≤ 63) : 0 ≤ z (28 + p) ∧ z (28 + p) ≤ 99 := h.wo p hp.1 (by omega)
theorem bp1 {z : Int → Int} (h : Inv z) {p : Int} (_hp : 0 ≤ p ∧ p ≤ 63) : 0 ≤ z 92 ∧ z 92 ≤ 9 := h.mu
theorem bp2 {z : Int → Int} (_h : Inv z) {p : Int} (hp : 0 ≤ p ∧ p ≤ 63) : 0 ≤ zHi z (tZ z) p ∧ zHi z (tZ z) p ≤ pAll (tZ z) ∧ pAll (tZ z) ≤ 17496 :=
  ⟨(pHi_b (tZ z) (z 1) (p := p) (by omega)).1, pHi_le (tZ z) (z 1) (by omega), (pAll_b (tZ z)).2⟩
theorem bp3 {z : Int → Int} (_h : Inv z) {p : Int} (_hp : 0 ≤ p ∧ p ≤ 63) : 0 ≤ (if 0 < zHi z (tZ z) p then (1 : Int) else 0) ∧ (if 0 < zHi z (tZ z) p then (1 : Int) else 0) ≤ 1 := ite_b _
theorem bp4 {z : Int → Int} (_h : Inv z) {p : Int} (_hp : 0 ≤ p ∧ p ≤ 63) : 0 ≤ (if zHi z (tZ z) p = pAll (tZ z) then (1 : Int) else 0) ∧ (if zHi z (tZ z) p = pAll (tZ z) then (1 : Int) else 0) ≤ 1 := ite_b _
theorem bp5 {z : Int → Int} (h : Inv z) {p : Int} (hp : 0 ≤ p ∧ p ≤ 63) : 0 ≤ zLo z (tZ z) p ∧ zLo z (tZ z) p ≤ 1732104 := zLo_b (tZ z) h h.pa (by omega)
theorem bp6 {z : Int → Int} (h : Inv z) {p : Int} (hp : 0 ≤ p ∧ p ≤ 63) : 0 ≤ z (156 + p) ∧ z (156 + p) ≤ 1 := by have := h.fe p hp.1 (by omega); omega
theorem bc0 {z : Int → Int} (h : Inv z) {k : Int} (hk : 0 ≤ k ∧ k ≤ 2) : 0 ≤ z (15 + 4 * k) ∧ z (15 + 4 * k) ≤ 63 := h.pl k hk.1 (by omega)
theorem bc1 {z : Int → Int} (h : Inv z) {k : Int} (hk : 0 ≤ k ∧ k ≤ 2) : 0 ≤ z (16 + 4 * k) ∧ z (16 + 4 * k) ≤ 30 := h.st k hk.1 (by omega)
theorem bc2 {z : Int → Int} (h : Bd 48 z) {k : Int} (hk : 0 ≤ k ∧ k ≤ 2) : 0 ≤ z (17 + 4 * k) ∧ z (17 + 4 * k) ≤ 4752 := by have := h.cr k hk.1 (by omega); omega
theorem bc3 {z : Int → Int} (h : Bd 48 z) {k : Int} (hk : 0 ≤ k ∧ k ≤ 2) : 0 ≤ z (18 + 4 * k) ∧ z (18 + 4 * k) ≤ z (17 + 4 * k) ∧ z (17 + 4 * k) ≤ 4752 := by have := h.cr k hk.1 (by omega); omega
theorem bre (z : Int → Int) (k p : Int) : 0 ≤ F_why z k p ∧ F_why z k p ≤ 3 := by unfold F_why; (repeat' split) <;> omega
theorem bbe (z : Int → Int) (k : Int) : -5 ≤ zBest z (tZ z) k 64 ∧ zBest z (tZ z) k 64 ≤ 63 := by have := zBest_b z (tZ z) k 64; omega
theorem bop (z : Int → Int) : -5 ≤ F_open z ∧ F_open z ≤ 7 := by
  have := cRow_b (fun r => cOpen (fun c => pTh (tZ z) (r * 8 + c)) 8) 7
  unfold F_open
  split <;> omega
theorem bto {t : Int → Int} {r c : Int} (hr : 0 ≤ r ∧ r ≤ 7) (hc : 0 ≤ c ∧ c ≤ 7) : 0 ≤ pTh t (r * 8 + c) ∧ pTh t (r * 8 + c) ≤ 2187 := pTh_b t (p := r * 8 + c) (by omega)
theorem sum01 {f : Int → Int} (n : Nat) (h : ∀ j : Int, 0 ≤ j → j < n → 0 ≤ f j ∧ f j ≤ 1) : 0 ≤ sumI n f ∧ sumI n f ≤ n := by
  refine ⟨sumI_nn n (fun j a b => (h j a b).1), ?_⟩
  have := sumI_b (f := f) (b := 1) n (fun j a b => (h j a b).2)
  omega
theorem bn1 {z : Int → Int} (h : Inv z) : 0 ≤ sumI 64 (fun p => z (28 + p)) ∧ sumI 64 (fun p => z (28 + p)) ≤ 6336 := by
  refine ⟨sumI_nn 64 (fun j a b => (h.wo j a (by omega)).1), ?_⟩
  have := sumI_b (f := fun p => z (28 + p)) (b := 99) 64 (fun j a b => (h.wo j a (by omega)).2)
  omega
theorem bn2 (z : Int → Int) : 0 ≤ sumI 64 (fun p => if 0 < zHi z (tZ z) p then 1 else 0) ∧ sumI 64 (fun p => if 0 < zHi z (tZ z) p then 1 else 0) ≤ 64 := sum01 64 (fun _ _ _ => ite_b _)
theorem bn3 (z : Int → Int) : 0 ≤ sumI 64 (fun p => if zHi z (tZ z) p = pAll (tZ z) then 1 else 0) ∧ sumI 64 (fun p => if zHi z (tZ z) p = pAll (tZ z) then 1 else 0) ≤ 64 := sum01 64 (fun _ _ _ => ite_b _)
theorem bn4 {z : Int → Int} (h : Inv z) : 0 ≤ sumI 64 (fun p => zLo z (tZ z) p) ∧ sumI 64 (fun p => zLo z (tZ z) p) ≤ 110854656 := by
  refine ⟨sumI_nn 64 (fun j a b => (bp5 h (p := j) (by omega)).1), ?_⟩
  have := sumI_b (f := fun p => zLo z (tZ z) p) (b := 1732104) 64 (fun j a b => (bp5 h (p := j) (by omega)).2)
  omega
theorem bn5 {z : Int → Int} (h : Inv z) : 1 ≤ pAll (tZ z) ∧ pAll (tZ z) ≤ 17496 := ⟨h.pa, (pAll_b (tZ z)).2⟩
theorem bn6 (z : Int → Int) : 0 ≤ sumI 8 (fun r => if ¬ z (7 + r) = -5 then 1 else 0) ∧ sumI 8 (fun r => if ¬ z (7 + r) = -5 then 1 else 0) ≤ 8 := sum01 8 (fun _ _ _ => ite_b _)
theorem bn7 {z : Int → Int} (h : Bd 48 z) : 0 ≤ z 17 + z 21 + z 25 ∧ z 17 + z 21 + z 25 ≤ 14256 := by
  have a := h.cr 0 (by omega) (by omega)
  have b := h.cr 1 (by omega) (by omega)
  have c := h.cr 2 (by omega) (by omega)
  simp only [show (17 : Int) + 4 * 0 = 17 by omega, show (18 : Int) + 4 * 0 = 18 by omega, show (17 : Int) + 4 * 1 = 21 by omega, show (18 : Int) + 4 * 1 = 22 by omega, show (17 : Int) + 4 * 2 = 25 by omega, show (18 : Int) + 4 * 2 = 26 by omega] at a b c
  omega
theorem bn8 {z : Int → Int} (h : Bd 48 z) : 0 ≤ z 5 ∧ z 5 ≤ z 4 ∧ z 4 ≤ 304128 := by have := h.2.1; omega
theorem bn10 {z : Int → Int} (h : Bd 48 z) : 0 ≤ z 6 ∧ z 6 ≤ 48 := h.2.2.1
theorem bn11 (z : Int → Int) : 0 ≤ sumI 64 (fun p => if ¬ z (156 + p) = 0 then 1 else 0) ∧ sumI 64 (fun p => if ¬ z (156 + p) = 0 then 1 else 0) ≤ 64 := sum01 64 (fun _ _ _ => ite_b _)
theorem br0 {z : Int → Int} (h : Inv z) {r : Int} (hr : 0 ≤ r ∧ r ≤ 7) : z (7 + r) = -5 ∨ (0 ≤ z (7 + r) ∧ z (7 + r) ≤ 7) := h.to r hr.1 (by omega)
/-! all that belongs to a state, as one number -/
theorem F_count_x {z : Int → Int} {sz w : Int} (h : 0 ≤ w ∧ w ≤ 14) : F_count z sz 0 w = F_count z 0 0 w := by
  rcases (show w = 0 ∨ w = 1 ∨ w = 2 ∨ w = 3 ∨ w = 4 ∨ w = 5 ∨ w = 6 ∨ w = 7 ∨ w = 8 ∨ w = 9 ∨ w = 10 ∨ w = 11 ∨ w = 12 ∨ w = 13 ∨ w = 14 by omega) with e | e | e | e | e | e | e | e | e | e | e | e | e | e | e <;> subst e <;> rfl
theorem F_count_r {z : Int → Int} (hI : Inv z) (hB : Bd 48 z) {w : Int} (h : 0 ≤ w ∧ w ≤ 14) : -2147483648 ≤ F_count z 0 0 w ∧ F_count z 0 0 w < 2147483648 := by
  have a0 := hI.da
  have a1 := bn1 hI
  have a2 := bn2 z
  have a3 := bn3 z
  have a4 := bn4 hI
  have a5 := bn5 hI
  have a6 := bn6 z
  have a7 := bn7 hB
  have a8 := bn8 hB
  have a10 := bn10 hB
  have a11 := bn11 z
  have a12 := hI.s0
  have a13 := hI.s1
  have a14 := hI.s2
  rcases (show w = 0 ∨ w = 1 ∨ w = 2 ∨ w = 3 ∨ w = 4 ∨ w = 5 ∨ w = 6 ∨ w = 7 ∨ w = 8 ∨ w = 9 ∨ w = 10 ∨ w = 11 ∨ w = 12 ∨ w = 13 ∨ w = 14 by omega) with e | e | e | e | e | e | e | e | e | e | e | e | e | e | e <;> subst e
  · show -2147483648 ≤ z 3 ∧ z 3 < 2147483648; omega
  · show -2147483648 ≤ sumI 64 (fun p => z (28 + p)) ∧ sumI 64 (fun p => z (28 + p)) < 2147483648; omega
  · show -2147483648 ≤ sumI 64 (fun p => if 0 < zHi z (tZ z) p then 1 else 0) ∧ sumI 64 (fun p => if 0 < zHi z (tZ z) p then 1 else 0) < 2147483648; omega
  · show -2147483648 ≤ sumI 64 (fun p => if zHi z (tZ z) p = pAll (tZ z) then 1 else 0) ∧ sumI 64 (fun p => if zHi z (tZ z) p = pAll (tZ z) then 1 else 0) < 2147483648; omega
  · show -2147483648 ≤ sumI 64 (fun p => zLo z (tZ z) p) ∧ sumI 64 (fun p => zLo z (tZ z) p) < 2147483648; omega
  · show -2147483648 ≤ pAll (tZ z) ∧ pAll (tZ z) < 2147483648; omega
  · show -2147483648 ≤ sumI 8 (fun r => if ¬ z (7 + r) = -5 then 1 else 0) ∧ sumI 8 (fun r => if ¬ z (7 + r) = -5 then 1 else 0) < 2147483648; omega
  · show -2147483648 ≤ z 17 + z 21 + z 25 ∧ z 17 + z 21 + z 25 < 2147483648; omega
  · show -2147483648 ≤ z 4 ∧ z 4 < 2147483648; omega
  · show -2147483648 ≤ z 5 ∧ z 5 < 2147483648; omega
  · show -2147483648 ≤ z 6 ∧ z 6 < 2147483648; omega
  · show -2147483648 ≤ sumI 64 (fun p => if ¬ z (156 + p) = 0 then 1 else 0) ∧ sumI 64 (fun p => if ¬ z (156 + p) = 0 then 1 else 0) < 2147483648; omega
  · show -2147483648 ≤ z 0 ∧ z 0 < 2147483648; omega
  · show -2147483648 ≤ z 1 ∧ z 1 < 2147483648; omega
  · show -2147483648 ≤ z 2 ∧ z 2 < 2147483648; omega
theorem F_crew_r {z : Int → Int} (hI : Inv z) (hB : Bd 48 z) {k w : Int} (hk : 0 ≤ k ∧ k ≤ 2) (h : 0 ≤ w ∧ w ≤ 3) : -2147483648 ≤ F_crew z k w ∧ F_crew z k w < 2147483648 := by
  have a0 := bc0 hI hk
  have a1 := bc1 hI hk
  have a2 := bc2 hB hk
  have a3 := bc3 hB hk
  rcases (show w = 0 ∨ w = 1 ∨ w = 2 ∨ w = 3 by omega) with e | e | e | e <;> subst e
  · rw [fc0 hk]; omega
  · rw [fc1 hk]; omega
  · rw [fc2 hk]; omega
  · rw [fc3 hk]; omega
def sn1 (z : Int → Int) : Nat → Int
  | 0 => 139
  | n + 1 => 31 * sn1 z n + F_count z 0 0 (n : Int)
def sn2 (z : Int → Int) : Nat → Int
  | 0 => sn1 z 15
  | n + 1 => 31 * (31 * sn2 z n + F_crew z ((n : Int) / 4) ((n : Int) % 4)) + z (7 + (n : Int) % 8)
def sn3 (z : Int → Int) : Nat → Int
  | 0 => sn2 z 12
  | n + 1 => 31 * (31 * (31 * sn3 z n + z (28 + (n : Int))) + z 92) + z (156 + (n : Int))
def seenZ (z : Int → Int) : Int := sn3 z 64
theorem sn1_S {z : Int → Int} {i : Int} (h : 0 ≤ i) : sn1 z (i + 1).toNat = 31 * sn1 z i.toNat + F_count z 0 0 i := by
  rw [show (i + 1).toNat = i.toNat + 1 by omega]
  show 31 * sn1 z i.toNat + F_count z 0 0 ((i.toNat : Nat) : Int) = _
  rw [Int.toNat_of_nonneg h]
theorem sn2_S {z : Int → Int} {i : Int} (h : 0 ≤ i) : sn2 z (i + 1).toNat = 31 * (31 * sn2 z i.toNat + F_crew z (i / 4) (i % 4)) + z (7 + i % 8) := by
  rw [show (i + 1).toNat = i.toNat + 1 by omega]
  show 31 * (31 * sn2 z i.toNat + F_crew z (((i.toNat : Nat) : Int) / 4) (((i.toNat : Nat) : Int) % 4)) + z (7 + ((i.toNat : Nat) : Int) % 8) = _
  rw [Int.toNat_of_nonneg h]
theorem sn3_S {z : Int → Int} {i : Int} (h : 0 ≤ i) : sn3 z (i + 1).toNat = 31 * (31 * (31 * sn3 z i.toNat + z (28 + i)) + z 92) + z (156 + i) := by
  rw [show (i + 1).toNat = i.toNat + 1 by omega]
  show 31 * (31 * (31 * sn3 z i.toNat + z (28 + ((i.toNat : Nat) : Int))) + z 92) + z (156 + ((i.toNat : Nat) : Int)) = _
  rw [Int.toNat_of_nonneg h]
