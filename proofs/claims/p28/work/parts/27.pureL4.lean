/-! ===== small facts of the law's checks ===== -/
theorem inrow {g : Int → Int} {i ir : Int} (hi : 0 ≤ i) (h : i % 8 = 0 ∨ ir = sumI (i % 8).toNat (fun c => g (i / 8 * 8 + c))) : (if i % 8 = 0 then g i else ir + g i) = sumI (i % 8 + 1).toNat (fun c => g (i / 8 * 8 + c)) := by
  have e := sumI_S (show 0 ≤ i % 8 by omega) (fun c => g (i / 8 * 8 + c))
  have e2 : g (i / 8 * 8 + i % 8) = g i := by rw [show i / 8 * 8 + i % 8 = i by omega]
  rw [e, e2]
  by_cases q : i % 8 = 0
  · rw [if_pos q, q]
    show g i = 0 + g i
    omega
  · rw [if_neg q]
    rcases h with h | h
    · exact absurd h q
    · rw [h]
theorem inrow_S {g : Int → Int} {i ir : Int} (hi : 0 ≤ i) (h : ir = sumI (i % 8 + 1).toNat (fun c => g (i / 8 * 8 + c))) : (i + 1) % 8 = 0 ∨ ir = sumI ((i + 1) % 8).toNat (fun c => g ((i + 1) / 8 * 8 + c)) := by
  by_cases q : (i + 1) % 8 = 0
  · exact Or.inl q
  · exact Or.inr (by rw [h, show (i + 1) % 8 = i % 8 + 1 by omega, show (i + 1) / 8 = i / 8 by omega])
theorem row_at {z : Int → Int} (hI : Inv z) {i ir : Int} (hi : 0 ≤ i ∧ i < 64) (h7 : 7 ≤ i % 8) (h : ir = sumI (i % 8 + 1).toNat (fun c => zHi z (tZ z) (i / 8 * 8 + c))) : (pAll (tZ z) ≤ ir ∧ ir ≤ pAll (tZ z) * (2 * z 1 + 1)) ∧ pAll (tZ z) * (2 * z 1 + 1) ≤ 87480 := by
  have k := hi_rows hI (r := i / 8) (by omega)
  rw [show (i % 8 + 1).toNat = 8 by omega] at h
  rw [h]
  refine ⟨k, ?_⟩
  have a := (pAll_b (tZ z)).2
  have s := hI.s1
  have p := hI.pa
  rcases (show z 1 = 0 ∨ z 1 = 1 ∨ z 1 = 2 by omega) with y | y | y <;> rw [y] <;> omega
theorem felled_sum {z : Int → Int} (hI : Inv z) : sumI 64 (fun p => z (156 + p)) = sumI 64 (fun p => if ¬ z (156 + p) = 0 then 1 else 0) :=
  sumI_congr 64 (fun p a b => by
    show z (156 + p) = if ¬ z (156 + p) = 0 then 1 else 0
    rcases hI.fe p a (by omega) with e | e
    · rw [if_neg (by omega), e]
    · rw [if_pos (by omega), e])
theorem open_none {z : Int → Int} (hI : Inv z) : (F_open z = -5 ∧ pAll (tZ z) = 1) ∨ ((0 ≤ F_open z ∧ F_open z ≤ 7) ∧ 1 < pAll (tZ z)) := by
  have p := hI.pa
  by_cases q : 1 < pAll (tZ z)
  · exact Or.inr ⟨(open_sp hI q).1, q⟩
  · exact Or.inl ⟨if_pos (by omega), by omega⟩
theorem hints_S {z : Int → Int} {r hn : Int} (hr : 0 ≤ r) (h : hn = sumI r.toNat (fun r => if ¬ z (7 + r) = -5 then 1 else 0)) : hn + (if z (7 + r) = -5 then 0 else 1) = sumI (r + 1).toNat (fun r => if ¬ z (7 + r) = -5 then 1 else 0) := by
  rw [sumI_S hr, ← h]
  congr 1
  by_cases q : z (7 + r) = -5
  · rw [if_pos q, if_neg (fun w => w q)]
  · rw [if_neg q, if_pos q]
theorem many_S {o : Int → Int} {c ma : Int} (hc : 0 ≤ c) (h : ma = cOpen o c.toNat) : ma + (if o c ≤ 0 then 0 else 1) = cOpen o (c + 1).toNat := by
  rw [cOpen_S hc, ← h]
  congr 1
  by_cases q : o c ≤ 0
  · rw [if_pos q, if_neg (by omega)]
  · rw [if_neg q, if_pos (by omega)]
theorem row_sum (t : Int → Int) {r : Int} (hr : 0 ≤ r ∧ r < 8) : sumI 8 (fun c => pTh t (r * 8 + c)) = pAll t := pFl_all t hr
theorem saved_sum (z : Int → Int) : sumI 3 (fun k => z (17 + 4 * k)) = z 17 + z 21 + z 25 := by
  show 0 + z (17 + 4 * 0) + z (17 + 4 * 1) + z (17 + 4 * 2) = z 17 + z 21 + z 25
  rw [Int.zero_add]
  rfl
theorem way_01 {z : Int → Int} (hI : Inv z) {k p : Int} (hk : 0 ≤ k ∧ k ≤ 2) (hp : 0 ≤ p ∧ p ≤ 63) : (zWay z k p = 0 ∧ p = z (15 + 4 * k)) ∨ (¬ zWay z k p = 0 ∧ ¬ p = z (15 + 4 * k)) := by
  have h := way_0 hI hk hp
  by_cases q : zWay z k p = 0
  · exact Or.inl ⟨q, h.mp q⟩
  · exact Or.inr ⟨q, fun w => q (h.mpr w)⟩
theorem set_in {z : Int → Int} (hI : Inv z) {i : Int} (hi : 0 ≤ i ∧ i ≤ 2) : sLo i ≤ z i ∧ z i ≤ sHi i := by
  have a0 := hI.s0
  have a1 := hI.s1
  have a2 := hI.s2
  rcases (show i = 0 ∨ i = 1 ∨ i = 2 by omega) with e | e | e <;> subst e
  · show (1 : Int) ≤ z 0 ∧ z 0 ≤ 30; exact a0
  · show (0 : Int) ≤ z 1 ∧ z 1 ≤ 2; exact a1
  · show (1 : Int) ≤ z 2 ∧ z 2 ≤ 9; exact a2
theorem count_set {z : Int → Int} {sz i : Int} (hi : 0 ≤ i ∧ i ≤ 2) : F_count z sz 0 (12 + i) = z i := by
  rcases (show i = 0 ∨ i = 1 ∨ i = 2 by omega) with e | e | e <;> subst e <;> rfl
theorem hSz_b {a sz : Int} (h : 0 ≤ sz ∧ sz ≤ 4) : 0 ≤ hSz a sz ∧ hSz a sz ≤ 4 := by
  unfold hSz hUp
  (repeat' split) <;> omega
/-- what an act answers (r), and what it leaves (z2) of z, the n-th at most -/
def Act (n : Int) (z : Int → Int) (r : Int) (z2 : Int → Int) : Prop := (-5 ≤ r ∧ r ≤ 20000) ∧ (r < 0 → z2 = z) ∧ Inv z2 ∧ Bd (n + 1) z2
theorem Act.grow {n : Int} {z : Int → Int} (hI : Inv z) (hB : Bd n z) (p w : Int) : Act n z (F_grow z p w) (G_grow z p w) := ⟨by have := F_grow_b hI p w; omega, GN_grow hI, hI.grow p w, (hB.grow p w).mono (by omega)⟩
theorem Act.rain {n : Int} {z : Int → Int} (hI : Inv z) (hB : Bd n z) (m : Int) : Act n z (F_rain z m) (G_rain z m) := ⟨by have := F_rain_b z m; omega, GN_rain, hI.rain m, (hB.rain m).mono (by omega)⟩
theorem Act.pass {n : Int} {z : Int → Int} (hI : Inv z) (hB : Bd n z) (m : Int) : Act n z (F_end z m) (G_end z m) := ⟨by have := F_end_b hI m; omega, GN_endDays hI, hI.pass m, hB.pass m⟩
theorem Act.set {n : Int} {z : Int → Int} (hI : Inv z) (hB : Bd n z) (i v : Int) : Act n z (F_set z i v) (G_set z i v) := ⟨by have := F_set_b hI i v; omega, GN_set hI, hI.set i v, (hB.set i v).mono (by omega)⟩
theorem Act.go {n : Int} {z : Int → Int} (hI : Inv z) (hB : Bd n z) (k p : Int) : Act n z (F_go z k p) (G_go z k p) := ⟨by have := F_go_b hI k p; omega, GN_go, hI.go k p, (hB.go k p).mono (by omega)⟩
theorem Act.fell {n : Int} {z : Int → Int} (hI : Inv z) (hB : Bd n z) (k : Int) : Act n z (F_fell z k) (G_fell z k) := ⟨by have := F_fell_b hI k; omega, GN_fell hI, hI.fell k, hB.fell hI k⟩
theorem Act.hint {n : Int} {z : Int → Int} (hI : Inv z) (hB : Bd n z) (r c : Int) : Act n z (F_hint z r c) (G_hint z r c) := ⟨by have := F_hint_b z r c; omega, GN_hint, hI.hint r c, (hB.hint r c).mono (by omega)⟩
theorem Act.back {n : Int} {z : Int → Int} (hI : Inv z) (hB : Bd n z) (r : Int) : Act n z (F_back z r) (G_back z r) := ⟨by have := F_back_b z r; omega, GN_takeBack, hI.back r, (hB.back r).mono (by omega)⟩
theorem Act.storm {n : Int} {z : Int → Int} (hI : Inv z) (hB : Bd n z) : Act n z (F_storm z) (G_storm z) := ⟨by have := F_storm_b hI; omega, GN_storm hI, hI.storm, hB.storm hI⟩
theorem go_is {z : Int → Int} (hI : Inv z) {k p : Int} (hk : 0 ≤ k ∧ k ≤ 2) (hp : 0 ≤ p ∧ p ≤ 63) : F_go z k p = if p = z (15 + 4 * k) then -5 else if zWay z k p ≤ z (16 + 4 * k) then z (16 + 4 * k) - zWay z k p else -4 := by
  have s := bc1 hI hk
  unfold F_go
  rw [if_pos ⟨hk, hp⟩]
  by_cases q : p = z (15 + 4 * k)
  · have e := zWay_0 (z := z) (k := k) (p := p) q.symm
    rw [if_pos q, if_neg (by omega), if_pos q.symm]
  · rw [if_neg q]
    by_cases y : zWay z k p ≤ z (16 + 4 * k)
    · rw [if_pos y, if_neg (by omega), if_neg (fun w => q w.symm)]
    · rw [if_neg y, if_pos (by omega)]
theorem go_sp {z : Int → Int} (hI : Inv z) {k p : Int} (hk : 0 ≤ k ∧ k ≤ 2) (hp : 0 ≤ p ∧ p ≤ 63) : (F_go z k p < 0 ∧ G_go z k p (15 + 4 * k) = z (15 + 4 * k) ∧ G_go z k p (16 + 4 * k) = z (16 + 4 * k)) ∨ (0 ≤ F_go z k p ∧ G_go z k p (15 + 4 * k) = p ∧ G_go z k p (16 + 4 * k) = F_go z k p) := by
  by_cases q : F_go z k p < 0
  · refine Or.inl ⟨q, ?_⟩
    rw [GN_go q]
    exact ⟨rfl, rfl⟩
  · refine Or.inr ⟨by omega, ?_⟩
    have e := go_is hI hk hp
    by_cases y : p = z (15 + 4 * k)
    · rw [if_pos y] at e; omega
    · rw [if_neg y] at e
      by_cases w : zWay z k p ≤ z (16 + 4 * k)
      · rw [if_pos w] at e
        have eG : G_go z k p = GG z k p := if_pos ⟨⟨hk, hp⟩, w⟩
        rw [eG, e]
        unfold GG
        exact ⟨upZ_eq _ _ _ rfl, by rw [upZ_ne _ _ _ (by omega)]; exact upZ_eq _ _ _ rfl⟩
      · rw [if_neg w] at e; omega
theorem fell_is {z : Int → Int} {k : Int} (hk : 0 ≤ k ∧ k ≤ 2) : F_fell z k = if z 2 ≤ z (16 + 4 * k) then (if z (28 + z (15 + 4 * k)) = 0 then -5 else z (28 + z (15 + 4 * k))) else -4 := by
  unfold F_fell
  rw [if_pos hk]
  by_cases q : z 2 ≤ z (16 + 4 * k)
  · rw [if_pos q, if_neg (by omega)]
  · rw [if_neg q, if_pos (by omega)]
theorem fell_2 {z : Int → Int} (hI : Inv z) {k : Int} (hk : 0 ≤ k ∧ k ≤ 2) : G_fell z k 2 = z 2 := by
  have pl := bc0 hI hk
  unfold G_fell
  split
  · unfold GF
    rw [upZ_ne _ _ _ (by omega), upZ_ne _ _ _ (by omega), upZ_ne _ _ _ (by omega), upZ_ne _ _ _ (by omega), upZ_ne _ _ _ (by omega)]
  · rfl
theorem fell_sp {z : Int → Int} (hI : Inv z) {k : Int} (hk : 0 ≤ k ∧ k ≤ 2) (h : 0 ≤ F_fell z k) : (G_fell z k (28 + z (15 + 4 * k)) = 0 ∧ G_fell z k (156 + z (15 + 4 * k)) = 1) ∧ (G_fell z k (16 + 4 * k) = z (16 + 4 * k) - z 2 ∧ G_fell z k (17 + 4 * k) = z (17 + 4 * k) + z (28 + z (15 + 4 * k)) ∧ G_fell z k (18 + 4 * k) = z (18 + 4 * k) + 1) ∧ sumI 64 (fun p => G_fell z k (28 + p)) = sumI 64 (fun p => z (28 + p)) - z (28 + z (15 + 4 * k)) := by
  have pl := bc0 hI hk
  have e := fell_is (z := z) hk
  have wo := bp0 hI pl
  by_cases q : z 2 ≤ z (16 + 4 * k)
  · rw [if_pos q] at e
    by_cases y : z (28 + z (15 + 4 * k)) = 0
    · rw [if_pos y] at e; omega
    · have eG : G_fell z k = GF z k := if_pos ⟨hk, q, y⟩
      rw [eG]
      unfold GF
      refine ⟨⟨?_, ?_⟩, ⟨?_, ?_, ?_⟩, ?_⟩
      · rw [upZ_ne _ _ _ (by omega), upZ_ne _ _ _ (by omega), upZ_ne _ _ _ (by omega), upZ_ne _ _ _ (by omega)]; exact upZ_eq _ _ _ rfl
      · rw [upZ_ne _ _ _ (by omega), upZ_ne _ _ _ (by omega), upZ_ne _ _ _ (by omega)]; exact upZ_eq _ _ _ rfl
      · rw [upZ_ne _ _ _ (by omega), upZ_ne _ _ _ (by omega)]; exact upZ_eq _ _ _ rfl
      · rw [upZ_ne _ _ _ (by omega)]; exact upZ_eq _ _ _ rfl
      · exact upZ_eq _ _ _ rfl
      · have s := sumI_upZ (fun p => z (28 + p)) (z (15 + 4 * k)) 0 pl.1 64
        rw [if_pos (by omega)] at s
        have s2 : sumI 64 (upZ (fun p => z (28 + p)) (z (15 + 4 * k)) 0) = sumI 64 (fun p => z (28 + p)) + (0 - z (28 + z (15 + 4 * k))) := s
        rw [show sumI 64 (fun p => z (28 + p)) - z (28 + z (15 + 4 * k)) = sumI 64 (fun p => z (28 + p)) + (0 - z (28 + z (15 + 4 * k))) by omega, ← s2]
        refine sumI_congr 64 (fun p a b => ?_)
        show upZ _ (18 + 4 * k) _ (28 + p) = upZ (fun p => z (28 + p)) (z (15 + 4 * k)) 0 p
        rw [upZ_ne _ _ _ (by omega), upZ_ne _ _ _ (by omega), upZ_ne _ _ _ (by omega), upZ_ne _ _ _ (by omega)]
        by_cases w : p = z (15 + 4 * k)
        · rw [upZ_eq _ _ _ (by omega), upZ_eq _ _ _ w]
        · rw [upZ_ne _ _ _ (by omega), upZ_ne _ _ _ w]
  · rw [if_neg q] at e; omega
theorem hint_is {z : Int → Int} {r c : Int} (hr : 0 ≤ r ∧ r ≤ 7) (hc : 0 ≤ c ∧ c ≤ 7) : F_hint z r c = if z (7 + r) = -5 then (if pTh (tZ z) (r * 8 + c) = 0 then -4 else pTh (tZ z) (r * 8 + c)) else -4 := by
  unfold F_hint
  rw [if_pos hr, if_pos hc]
  by_cases q : z (7 + r) = -5
  · rw [if_pos q]
    by_cases y : pTh (tZ z) (r * 8 + c) = 0
    · rw [if_pos (Or.inr y), if_pos y]
    · rw [if_neg (fun w => w.elim (fun v => v q) y), if_neg y]
  · rw [if_neg q, if_pos (Or.inl q)]
theorem hint_sp {z : Int → Int} {r c : Int} (hr : 0 ≤ r ∧ r ≤ 7) (hc : 0 ≤ c ∧ c ≤ 7) (h : 0 ≤ F_hint z r c) : pAll (tZ (G_hint z r c)) = F_hint z r c ∧ G_hint z r c (7 + r) = c := by
  have e := hint_is (z := z) hr hc
  by_cases q : z (7 + r) = -5
  · rw [if_pos q] at e
    by_cases y : pTh (tZ z) (r * 8 + c) = 0
    · rw [if_pos y] at e; omega
    · have k := hint_left (z := z) (r := r) (c := c) (by omega) (by omega) q y
      exact ⟨by rw [k.1]; exact k.2.1, k.2.2⟩
  · rw [if_neg q] at e; omega
theorem back_sp {z : Int → Int} {r : Int} (hr : 0 ≤ r ∧ r ≤ 7) (h : ¬ z (7 + r) = -5) : pAll (tZ z) ≤ F_back z r ∧ pAll (tZ (G_back z r)) = F_back z r ∧ G_back z r (7 + r) = -5 := by
  have eG : G_back z r = upZ z (7 + r) (-5) := if_pos ⟨by omega, h⟩
  have eF : F_back z r = pAll (tZ (upZ z (7 + r) (-5))) := by
    unfold F_back
    rw [if_pos hr, if_neg h]
  rw [eG, eF]
  refine ⟨pAll_mono (fun q a b => ?_), rfl, upZ_eq _ _ _ rfl⟩
  by_cases y : q = r
  · exact Or.inl (upZ_eq _ _ _ (by omega))
  · exact Or.inr (upZ_ne _ _ _ (by omega))
theorem back_no {z : Int → Int} {r : Int} (hr : 0 ≤ r ∧ r ≤ 7) (h : z (7 + r) = -5) : F_back z r = -5 := by
  unfold F_back
  rw [if_pos hr, if_pos h]
theorem rain_sp {z : Int → Int} {m : Int} (hm : 1 ≤ m ∧ m ≤ 9) : (0 ≤ F_rain z m ∧ F_rain z m ≤ 64) ∧ G_rain z m 92 = if z 92 + m ≤ 9 then z 92 + m else 9 := by
  have eG : G_rain z m = GR z m := if_pos hm
  rw [eG]
  refine ⟨?_, ?_⟩
  · unfold F_rain
    rw [if_pos hm]
    split <;> omega
  · unfold GR
    rw [if_pos (by omega)]
    (repeat' split) <;> omega
theorem end_sp {z : Int → Int} {n : Int} (hn : 1 ≤ n ∧ n ≤ 99) (h : z 3 + n ≤ 9999) : F_end z n = z 3 + n ∧ G_end z n 3 = z 3 + n ∧ G_end z n 92 = (if z 92 ≤ n then 0 else z 92 - n) ∧ G_end z n 0 = z 0 ∧ ∀ k : Int, 0 ≤ k → k < 3 → G_end z n (16 + 4 * k) = z 0 := by
  have eG : G_end z n = GE z n := if_pos ⟨hn, h⟩
  rw [eG]
  refine ⟨?_, ?_, ?_, ?_, fun k a b => ?_⟩
  · unfold F_end
    rw [if_pos hn, if_neg (by omega)]
  · unfold GE
    rw [if_neg (by omega), if_pos rfl]
  · unfold GE
    rw [if_pos (by omega)]
    (repeat' split) <;> omega
  · unfold GE
    rw [if_neg (by omega), if_neg (by omega), if_neg (by omega)]
  · unfold GE
    rw [if_neg (by omega), if_neg (by omega), if_pos (by omega)]
theorem set_is {z : Int → Int} {i v : Int} (hi : 0 ≤ i ∧ i ≤ 2) (hv : sLo i ≤ v ∧ v ≤ sHi i) : F_set z i v = (if z i = v then -5 else z i) ∧ G_set z i v i = v := by
  have eG : G_set z i v = upZ z i v := if_pos ⟨hi, hv⟩
  refine ⟨?_, by rw [eG]; exact upZ_eq _ _ _ rfl⟩
  unfold F_set
  rw [if_pos hi, if_pos hv]
theorem grow_is {z : Int → Int} {p w : Int} (hp : 0 ≤ p ∧ p ≤ 63) (hw : 0 ≤ w ∧ w ≤ 99) : F_grow z p w = (if z (28 + p) = w then -5 else z (28 + p)) ∧ G_grow z p w (28 + p) = w := by
  have eG : G_grow z p w = upZ z (28 + p) w := if_pos ⟨hp, hw⟩
  refine ⟨?_, by rw [eG]; exact upZ_eq _ _ _ rfl⟩
  unfold F_grow
  rw [if_pos hp, if_pos hw]
theorem storm_is {z : Int → Int} (hI : Inv z) : F_storm z = if 1 < pAll (tZ z) then -4 else sumI 64 (fun p => zLo z (tZ z) p) := by
  by_cases q : 1 < pAll (tZ z)
  · rw [if_pos q]; exact if_pos q
  · rw [if_neg q]; exact storm_due hI q
theorem storm_neg {z : Int → Int} (hI : Inv z) (h : 0 ≤ F_storm z) : ¬ 1 < pAll (tZ z) := fun q => by
  have : F_storm z = -4 := if_pos q
  omega
/-! ===== the beginning ===== -/
theorem z0_inv : Inv z0 := by
  refine ⟨by unfold z0; decide, by unfold z0; decide, by unfold z0; decide, by unfold z0; decide, fun r a b => ?_, fun k a b => ?_, fun k a b => ?_, fun p a b => ?_, by unfold z0; decide, fun p a b => ?_, fun p a b => ?_, ?_⟩
  · left; unfold z0; rw [if_neg (by omega), if_neg (by omega), if_pos (by omega)]
  · rcases (show k = 0 ∨ k = 1 ∨ k = 2 by omega) with e | e | e <;> subst e <;> decide
  · rcases (show k = 0 ∨ k = 1 ∨ k = 2 by omega) with e | e | e <;> subst e <;> decide
  · have : z0 (28 + p) = 0 := by unfold z0; rw [if_neg (by omega), if_neg (by omega), if_neg (by omega), if_neg (by omega), if_neg (by omega)]
    omega
  · have e1 : z0 (92 + p) = 0 := by unfold z0; rw [if_neg (by omega), if_neg (by omega), if_neg (by omega), if_neg (by omega), if_neg (by omega)]
    rw [e1]; rfl
  · left; unfold z0; rw [if_neg (by omega), if_neg (by omega), if_neg (by omega), if_neg (by omega), if_neg (by omega)]
  · have h1 : ∀ (n : Nat) (c : Int), (n : Int) ≤ 7 → 1 ≤ pB (tZ z0) n c := by
      intro n
      have t0 : ∀ r : Int, 0 ≤ r → r < 8 → tZ z0 r = -5 := fun r a b => by
        show z0 (7 + r) = -5
        unfold z0
        rw [if_neg (by omega), if_neg (by omega), if_pos (by omega)]
      induction n with
      | zero =>
        intro c _
        show 1 ≤ (if tZ z0 7 = -5 ∨ tZ z0 7 = c then (1 : Int) else 0)
        rw [if_pos (Or.inl (t0 7 (by omega) (by omega)))]
        omega
      | succ n ih =>
        intro c hn
        have i0 := ih c (by omega)
        have b1 := (pB_b (tZ z0) n (c - 1)).1
        have b2 := (pB_b (tZ z0) n (c + 1)).1
        show 1 ≤ (if tZ z0 (6 - (n : Int)) = -5 ∨ tZ z0 (6 - (n : Int)) = c then pB (tZ z0) n c + (if 0 < c then pB (tZ z0) n (c - 1) else 0) + (if c < 7 then pB (tZ z0) n (c + 1) else 0) else 0)
        rw [if_pos (Or.inl (t0 (6 - (n : Int)) (by omega) (by omega)))]
        (repeat' split) <;> omega
    have nn : ∀ p : Int, 0 ≤ p → p < 8 → 1 ≤ pBe (tZ z0) p := fun p a b => h1 _ _ (by omega)
    show 1 ≤ sumI 8 (pBe (tZ z0))
    rw [sum8]
    have a0 := nn 0 (by omega) (by omega)
    have a1 := nn 1 (by omega) (by omega)
    have a2 := nn 2 (by omega) (by omega)
    have a3 := nn 3 (by omega) (by omega)
    have a4 := nn 4 (by omega) (by omega)
    have a5 := nn 5 (by omega) (by omega)
    have a6 := nn 6 (by omega) (by omega)
    have a7 := nn 7 (by omega) (by omega)
    omega
theorem z0_Bd : Bd 0 z0 := by
  refine ⟨by unfold z0; decide, by unfold z0; decide, by unfold z0; decide, fun k a b => ?_⟩
  rcases (show k = 0 ∨ k = 1 ∨ k = 2 by omega) with e | e | e <;> subst e <;> decide
/-- the states that are kept: each within its bounds -/
def His (n sz : Int) (S : Nat → Int → Int) : Prop := (0 ≤ sz ∧ sz ≤ 4) ∧ ∀ i : Int, 0 ≤ i → i < sz → Inv (S i.toNat) ∧ Bd n (S i.toNat)
theorem His.zero (n : Int) (S : Nat → Int → Int) : His n 0 S := ⟨by omega, fun i a b => by omega⟩
theorem His.mono {n m sz : Int} {S : Nat → Int → Int} (h : His n sz S) (hm : n ≤ m) : His m sz S := ⟨h.1, fun i a b => ⟨(h.2 i a b).1, (h.2 i a b).2.mono hm⟩⟩
theorem His.push {n sz : Int} {S : Nat → Int → Int} {z : Int → Int} (h : His n sz S) (hI : Inv z) (hB : Bd n z) : His n (hUp sz) (hPush sz S z) := by
  obtain ⟨hs, hi⟩ := h
  refine ⟨by unfold hUp; split <;> omega, fun i a b => ?_⟩
  by_cases e : sz < 4
  · rw [show hUp sz = sz + 1 from if_pos e] at b
    rw [show hPush sz S z i.toNat = if ((i.toNat : Nat) : Int) = sz then z else S i.toNat by unfold hPush; rw [if_pos e], Int.toNat_of_nonneg a]
    by_cases y : i = sz
    · rw [if_pos y]; exact ⟨hI, hB⟩
    · rw [if_neg y]; exact hi i a (by omega)
  · rw [show hUp sz = 4 from if_neg e] at b
    rw [show hPush sz S z i.toNat = if i.toNat = 3 then z else S (i.toNat + 1) by unfold hPush; rw [if_neg e]]
    by_cases y : i.toNat = 3
    · rw [if_pos y]; exact ⟨hI, hB⟩
    · rw [if_neg y, show i.toNat + 1 = (i + 1).toNat by omega]; exact hi (i + 1) (by omega) (by omega)
theorem His.act {n sz : Int} {S : Nat → Int → Int} {z : Int → Int} (h : His n sz S) (hI : Inv z) (hB : Bd n z) (r : Int) : His n (hSz r sz) (hSt r sz S z) := by
  by_cases e : 0 ≤ r
  · rw [show hSz r sz = hUp sz from if_pos e, show hSt r sz S z = hPush sz S z from if_pos e]
    exact h.push hI hB
  · rw [show hSz r sz = sz from if_neg e, show hSt r sz S z = S from if_neg e]
    exact h
theorem His.down {n sz : Int} {S : Nat → Int → Int} (h : His n sz S) : His n (hDn sz) S := by
  obtain ⟨hs, hi⟩ := h
  have d : hDn sz ≤ sz ∧ 0 ≤ hDn sz := by unfold hDn; split <;> omega
  exact ⟨by omega, fun i a b => hi i a (by omega)⟩
/-- what was recorded last comes back -/
theorem top_push (sz : Int) (S : Nat → Int → Int) (z y : Int → Int) (h : 0 ≤ sz ∧ sz ≤ 4) : hTop (hUp sz) (hPush sz S z) y = z := by
  by_cases e : sz < 4
  · rw [show hUp sz = sz + 1 from if_pos e]
    unfold hTop hPush
    rw [if_neg (by omega), if_pos e, if_pos (by omega)]
  · rw [show hUp sz = 4 from if_neg e]
    unfold hTop hPush
    rw [if_neg (by omega), if_neg e]
    rfl
theorem up_is {sz : Int} (h : 0 ≤ sz ∧ sz ≤ 4) : hUp sz = (if sz < 4 then sz + 1 else 4) ∧ 1 ≤ hUp sz ∧ hUp sz ≤ 4 := by
  unfold hUp
  refine ⟨rfl, ?_⟩
  split <;> omega
