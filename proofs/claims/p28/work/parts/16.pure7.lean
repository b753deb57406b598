/-! ===== the reference's own words ===== -/
def zCpy (f g : Int → Int) (fa ta : Int) : Int → Int := fun j => if ta ≤ j ∧ j < ta + 220 then f (fa + (j - ta)) else g j
def paP (st : Int) (pa z : Int → Int) : Int → Int := if st = 4 then (fun j => if j < 660 then pa (j + 220) else z (j - 660)) else zCpy z pa 0 (220 * st)
def mPa (a st : Int) (pa z : Int → Int) : Int → Int := if 0 ≤ a then paP st pa z else pa
theorem mV_zp {Y : Nat → ClassId} {h : Nat} {q : Nat → Nat} {z z' sp pa pa' : Int → Int} {st : Int} {ke : Int → Int} {ik : Int} {tx : Int → Int} {ln sn se : Int} {dn up fa lo to : Int → Int} {tm so : Int} (h1 : ∀ j : Int, 0 ≤ j → j < (220 : Nat) → z j = z' j) (h2 : ∀ j : Int, 0 ≤ j → j < (880 : Nat) → pa j = pa' j) : wLe (mV Y h q z sp pa st ke ik tx ln sn se dn up fa lo to tm so) (mV Y h q z' sp pa' st ke ik tx ln sn se dn up fa lo to tm so) :=
  wLe.cons (cLe.rf _) (wLe.cons (cLe.ar _ _ _ h1) (wLe.cons (cLe.rf _) (wLe.cons (cLe.ar _ _ _ h2) (wLe.rf _))))
theorem mV_z {Y : Nat → ClassId} {h : Nat} {q : Nat → Nat} {z z' sp pa : Int → Int} {st : Int} {ke : Int → Int} {ik : Int} {tx : Int → Int} {ln sn se : Int} {dn up fa lo to : Int → Int} {tm so : Int} (h1 : ∀ j : Int, 0 ≤ j → j < (220 : Nat) → z j = z' j) : wLe (mV Y h q z sp pa st ke ik tx ln sn se dn up fa lo to tm so) (mV Y h q z' sp pa st ke ik tx ln sn se dn up fa lo to tm so) :=
  mV_zp h1 (fun _ _ _ => rfl)
theorem mV_du {Y : Nat → ClassId} {h : Nat} {q : Nat → Nat} {z sp pa : Int → Int} {st : Int} {ke : Int → Int} {ik : Int} {tx : Int → Int} {ln sn se : Int} {dn up dn' up' fa lo to : Int → Int} {tm so : Int} (h1 : ∀ j : Int, 0 ≤ j → j < (64 : Nat) → dn j = dn' j) (h2 : ∀ j : Int, 0 ≤ j → j < (64 : Nat) → up j = up' j) : wLe (mV Y h q z sp pa st ke ik tx ln sn se dn up fa lo to tm so) (mV Y h q z sp pa st ke ik tx ln sn se dn' up' fa lo to tm so) :=
  wLe.cons (cLe.rf _) (wLe.cons (cLe.rf _) (wLe.cons (cLe.rf _) (wLe.cons (cLe.rf _) (wLe.cons (cLe.rf _) (wLe.cons (cLe.rf _) (wLe.cons (cLe.ar _ _ _ h1) (wLe.cons (cLe.ar _ _ _ h2) (wLe.rf _))))))))
/-- what the crews have as a day begins -/
def GRf (z : Int → Int) : Int → Int := fun j => if j = 16 ∨ j = 20 ∨ j = 24 then z 0 else z j
/-! ways, measured -/
def zW2 (z : Int → Int) (f p : Int) : Int := (abI (f / 8 - p / 8) + abI (f % 8 - p % 8)) * (1 + z 92 / 3)
def Near (z : Int → Int) (f : Int) (fa : Int → Int) : Prop := (∀ j : Int, 0 ≤ j → j < 64 → zW2 z f j ≤ fa j ∧ fa j ≤ 100000) ∧ fa f = 0
theorem zW2_b {z : Int → Int} (h : 0 ≤ z 92 ∧ z 92 ≤ 9) {f p : Int} (hf : 0 ≤ f ∧ f < 64) (hp : 0 ≤ p ∧ p < 64) : 0 ≤ zW2 z f p ∧ zW2 z f p ≤ 56 := by
  have h1 := abI_b (f / 8 - p / 8)
  have h2 := abI_b (f % 8 - p % 8)
  unfold zW2
  rcases (show 1 + z 92 / 3 = 1 ∨ 1 + z 92 / 3 = 2 ∨ 1 + z 92 / 3 = 3 ∨ 1 + z 92 / 3 = 4 by omega) with e | e | e | e <;> rw [e] <;> omega
/-- the plots beside each other -/
def nb (p q : Int) : Prop := (0 < p % 8 ∧ q = p - 1) ∨ (p % 8 < 7 ∧ q = p + 1) ∨ (8 ≤ p ∧ q = p - 8) ∨ (p < 56 ∧ q = p + 8)
theorem zW2_nb {z : Int → Int} (h : 0 ≤ z 92 ∧ z 92 ≤ 9) {f p q : Int} (hf : 0 ≤ f ∧ f < 64) (hp : 0 ≤ p ∧ p < 64) (hn : nb p q) : zW2 z f p ≤ zW2 z f q + (1 + z 92 / 3) := by
  have h1 := abI_b (f / 8 - p / 8)
  have h2 := abI_b (f % 8 - p % 8)
  have h3 := abI_b (f / 8 - q / 8)
  have h4 := abI_b (f % 8 - q % 8)
  unfold zW2
  unfold nb at hn
  have key : abI (f / 8 - p / 8) + abI (f % 8 - p % 8) ≤ abI (f / 8 - q / 8) + abI (f % 8 - q % 8) + 1 := by
    rcases hn with ⟨a, b⟩ | ⟨a, b⟩ | ⟨a, b⟩ | ⟨a, b⟩
    · rw [show q / 8 = p / 8 by omega] at h3 ⊢
      rw [show q % 8 = p % 8 - 1 by omega] at h4 ⊢
      omega
    · rw [show q / 8 = p / 8 by omega] at h3 ⊢
      rw [show q % 8 = p % 8 + 1 by omega] at h4 ⊢
      omega
    · rw [show q / 8 = p / 8 - 1 by omega] at h3 ⊢
      rw [show q % 8 = p % 8 by omega] at h4 ⊢
      omega
    · rw [show q / 8 = p / 8 + 1 by omega] at h3 ⊢
      rw [show q % 8 = p % 8 by omega] at h4 ⊢
      omega
  generalize abI (f / 8 - p / 8) + abI (f % 8 - p % 8) = x at key ⊢
  generalize abI (f / 8 - q / 8) + abI (f % 8 - q % 8) = y at key ⊢
  rcases (show 1 + z 92 / 3 = 1 ∨ 1 + z 92 / 3 = 2 ∨ 1 + z 92 / 3 = 3 ∨ 1 + z 92 / 3 = 4 by omega) with e | e | e | e <;> rw [e] <;> omega
theorem nb_in {p q : Int} (hp : 0 ≤ p ∧ p < 64) (h : nb p q) : 0 ≤ q ∧ q < 64 := by
  unfold nb at h
  omega
theorem sumI_upZ (f : Int → Int) (p v : Int) (hp : 0 ≤ p) : ∀ n : Nat, sumI n (upZ f p v) = sumI n f + (if p < n then v - f p else 0)
  | 0 => by rw [if_neg (by omega)]; rfl
  | n + 1 => by
    have ih := sumI_upZ f p v hp n
    show sumI n (upZ f p v) + upZ f p v (n : Int) = sumI n f + f (n : Int) + _
    rw [ih]
    by_cases e : (n : Int) = p
    · rw [upZ_eq _ _ _ e, if_neg (by omega), if_pos (by omega), e]; omega
    · rw [upZ_ne _ _ _ e]
      by_cases a : p < (n : Int)
      · rw [if_pos a, if_pos (by omega)]; omega
      · rw [if_neg a, if_neg (by omega)]; omega
theorem Near.step {z fa : Int → Int} {f p q : Int} (h : 0 ≤ z 92 ∧ z 92 ≤ 9) (hf : 0 ≤ f ∧ f < 64) (hp : 0 ≤ p ∧ p < 64) (hn : nb p q) (hN : Near z f fa) (hc : fa q + (1 + z 92 / 3) < fa p) : Near z f (upZ fa p (fa q + (1 + z 92 / 3))) ∧ sumI 64 (upZ fa p (fa q + (1 + z 92 / 3))) < sumI 64 fa := by
  have hq := nb_in hp hn
  have a1 := hN.1 p hp.1 hp.2
  have a2 := hN.1 q hq.1 hq.2
  have a3 := zW2_nb h hf hp hn
  refine ⟨⟨fun j h0 h1 => ?_, ?_⟩, ?_⟩
  · by_cases e : j = p
    · rw [upZ_eq _ _ _ e, e]; omega
    · rw [upZ_ne _ _ _ e]; exact hN.1 j h0 h1
  · by_cases e : f = p
    · have := hN.2
      have b := zW2_b h hf hq
      rw [e] at this
      omega
    · rw [upZ_ne _ _ _ e]; exact hN.2
  · rw [sumI_upZ fa p _ hp.1 64, if_pos (by omega)]; omega
/-- nothing gets nearer any more: each is as near as it can be -/
theorem Near.done {z fa : Int → Int} {f : Int} (h : 0 ≤ z 92 ∧ z 92 ≤ 9) (hf : 0 ≤ f ∧ f < 64) (hN : Near z f fa) (hd : ∀ p q : Int, 0 ≤ p → p < 64 → nb p q → fa p ≤ fa q + (1 + z 92 / 3)) : ∀ j : Int, 0 ≤ j → j < 64 → fa j = zW2 z f j := by
  have key : ∀ (n : Nat) (j : Int), 0 ≤ j → j < 64 → abI (f / 8 - j / 8) + abI (f % 8 - j % 8) = n → fa j ≤ n * (1 + z 92 / 3) := by
    intro n
    induction n with
    | zero =>
      intro j h0 h1 hj
      have b1 := abI_b (f / 8 - j / 8)
      have b2 := abI_b (f % 8 - j % 8)
      have e : j = f := by omega
      rw [e, hN.2]; simp
    | succ n ih =>
      intro j h0 h1 hj
      have b1 := abI_b (f / 8 - j / 8)
      have b2 := abI_b (f % 8 - j % 8)
      have e : ((n + 1 : Nat) : Int) * (1 + z 92 / 3) = n * (1 + z 92 / 3) + (1 + z 92 / 3) := by
        rw [show ((n + 1 : Nat) : Int) = (n : Int) + 1 by omega, Int.add_mul, Int.one_mul]
      rw [e]
      have go : ∀ q : Int, nb j q → abI (f / 8 - q / 8) + abI (f % 8 - q % 8) = n → fa j ≤ n * (1 + z 92 / 3) + (1 + z 92 / 3) := fun q hq hm => by
        have hi := nb_in ⟨h0, h1⟩ hq
        have a1 := ih q hi.1 hi.2 hm
        have a2 := hd j q h0 h1 hq
        omega
      by_cases c1 : f / 8 < j / 8
      · refine go (j - 8) (Or.inr (Or.inr (Or.inl ⟨by omega, rfl⟩))) ?_
        have b3 := abI_b (f / 8 - (j - 8) / 8)
        rw [show (j - 8) % 8 = j % 8 by omega]
        omega
      · by_cases c2 : j / 8 < f / 8
        · refine go (j + 8) (Or.inr (Or.inr (Or.inr ⟨by omega, rfl⟩))) ?_
          have b3 := abI_b (f / 8 - (j + 8) / 8)
          rw [show (j + 8) % 8 = j % 8 by omega]
          omega
        · by_cases c3 : f % 8 < j % 8
          · refine go (j - 1) (Or.inl ⟨by omega, rfl⟩) ?_
            have b3 := abI_b (f % 8 - (j - 1) % 8)
            rw [show (j - 1) / 8 = j / 8 by omega]
            omega
          · refine go (j + 1) (Or.inr (Or.inl ⟨by omega, rfl⟩)) ?_
            have b3 := abI_b (f % 8 - (j + 1) % 8)
            rw [show (j + 1) / 8 = j / 8 by omega]
            omega
  intro j h0 h1
  have b1 := abI_b (f / 8 - j / 8)
  have b2 := abI_b (f % 8 - j % 8)
  have e : ((abI (f / 8 - j / 8) + abI (f % 8 - j % 8)).toNat : Int) = abI (f / 8 - j / 8) + abI (f % 8 - j % 8) := Int.toNat_of_nonneg (by omega)
  have k := key (abI (f / 8 - j / 8) + abI (f % 8 - j % 8)).toNat j h0 h1 e.symm
  rw [e] at k
  have k2 : fa j ≤ zW2 z f j := k
  have k3 := (hN.1 j h0 h1).1
  omega
/-- one plot's neighbours looked at, some of them: either nothing changed, or the sum fell -/
def Seen (z fa fa' : Int → Int) (s : Int) (p : Int) (L : List Int) : Prop := 0 ≤ s ∧ (s = 0 → (∀ j : Int, 0 ≤ j → j < 64 → fa' j = fa j) ∧ ∀ q ∈ L, nb p q → fa p ≤ fa q + (1 + z 92 / 3)) ∧ (0 < s → sumI 64 fa' < sumI 64 fa)
theorem Seen.start (z fa : Int → Int) (p : Int) : Seen z fa fa 0 p [] := ⟨Int.le_refl 0, fun _ => ⟨fun _ _ _ => rfl, fun q h => by cases h⟩, fun h => by omega⟩
theorem Seen.no {z fa fa' : Int → Int} {s p q : Int} {L : List Int} (h : Seen z fa fa' s p L) (hn : ¬ nb p q) : Seen z fa fa' (s + 0) p (q :: L) := by
  rw [Int.add_zero]
  exact ⟨h.1, fun e => ⟨(h.2.1 e).1, fun r hr hrn => by
    rcases List.mem_cons.mp hr with z | z
    · subst z; exact absurd hrn hn
    · exact (h.2.1 e).2 r z hrn⟩, h.2.2⟩
theorem Seen.keep {z fa fa' : Int → Int} {s p q : Int} {L : List Int} (h : Seen z fa fa' s p L) (hp : 0 ≤ p ∧ p < 64) (hn : nb p q) (hc : ¬ fa' q + (1 + z 92 / 3) < fa' p) : Seen z fa fa' (s + 0) p (q :: L) := by
  rw [Int.add_zero]
  have hq := nb_in hp hn
  exact ⟨h.1, fun e => ⟨(h.2.1 e).1, fun r hr hrn => by
    rcases List.mem_cons.mp hr with z | z
    · subst z
      have a1 := (h.2.1 e).1 p hp.1 hp.2
      have a2 := (h.2.1 e).1 r hq.1 hq.2
      omega
    · exact (h.2.1 e).2 r z hrn⟩, h.2.2⟩
theorem Seen.cut {z fa fa' fa2 : Int → Int} {s p q : Int} {L : List Int} (h : Seen z fa fa' s p L) (hl : sumI 64 fa2 < sumI 64 fa') : Seen z fa fa2 (s + 1) p (q :: L) := by
  refine ⟨by have := h.1; omega, fun e => by have := h.1; omega, fun _ => ?_⟩
  by_cases e : s = 0
  · have := sumI_congr 64 (fun j a b => (h.2.1 e).1 j a (by omega))
    omega
  · have := h.2.2 (by have := h.1; omega)
    omega
theorem sumI_100 {fa : Int → Int} (h : ∀ j : Int, 0 ≤ j → j < 64 → 0 ≤ fa j) : 0 ≤ sumI 64 fa := sumI_nn 64 (fun j a b => h j a (by omega))
/-! ===== the state stays in its bounds ===== -/
theorem pA_congr {t t' : Int → Int} : ∀ (k : Nat) (c : Int), (∀ r : Int, 0 ≤ r → r ≤ k → t r = t' r) → pA t k c = pA t' k c
  | 0, c, h => by
    show (if t 0 = -5 ∨ t 0 = c then (1 : Int) else 0) = (if t' 0 = -5 ∨ t' 0 = c then 1 else 0)
    rw [h 0 (by omega) (by omega)]
  | k + 1, c, h => by
    have ih := fun c => pA_congr (t := t) (t' := t') k c (fun r a b => h r a (by omega))
    show (if t ((k : Int) + 1) = -5 ∨ t ((k : Int) + 1) = c then pA t k c + (if 0 < c then pA t k (c - 1) else 0) + (if c < 7 then pA t k (c + 1) else 0) else 0) = (if t' ((k : Int) + 1) = -5 ∨ t' ((k : Int) + 1) = c then pA t' k c + (if 0 < c then pA t' k (c - 1) else 0) + (if c < 7 then pA t' k (c + 1) else 0) else 0)
    rw [h ((k : Int) + 1) (by omega) (by omega), ih c, ih (c - 1), ih (c + 1)]
theorem pB_congr {t t' : Int → Int} : ∀ (k : Nat) (c : Int), (∀ r : Int, 7 - (k : Int) ≤ r → r ≤ 7 → t r = t' r) → pB t k c = pB t' k c
  | 0, c, h => by
    show (if t 7 = -5 ∨ t 7 = c then (1 : Int) else 0) = (if t' 7 = -5 ∨ t' 7 = c then 1 else 0)
    rw [h 7 (by omega) (by omega)]
  | k + 1, c, h => by
    have ih := fun c => pB_congr (t := t) (t' := t') k c (fun r a b => h r (by omega) b)
    show (if t (6 - (k : Int)) = -5 ∨ t (6 - (k : Int)) = c then pB t k c + (if 0 < c then pB t k (c - 1) else 0) + (if c < 7 then pB t k (c + 1) else 0) else 0) = (if t' (6 - (k : Int)) = -5 ∨ t' (6 - (k : Int)) = c then pB t' k c + (if 0 < c then pB t' k (c - 1) else 0) + (if c < 7 then pB t' k (c + 1) else 0) else 0)
    rw [h (6 - (k : Int)) (by omega) (by omega), ih c, ih (c - 1), ih (c + 1)]
theorem pBe_congr {t t' : Int → Int} (h : ∀ r : Int, 0 ≤ r → r < 8 → t r = t' r) {p : Int} (hp : 0 ≤ p ∧ p < 64) : pBe t p = pBe t' p :=
  pB_congr _ _ (fun r a b => h r (by omega) (by omega))
theorem pAb_congr {t t' : Int → Int} (h : ∀ r : Int, 0 ≤ r → r < 8 → t r = t' r) {p : Int} (hp : 0 ≤ p ∧ p < 64) : pAb t p = pAb t' p :=
  pA_congr _ _ (fun r a b => h r a (by omega))
theorem pAll_congr {t t' : Int → Int} (h : ∀ r : Int, 0 ≤ r → r < 8 → t r = t' r) : pAll t = pAll t' :=
  sumI_congr 8 (fun j a b => pBe_congr h ⟨a, by omega⟩)
theorem pB_mono {t t' : Int → Int} : ∀ (k : Nat) (c : Int), (∀ r : Int, 7 - (k : Int) ≤ r → r ≤ 7 → t' r = -5 ∨ t' r = t r) → pB t k c ≤ pB t' k c
  | 0, c, h => by
    have := h 7 (by omega) (by omega)
    show (if t 7 = -5 ∨ t 7 = c then (1 : Int) else 0) ≤ (if t' 7 = -5 ∨ t' 7 = c then 1 else 0)
    split <;> split <;> omega
  | k + 1, c, h => by
    have ih := fun c => pB_mono (t := t) (t' := t') k c (fun r a b => h r (by omega) b)
    have i0 := ih c
    have i1 := ih (c - 1)
    have i2 := ih (c + 1)
    have b0 := (pB_b t' k c).1
    have b1 := (pB_b t' k (c - 1)).1
    have b2 := (pB_b t' k (c + 1)).1
    have hh := h (6 - (k : Int)) (by omega) (by omega)
    show (if t (6 - (k : Int)) = -5 ∨ t (6 - (k : Int)) = c then pB t k c + (if 0 < c then pB t k (c - 1) else 0) + (if c < 7 then pB t k (c + 1) else 0) else 0) ≤ (if t' (6 - (k : Int)) = -5 ∨ t' (6 - (k : Int)) = c then pB t' k c + (if 0 < c then pB t' k (c - 1) else 0) + (if c < 7 then pB t' k (c + 1) else 0) else 0)
    by_cases e : t (6 - (k : Int)) = -5 ∨ t (6 - (k : Int)) = c
    · rw [if_pos e, if_pos (show t' (6 - (k : Int)) = -5 ∨ t' (6 - (k : Int)) = c by omega)]
      (repeat' split) <;> omega
    · rw [if_neg e]
      (repeat' split) <;> omega
theorem pAll_mono {t t' : Int → Int} (h : ∀ r : Int, 0 ≤ r → r < 8 → t' r = -5 ∨ t' r = t r) : pAll t ≤ pAll t' :=
  sumI_le 8 (fun j a b => pB_mono _ _ (fun r c d => h r (by omega) (by omega)))
theorem pA_hint {t : Int → Int} {c : Int} : ∀ (r : Nat), t r = -5 → pA (upZ t r c) r c = pA t r c
  | 0, h => by
    have h' : t 0 = -5 := h
    show (if upZ t 0 c 0 = -5 ∨ upZ t 0 c 0 = c then (1 : Int) else 0) = (if t 0 = -5 ∨ t 0 = c then 1 else 0)
    rw [if_pos (Or.inr (upZ_eq _ _ _ rfl)), if_pos (Or.inl h')]
  | k + 1, h => by
    have e : ((k + 1 : Nat) : Int) = (k : Int) + 1 := by omega
    rw [e] at h ⊢
    have ih := fun d => pA_congr (t := upZ t ((k : Int) + 1) c) (t' := t) k d (fun r a b => upZ_ne _ _ _ (by omega))
    show (if upZ t ((k : Int) + 1) c ((k : Int) + 1) = -5 ∨ upZ t ((k : Int) + 1) c ((k : Int) + 1) = c then pA (upZ t ((k : Int) + 1) c) k c + (if 0 < c then pA (upZ t ((k : Int) + 1) c) k (c - 1) else 0) + (if c < 7 then pA (upZ t ((k : Int) + 1) c) k (c + 1) else 0) else 0) = (if t ((k : Int) + 1) = -5 ∨ t ((k : Int) + 1) = c then pA t k c + (if 0 < c then pA t k (c - 1) else 0) + (if c < 7 then pA t k (c + 1) else 0) else 0)
    rw [if_pos (Or.inr (upZ_eq _ _ _ rfl)), if_pos (Or.inl h), ih c, ih (c - 1), ih (c + 1)]
theorem pB_hint {t : Int → Int} {c : Int} : ∀ (k : Nat), t (7 - (k : Int)) = -5 → pB (upZ t (7 - (k : Int)) c) k c = pB t k c
  | 0, h => by
    have h' : t 7 = -5 := h
    show (if upZ t 7 c 7 = -5 ∨ upZ t 7 c 7 = c then (1 : Int) else 0) = (if t 7 = -5 ∨ t 7 = c then 1 else 0)
    rw [if_pos (Or.inr (upZ_eq _ _ _ rfl)), if_pos (Or.inl h')]
  | k + 1, h => by
    have e : 7 - ((k + 1 : Nat) : Int) = 6 - (k : Int) := by omega
    rw [e] at h ⊢
    have ih := fun d => pB_congr (t := upZ t (6 - (k : Int)) c) (t' := t) k d (fun r a b => upZ_ne _ _ _ (by omega))
    show (if upZ t (6 - (k : Int)) c (6 - (k : Int)) = -5 ∨ upZ t (6 - (k : Int)) c (6 - (k : Int)) = c then pB (upZ t (6 - (k : Int)) c) k c + (if 0 < c then pB (upZ t (6 - (k : Int)) c) k (c - 1) else 0) + (if c < 7 then pB (upZ t (6 - (k : Int)) c) k (c + 1) else 0) else 0) = (if t (6 - (k : Int)) = -5 ∨ t (6 - (k : Int)) = c then pB t k c + (if 0 < c then pB t k (c - 1) else 0) + (if c < 7 then pB t k (c + 1) else 0) else 0)
    rw [if_pos (Or.inr (upZ_eq _ _ _ rfl)), if_pos (Or.inl h), ih c, ih (c - 1), ih (c + 1)]
/-- a row that is told: the paths that are left go through its column -/
theorem pTh_hint {t : Int → Int} {r c : Int} (hr : 0 ≤ r ∧ r < 8) (hc : 0 ≤ c ∧ c < 8) (h : t r = -5) : pTh (upZ t r c) (r * 8 + c) = pTh t (r * 8 + c) := by
  obtain ⟨n, hn⟩ : ∃ n : Nat, r = (n : Int) := ⟨r.toNat, by omega⟩
  obtain ⟨m, hm⟩ : ∃ m : Nat, r = 7 - (m : Int) := ⟨(7 - r).toNat, by omega⟩
  have a : pAb (upZ t r c) (r * 8 + c) = pAb t (r * 8 + c) := by
    unfold pAb
    rw [show (r * 8 + c) % 8 = c by omega, show ((r * 8 + c) / 8).toNat = n by omega, hn]
    exact pA_hint n (by rw [← hn]; exact h)
  have b : pBe (upZ t r c) (r * 8 + c) = pBe t (r * 8 + c) := by
    unfold pBe
    rw [show (r * 8 + c) % 8 = c by omega, show (7 - (r * 8 + c) / 8).toNat = m by omega, hm]
    exact pB_hint m (by rw [← hm]; exact h)
  unfold pTh
  rw [a, b]
theorem pAll_hint {t : Int → Int} {r c : Int} (hr : 0 ≤ r ∧ r < 8) (hc : 0 ≤ c ∧ c < 8) (h : t r = -5) : pTh t (r * 8 + c) ≤ pAll (upZ t r c) := by
  rw [← pTh_hint hr hc h, ← pFl_all (upZ t r c) hr]
  unfold pFl
  rw [sum8]
  have k : ∀ d : Int, 0 ≤ d → d < 8 → 0 ≤ pTh (upZ t r c) (r * 8 + d) := fun d a b => (pTh_b (upZ t r c) (p := r * 8 + d) (by omega)).1
  have k0 := k 0 (by omega) (by omega)
  have k1 := k 1 (by omega) (by omega)
  have k2 := k 2 (by omega) (by omega)
  have k3 := k 3 (by omega) (by omega)
  have k4 := k 4 (by omega) (by omega)
  have k5 := k 5 (by omega) (by omega)
  have k6 := k 6 (by omega) (by omega)
  have k7 := k 7 (by omega) (by omega)
  rcases (show c = 0 ∨ c = 1 ∨ c = 2 ∨ c = 3 ∨ c = 4 ∨ c = 5 ∨ c = 6 ∨ c = 7 by omega) with e | e | e | e | e | e | e | e <;> subst e <;> omega
theorem Inv.up {z : Int → Int} (h : Inv z) {i v : Int} (hn : ¬ (92 ≤ i ∧ i < 156)) (c0 : i = 0 → 1 ≤ v ∧ v ≤ 30) (c1 : i = 1 → 0 ≤ v ∧ v ≤ 2) (c2 : i = 2 → 1 ≤ v ∧ v ≤ 9) (c3 : i = 3 → 0 ≤ v ∧ v ≤ 9999)
    (c4 : 7 ≤ i ∧ i < 15 → v = -5 ∨ (0 ≤ v ∧ v ≤ 7)) (c5 : 15 ≤ i ∧ i < 27 ∧ i % 4 = 3 → 0 ≤ v ∧ v ≤ 63) (c6 : 15 ≤ i ∧ i < 27 ∧ i % 4 = 0 → 0 ≤ v ∧ v ≤ 30) (c7 : 28 ≤ i ∧ i < 92 → 0 ≤ v ∧ v ≤ 99) (c8 : 156 ≤ i ∧ i < 220 → v = 0 ∨ v = 1)
    (c9 : 7 ≤ i ∧ i < 15 → 1 ≤ pAll (tZ (upZ z i v))) : Inv (upZ z i v) := by
  refine ⟨?_, ?_, ?_, ?_, fun r a b => ?_, fun k a b => ?_, fun k a b => ?_, fun p a b => ?_, ?_, fun p a b => ?_, fun p a b => ?_, ?_⟩
  · have := h.s0; unfold upZ; split <;> omega
  · have := h.s1; unfold upZ; split <;> omega
  · have := h.s2; unfold upZ; split <;> omega
  · have := h.da; unfold upZ; split <;> omega
  · have := h.to r a b; unfold upZ; split <;> omega
  · have := h.pl k a b; unfold upZ; split <;> omega
  · have := h.st k a b; unfold upZ; split <;> omega
  · have := h.wo p a b; unfold upZ; split <;> omega
  · have := h.mu; rw [upZ_ne _ _ _ (by omega)]; omega
  · rw [upZ_ne _ _ _ (by omega), upZ_ne _ _ _ (by omega)]; exact h.mp p a b
  · have := h.fe p a b; unfold upZ; split <;> omega
  · by_cases e : 7 ≤ i ∧ i < 15
    · exact c9 e
    · rw [pAll_congr (t := tZ (upZ z i v)) (t' := tZ z) (fun r a b => upZ_ne _ _ _ (by omega))]
      exact h.pa
theorem Inv.grow {z : Int → Int} (h : Inv z) (p w : Int) : Inv (G_grow z p w) := by
  unfold G_grow
  split
  · exact h.up (by omega) (by omega) (by omega) (by omega) (by omega) (by omega) (by omega) (by omega) (by omega) (by omega) (fun e => by omega)
  · exact h
theorem Inv.set {z : Int → Int} (h : Inv z) (i v : Int) : Inv (G_set z i v) := by
  unfold G_set
  by_cases e : (0 ≤ i ∧ i ≤ 2) ∧ (sLo i ≤ v ∧ v ≤ sHi i)
  · rw [if_pos e]
    have e1 := e.2
    have e0 := e.1
    unfold sLo sHi at e1
    exact h.up (by omega) (fun q => by rw [if_pos q, if_pos q] at e1; omega) (fun q => by rw [if_neg (by omega), if_pos q, if_neg (by omega), if_pos q] at e1; omega) (fun q => by rw [if_neg (by omega), if_neg (by omega), if_neg (by omega), if_neg (by omega)] at e1; omega) (by omega) (by omega) (by omega) (by omega) (by omega) (by omega) (fun e => by omega)
  · rw [if_neg e]
    exact h
theorem Inv.go {z : Int → Int} (h : Inv z) (k p : Int) : Inv (G_go z k p) := by
  unfold G_go
  split
  · next e =>
    have b := zWay_b h (k := k) (p := p) (by omega) (by omega)
    have s := h.st k (by omega) (by omega)
    unfold GG
    refine Inv.up (Inv.up h (by omega) (by omega) (by omega) (by omega) (by omega) (by omega) (by omega) (by omega) (by omega) (by omega) (fun e => by omega)) (by omega) (by omega) (by omega) (by omega) (by omega) (by omega) (by omega) (by omega) (by omega) (by omega) (fun e => by omega)
  · exact h
theorem Inv.fell {z : Int → Int} (h : Inv z) (k : Int) : Inv (G_fell z k) := by
  unfold G_fell
  split
  · next e =>
    have s := h.st k (by omega) (by omega)
    have p := h.pl k (by omega) (by omega)
    have s2 := h.s2
    unfold GF
    have h1 : Inv (upZ z (28 + z (15 + 4 * k)) 0) := h.up (by omega) (by omega) (by omega) (by omega) (by omega) (by omega) (by omega) (by omega) (by omega) (by omega) (fun e => by omega)
    have h2 : Inv (upZ (upZ z (28 + z (15 + 4 * k)) 0) (156 + z (15 + 4 * k)) 1) := h1.up (by omega) (by omega) (by omega) (by omega) (by omega) (by omega) (by omega) (by omega) (by omega) (by omega) (fun e => by omega)
    have h3 := h2.up (i := 16 + 4 * k) (v := z (16 + 4 * k) - z 2) (by omega) (by omega) (by omega) (by omega) (by omega) (by omega) (by omega) (by omega) (by omega) (by omega) (fun e => by omega)
    have h4 := h3.up (i := 17 + 4 * k) (v := z (17 + 4 * k) + z (28 + z (15 + 4 * k))) (by omega) (by omega) (by omega) (by omega) (by omega) (by omega) (by omega) (by omega) (by omega) (by omega) (fun e => by omega)
    exact h4.up (by omega) (by omega) (by omega) (by omega) (by omega) (by omega) (by omega) (by omega) (by omega) (by omega) (fun e => by omega)
  · exact h
theorem Inv.hint {z : Int → Int} (h : Inv z) (r c : Int) : Inv (G_hint z r c) := by
  unfold G_hint
  split
  · next e =>
    refine h.up (by omega) (by omega) (by omega) (by omega) (by omega) (by omega) (by omega) (by omega) (by omega) (by omega) (fun _ => ?_)
    have b := (pTh_b (tZ z) (p := r * 8 + c) (by omega)).1
    have b' : 0 ≤ pTh (tZ z) (r * 8 + c) := b
    have k := pAll_hint (t := tZ z) (r := r) (c := c) (by omega) (by omega) e.2.1
    rw [show upZ (tZ z) r c = tZ (upZ z (7 + r) c) from tZ_up z r c] at k
    have e2 := e.2.2
    omega
  · exact h
theorem Inv.back {z : Int → Int} (h : Inv z) (r : Int) : Inv (G_back z r) := by
  unfold G_back
  split
  · next e =>
    refine h.up (by omega) (by omega) (by omega) (by omega) (by omega) (by omega) (by omega) (by omega) (by omega) (by omega) (fun _ => ?_)
    have k := pAll_mono (t := tZ z) (t' := tZ (upZ z (7 + r) (-5))) (fun q a b => by
      by_cases y : q = r
      · exact Or.inl (upZ_eq _ _ _ (by omega))
      · exact Or.inr (upZ_ne _ _ _ (by omega)))
    have := h.pa
    omega
  · exact h
theorem Inv.rain {z : Int → Int} (h : Inv z) (m : Int) : Inv (G_rain z m) := by
  unfold G_rain
  split
  · next e =>
    refine ⟨?_, ?_, ?_, ?_, fun r a b => ?_, fun k a b => ?_, fun k a b => ?_, fun p a b => ?_, ?_, fun p a b => ?_, fun p a b => ?_, ?_⟩
    · have := h.s0; unfold GR; split <;> omega
    · have := h.s1; unfold GR; split <;> omega
    · have := h.s2; unfold GR; split <;> omega
    · have := h.da; unfold GR; split <;> omega
    · have := h.to r a b; unfold GR; split <;> omega
    · have := h.pl k a b; unfold GR; split <;> omega
    · have := h.st k a b; unfold GR; split <;> omega
    · have := h.wo p a b; unfold GR; split <;> omega
    · have := h.mu; unfold GR; (repeat' split) <;> omega
    · have := h.mp p a b; unfold GR; (repeat' split) <;> omega
    · have := h.fe p a b; unfold GR; split <;> omega
    · rw [pAll_congr (t := tZ (GR z m)) (t' := tZ z) (fun r a b => by show (if _ then _ else z (7 + r)) = z (7 + r); exact if_neg (by omega))]
      exact h.pa
  · exact h
theorem Inv.pass {z : Int → Int} (h : Inv z) (n : Int) : Inv (G_end z n) := by
  unfold G_end
  split
  · next e =>
    refine ⟨?_, ?_, ?_, ?_, fun r a b => ?_, fun k a b => ?_, fun k a b => ?_, fun p a b => ?_, ?_, fun p a b => ?_, fun p a b => ?_, ?_⟩
    · have := h.s0; unfold GE; (repeat' split) <;> omega
    · have := h.s1; unfold GE; (repeat' split) <;> omega
    · have := h.s2; unfold GE; (repeat' split) <;> omega
    · have := h.da; unfold GE; (repeat' split) <;> omega
    · have := h.to r a b; unfold GE; (repeat' split) <;> omega
    · have := h.pl k a b; unfold GE; (repeat' split) <;> omega
    · have := h.st k a b; have := h.s0; unfold GE; (repeat' split) <;> omega
    · have := h.wo p a b; unfold GE; (repeat' split) <;> omega
    · have := h.mu; unfold GE; (repeat' split) <;> omega
    · have := h.mp p a b; unfold GE; (repeat' split) <;> omega
    · have := h.fe p a b; unfold GE; (repeat' split) <;> omega
    · rw [pAll_congr (t := tZ (GE z n)) (t' := tZ z) (fun r a b => by show (GE z n) (7 + r) = z (7 + r); unfold GE; (repeat' split) <;> omega)]
      exact h.pa
  · exact h
theorem Inv.storm {z : Int → Int} (h : Inv z) : Inv (G_storm z) := by
  unfold G_storm
  split
  · exact h
  · refine ⟨?_, ?_, ?_, ?_, fun r a b => ?_, fun k a b => ?_, fun k a b => ?_, fun p a b => ?_, ?_, fun p a b => ?_, fun p a b => ?_, ?_⟩
    · have := h.s0; unfold GS; (repeat' split) <;> omega
    · have := h.s1; unfold GS; (repeat' split) <;> omega
    · have := h.s2; unfold GS; (repeat' split) <;> omega
    · have := h.da; unfold GS; (repeat' split) <;> omega
    · have := h.to r a b; unfold GS; (repeat' split) <;> omega
    · have := h.pl k a b; unfold GS; (repeat' split) <;> omega
    · have := h.st k a b; unfold GS; (repeat' split) <;> omega
    · have := h.wo p a b; unfold GS; (repeat' split) <;> omega
    · have := h.mu; unfold GS; (repeat' split) <;> omega
    · have := h.mp p a b; unfold GS; (repeat' split) <;> omega
    · have := h.fe p a b; unfold GS; (repeat' split) <;> omega
    · have k := pAll_mono (t := tZ z) (t' := tZ (GS z (tZ z))) (fun q a b => Or.inl (by show GS z (tZ z) (7 + q) = -5; unfold GS; (repeat' split) <;> omega))
      have := h.pa
      omega
/-! ===== one thing of a text, the whole text ===== -/
def dF (z : Int → Int) (K a b : Int) : Int := if K = 116 then F_grow z a b else if K = 114 then F_rain z a else if K = 104 then F_hint z a b else if K = 103 then F_go z a b else if K = 102 then F_fell z a else F_end z a
def dG (z : Int → Int) (K a b : Int) : Int → Int := if K = 116 then G_grow z a b else if K = 114 then G_rain z a else if K = 104 then G_hint z a b else if K = 103 then G_go z a b else if K = 102 then G_fell z a else G_end z a
theorem dF_b {z : Int → Int} (h : Inv z) (K a b : Int) : -5 ≤ dF z K a b ∧ dF z K a b ≤ 9999 := by
  have h1 := F_grow_b h a b
  have h2 := F_rain_b z a
  have h3 := F_hint_b z a b
  have h4 := F_go_b h a b
  have h5 := F_fell_b h a
  have h6 := F_end_b h a
  unfold dF
  (repeat' split) <;> omega
theorem Inv.did {z : Int → Int} (h : Inv z) (K a b : Int) : Inv (dG z K a b) := by
  unfold dG
  split
  · exact h.grow _ _
  · split
    · exact h.rain _
    · split
      · exact h.hint _ _
      · split
        · exact h.go _ _
        · split
          · exact h.fell _
          · exact h.pass _
theorem dF_one {z : Int → Int} {K a b b' : Int} (hk : kOk K) (hb : ¬ sg K = 0 → b = b') : dF z K a b = dF z K a b' ∧ dG z K a b = dG z K a b' := by
  rcases hk with e | e | e | e | e | e
  · rw [hb (by subst e; decide)]; exact ⟨rfl, rfl⟩
  · subst e; exact ⟨rfl, rfl⟩
  · rw [hb (by subst e; decide)]; exact ⟨rfl, rfl⟩
  · rw [hb (by subst e; decide)]; exact ⟨rfl, rfl⟩
  · subst e; exact ⟨rfl, rfl⟩
  · subst e; exact ⟨rfl, rfl⟩
/-- the state before the thing n, what the thing n answers, the first fault of n things -/
def zP (tx : Int → Int) (ln : Int) (z : Int → Int) : Nat → Int → Int
  | 0 => z
  | n + 1 => dG (zP tx ln z n) (tK tx ln (aP tx ln n)) (tFi tx ln (aP tx ln n)) (tSe tx ln (aP tx ln n))
def vP (tx : Int → Int) (ln : Int) (z : Int → Int) (n : Nat) : Int := dF (zP tx ln z n) (tK tx ln (aP tx ln n)) (tFi tx ln (aP tx ln n)) (tSe tx ln (aP tx ln n))
abbrev isE (v : Int) : Prop := v < 0 ∧ ¬ v = -5
def pEr (tx : Int → Int) (ln : Int) (z : Int → Int) : Nat → Int
  | 0 => -1
  | n + 1 => if pEr tx ln z n = -1 then (if isE (vP tx ln z n) then (n : Int) else -1) else pEr tx ln z n
theorem zP_S {tx : Int → Int} {ln i : Int} {z : Int → Int} (h : 0 ≤ i) : zP tx ln z (i + 1).toNat = dG (zP tx ln z i.toNat) (tK tx ln (aP tx ln i.toNat)) (tFi tx ln (aP tx ln i.toNat)) (tSe tx ln (aP tx ln i.toNat)) := by
  rw [show (i + 1).toNat = i.toNat + 1 by omega]
  rfl
theorem zP_inv {tx : Int → Int} {ln : Int} {z : Int → Int} (h : Inv z) : ∀ n : Nat, Inv (zP tx ln z n)
  | 0 => h
  | n + 1 => (zP_inv h n).did _ _ _
theorem pEr_S {tx : Int → Int} {ln i : Int} {z : Int → Int} (h : 0 ≤ i) : pEr tx ln z (i + 1).toNat = if pEr tx ln z i.toNat = -1 then (if isE (vP tx ln z i.toNat) then i else -1) else pEr tx ln z i.toNat := by
  rw [show (i + 1).toNat = i.toNat + 1 by omega]
  show (if pEr tx ln z i.toNat = -1 then (if isE (vP tx ln z i.toNat) then ((i.toNat : Nat) : Int) else -1) else pEr tx ln z i.toNat) = _
  rw [Int.toNat_of_nonneg h]
theorem pEr_b (tx : Int → Int) (ln : Int) (z : Int → Int) : ∀ n : Nat, pEr tx ln z n = -1 ∨ (0 ≤ pEr tx ln z n ∧ pEr tx ln z n < n)
  | 0 => Or.inl rfl
  | n + 1 => by
    have ih := pEr_b tx ln z n
    show (if pEr tx ln z n = -1 then (if isE (vP tx ln z n) then (n : Int) else -1) else pEr tx ln z n) = -1 ∨ (0 ≤ (if pEr tx ln z n = -1 then (if isE (vP tx ln z n) then (n : Int) else -1) else pEr tx ln z n) ∧ (if pEr tx ln z n = -1 then (if isE (vP tx ln z n) then (n : Int) else -1) else pEr tx ln z n) < ((n + 1 : Nat) : Int))
    by_cases e : pEr tx ln z n = -1
    · rw [if_pos e]
      by_cases y : isE (vP tx ln z n)
      · rw [if_pos y]; omega
      · rw [if_neg y]; exact Or.inl rfl
    · rw [if_neg e]; omega
/-- a fault found stays the first one -/
theorem pEr_stay {tx : Int → Int} {ln i : Int} {z : Int → Int} (h0 : 0 ≤ i) (h1 : pEr tx ln z i.toNat = -1) (h2 : isE (vP tx ln z i.toNat)) : ∀ n : Nat, i < n → pEr tx ln z n = i
  | 0, h => by omega
  | n + 1, h => by
    show (if pEr tx ln z n = -1 then (if isE (vP tx ln z n) then (n : Int) else -1) else pEr tx ln z n) = i
    by_cases e : (n : Int) = i
    · subst e
      rw [Int.toNat_natCast] at h1 h2
      rw [if_pos h1, if_pos h2]
    · rw [pEr_stay h0 h1 h2 n (by omega), if_neg (by omega)]
def pN (tx : Int → Int) (ln : Int) (z : Int → Int) : Int := pEr tx ln z (F_text tx ln).toNat
def F_perf (tx : Int → Int) (ln : Int) (z : Int → Int) : Int := if F_text tx ln < 0 then F_text tx ln else if pN tx ln z = -1 then F_text tx ln else -4
def G_perf (tx : Int → Int) (ln : Int) (z : Int → Int) : Int → Int := if F_text tx ln < 0 then z else if pN tx ln z = -1 then zP tx ln z (F_text tx ln).toNat else z
def N_perf (tx : Int → Int) (ln : Int) (z : Int → Int) (sn : Int) : Int := if F_text tx ln < 0 ∨ pN tx ln z = -1 then sn else pN tx ln z
def E_perf (tx : Int → Int) (ln : Int) (z : Int → Int) (se : Int) : Int := if F_text tx ln < 0 ∨ pN tx ln z = -1 then se else vP tx ln z (pN tx ln z).toNat
theorem Inv.perf {z : Int → Int} (h : Inv z) (tx : Int → Int) (ln : Int) : Inv (G_perf tx ln z) := by
  unfold G_perf
  (repeat' split) <;> first | exact h | exact zP_inv h _
/-- where the next thing of a good text begins -/
theorem nx_0 {tx : Int → Int} {ln N : Int} (h : tGood tx ln N) (hN : 1 ≤ N) : (if (0 : Int) < ln ∧ tx 0 = 59 then 0 + 1 else 0) = aP tx ln (0 : Int).toNat := by
  have k := (h.1 0 (by omega) (by omega)).1.1
  have e : aP tx ln (0 : Int).toNat = 0 := rfl
  rw [e] at k ⊢
  rw [if_neg]
  intro y
  unfold tK at k
  rw [if_pos y.1, y.2] at k
  revert k
  decide
theorem nx_S {tx : Int → Int} {ln N i : Int} (h : tGood tx ln N) (h0 : 0 ≤ i) (h1 : i + 1 < N) : (if tEnd tx ln (aP tx ln i.toNat) < ln ∧ tx (tEnd tx ln (aP tx ln i.toNat)) = 59 then tEnd tx ln (aP tx ln i.toNat) + 1 else tEnd tx ln (aP tx ln i.toNat)) = aP tx ln (i + 1).toNat := by
  rw [if_pos (h.2 i h0 h1), aP_S h0]
theorem tFi_b {tx : Int → Int} {ln a : Int} : -1 ≤ tFi tx ln a ∧ tFi tx ln a ≤ 99 := by
  have h := nV_b (tx := tx) (ln := ln) (lo := lo1 (tK tx ln a)) (hi := hi1 (tK tx ln a)) (a := a + 1) (by unfold lo1; split <;> omega) (by unfold lo1; split <;> omega) (by unfold hi1; (repeat' split) <;> omega)
  have l : lo1 (tK tx ln a) ≤ 1 ∧ 0 ≤ lo1 (tK tx ln a) := by unfold lo1; split <;> omega
  have m : hi1 (tK tx ln a) ≤ 99 := by unfold hi1; (repeat' split) <;> omega
  unfold tFi
  omega
theorem tSe_b {tx : Int → Int} {ln a : Int} : -1 ≤ tSe tx ln a ∧ tSe tx ln a ≤ 99 := by
  have m : hi2 (tK tx ln a) ≤ 99 := by unfold hi2; (repeat' split) <;> omega
  have h := nV_b (tx := tx) (ln := ln) (lo := 0) (hi := hi2 (tK tx ln a)) (a := tP1 tx ln a + 1) (by omega) (by omega) m
  unfold tSe
  omega
