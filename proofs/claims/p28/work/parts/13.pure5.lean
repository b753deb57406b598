/-! ===== the history, the object itself ===== -/
def r4 (a b c d : Nat) : Nat → Option Nat := fun j => if j = 0 then some a else if j = 1 then some b else if j = 2 then some c else some d
def gV (Y : Nat → ClassId) (h q : Nat) (sz : Int) (f : Nat → Option Nat) : va_W := [ob h 1 [.ref q, .int (jI sz)], aQ Y q 4 f]
def sV (Y : Nat → ClassId) (h hw hb hs hh hp hd : Nat) (ik sn se : Int) : va_W := [ob h 4 [.ref hw, .ref hb, .ref hs, .int (jI ik), .ref hh, .ref hp, .ref hd, .int (jI sn), .int (jI se)]]
def hPush (sz : Int) (S : Nat → Int → Int) (z : Int → Int) : Nat → Int → Int := if sz < 4 then (fun j => if (j : Int) = sz then z else S j) else (fun j => if j = 3 then z else S (j + 1))
def hUp (sz : Int) : Int := if sz < 4 then sz + 1 else 4
def hSz (a sz : Int) : Int := if 0 ≤ a then hUp sz else sz
def hSt (a sz : Int) (S : Nat → Int → Int) (z : Int → Int) : Nat → Int → Int := if 0 ≤ a then hPush sz S z else S
def hTop (sz : Int) (S : Nat → Int → Int) (z : Int → Int) : Int → Int := if sz = 0 then z else S (sz - 1).toNat
def hDn (sz : Int) : Int := if sz = 0 then 0 else sz - 1
theorem wLe.set {p q : Nat × va_E} (h : cLe p q) : ∀ (ws : va_W) (k : Nat), wLe (ws.set k p) (ws.set k q)
  | [], _ => wLe.nil
  | a :: ws, 0 => wLe.cons h (wLe.rf ws)
  | a :: ws, k + 1 => wLe.cons (cLe.rf a) (wLe.set h ws k)
section JR4
variable {x : Cx} {l0 : Launch} {D0 : va_G} {Y : Nat → ClassId} {cc : ByteArray} {own : String} {Ts : List Cond} {nL0 : Nat} {R0 : Room} {ret : Option FieldType} {nm : String} {k n : Nat} {ws ws' : va_W} {pc : Nat} {lv : List (Nat × Value)} {st : List Value}
theorem j_aast4 (G : jG x l0 D0 Y cc own Ts nL0 R0 ret nm) {a v : Nat} {vs : List Value} {f g : Nat → Option Nat} {i : Int} (q0 q1 : Nat) (hdg : decode cc pc = .ok (.aastore, 1)) (ha : ws[q0]? = some (a, .inl (Y 3, 4, .inr (.inr (.inr (.inr f)))))) (hv : ws[q1]? = some (v, .inr (3, vs))) (hi : 0 ≤ i ∧ i < 4) (hg : ∀ j : Nat, j < 4 → va_up f i.toNat (some v) j = g j) (hw : ws.set q0 (a, .inl (Y 3, 4, .inr (.inr (.inr (.inr g))))) = ws') (kk : J x k n ws' (pc + 1) lv st) : J x k n ws pc lv (.ref v :: .int (jI i) :: .ref a :: st) := by
  refine j_aast G q0 q1 hdg ha hv (by omega) rfl ?_
  subst hw
  exact j_conv (wLe.set (cLe.aq _ _ _ hg) ws q0).le kk
end JR4
theorem F_grow_b {z : Int → Int} (h : Inv z) (p w : Int) : -5 ≤ F_grow z p w ∧ F_grow z p w ≤ 99 := by
  unfold F_grow
  by_cases a : 0 ≤ p ∧ p ≤ 63
  · have := h.wo p (by omega) (by omega)
    (repeat' split) <;> omega
  · rw [if_neg a]; omega
theorem F_rain_b (z : Int → Int) (m : Int) : -5 ≤ F_rain z m ∧ F_rain z m ≤ 99 := by unfold F_rain; (repeat' split) <;> omega
theorem F_end_b {z : Int → Int} (h : Inv z) (n : Int) : -5 ≤ F_end z n ∧ F_end z n ≤ 9999 := by
  have := h.da
  unfold F_end
  (repeat' split) <;> omega
theorem F_set_b {z : Int → Int} (h : Inv z) (i v : Int) : -5 ≤ F_set z i v ∧ F_set z i v ≤ 99 := by
  have a0 := h.s0
  have a1 := h.s1
  have a2 := h.s2
  unfold F_set
  by_cases a : 0 ≤ i ∧ i ≤ 2
  · rcases (show i = 0 ∨ i = 1 ∨ i = 2 by omega) with e | e | e <;> subst e <;> (repeat' split) <;> omega
  · rw [if_neg a]; omega
theorem F_go_b {z : Int → Int} (h : Inv z) (k p : Int) : -5 ≤ F_go z k p ∧ F_go z k p ≤ 99 := by
  unfold F_go
  by_cases a : (0 ≤ k ∧ k ≤ 2) ∧ (0 ≤ p ∧ p ≤ 63)
  · have := h.st k (by omega) (by omega)
    have := zWay_b h (k := k) (p := p) (by omega) (by omega)
    (repeat' split) <;> omega
  · rw [if_neg a]; omega
theorem F_fell_b {z : Int → Int} (h : Inv z) (k : Int) : -5 ≤ F_fell z k ∧ F_fell z k ≤ 99 := by
  unfold F_fell
  by_cases a : 0 ≤ k ∧ k ≤ 2
  · have f := h.pl k (by omega) (by omega)
    have := h.wo (z (15 + 4 * k)) (by omega) (by omega)
    (repeat' split) <;> omega
  · rw [if_neg a]; omega
theorem F_hint_b (z : Int → Int) (r c : Int) : -5 ≤ F_hint z r c ∧ F_hint z r c ≤ 2187 := by
  unfold F_hint
  by_cases a : (0 ≤ r ∧ r ≤ 7) ∧ (0 ≤ c ∧ c ≤ 7)
  · have f : 0 ≤ pTh (tZ z) (r * 8 + c) ∧ pTh (tZ z) (r * 8 + c) ≤ 2187 := pTh_b (tZ z) (p := r * 8 + c) (by omega)
    (repeat' split) <;> omega
  · (repeat' split) <;> omega
theorem F_back_b (z : Int → Int) (r : Int) : -5 ≤ F_back z r ∧ F_back z r ≤ 17496 := by
  have := pAll_b (tZ (upZ z (7 + r) (-5)))
  unfold F_back
  (repeat' split) <;> omega
theorem zLost_b {z : Int → Int} (t : Int → Int) (h : Inv z) : 0 ≤ zLost z t ∧ zLost z t ≤ 6336 := by
  refine ⟨sumI_nn 64 (fun j h0 h1 => (zLW_b t h j h0 (by omega)).1), ?_⟩
  have := sumI_b (f := zLW z t) (b := 99) 64 (fun j h0 h1 => (zLW_b t h j h0 (by omega)).2)
  unfold zLost
  omega
theorem F_storm_b {z : Int → Int} (h : Inv z) : -5 ≤ F_storm z ∧ F_storm z ≤ 6336 := by
  have := zLost_b (tZ z) h
  unfold F_storm
  split <;> omega
/-! what is told of the state -/
def F_plot (z : Int → Int) (p w : Int) : Int := if 0 ≤ p ∧ p ≤ 63 then (if w = 0 then z (28 + p) else if w = 1 then z 92 else if w = 2 then zHi z (tZ z) p else if w = 3 then (if 0 < zHi z (tZ z) p then 1 else 0) else if w = 4 then (if zHi z (tZ z) p = pAll (tZ z) then 1 else 0) else if w = 5 then zLo z (tZ z) p else if w = 6 then z (156 + p) else -2) else -1
def F_crew (z : Int → Int) (k w : Int) : Int := if 0 ≤ k ∧ k ≤ 2 then (if w = 0 then z (15 + 4 * k) else if w = 1 then z (16 + 4 * k) else if w = 2 then z (17 + 4 * k) else if w = 3 then z (18 + 4 * k) else -2) else -1
def F_row (z : Int → Int) (r w : Int) : Int := if 0 ≤ r ∧ r ≤ 7 then (if w = 0 then z (7 + r) else if w = 1 then cLeast (fun c => pTh (tZ z) (r * 8 + c)) 8 else if w = 2 then cMost (fun c => pTh (tZ z) (r * 8 + c)) 8 else -2) else -1
def F_way (z : Int → Int) (k p : Int) : Int := if (0 ≤ k ∧ k ≤ 2) ∧ (0 ≤ p ∧ p ≤ 63) then zWay z k p else -1
def F_reason (z : Int → Int) (k p : Int) : Int := if (0 ≤ k ∧ k ≤ 2) ∧ (0 ≤ p ∧ p ≤ 63) then F_why z k p else -1
def F_best (z : Int → Int) (k : Int) : Int := if 0 ≤ k ∧ k ≤ 2 then zBest z (tZ z) k 64 else -1
def F_open (z : Int → Int) : Int := if pAll (tZ z) ≤ 1 then -5 else cRow (fun r => cOpen (fun c => pTh (tZ z) (r * 8 + c)) 8) 7
def F_told (z : Int → Int) (r c : Int) : Int := if 0 ≤ r ∧ r ≤ 7 then (if 0 ≤ c ∧ c ≤ 7 then pTh (tZ z) (r * 8 + c) else -2) else -1
def F_stop (sn se w : Int) : Int := if 0 ≤ w ∧ w ≤ 1 then (if se = 0 then -5 else if w = 0 then sn else se) else -2
def F_count (z : Int → Int) (sz ln w : Int) : Int :=
  if w = 0 then z 3 else if w = 1 then sumI 64 (fun p => z (28 + p)) else if w = 2 then sumI 64 (fun p => if 0 < zHi z (tZ z) p then 1 else 0) else if w = 3 then sumI 64 (fun p => if zHi z (tZ z) p = pAll (tZ z) then 1 else 0) else if w = 4 then sumI 64 (fun p => zLo z (tZ z) p) else if w = 5 then pAll (tZ z) else if w = 6 then sumI 8 (fun r => if ¬ z (7 + r) = -5 then 1 else 0) else if w = 7 then z 17 + z 21 + z 25 else if w = 8 then z 4 else if w = 9 then z 5 else if w = 10 then z 6 else if w = 11 then sumI 64 (fun p => if ¬ z (156 + p) = 0 then 1 else 0) else if w = 12 then z 0 else if w = 13 then z 1 else if w = 14 then z 2 else if w = 15 then sz else if w = 16 then ln else -2
