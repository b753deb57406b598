/-! ===== class and reference side by side ===== -/
/-- the history of the class, the past of the reference -/
def Rel (S : Nat → Int → Int) (sz : Int) (pa : Int → Int) (st : Int) : Prop := st = sz ∧ (0 ≤ sz ∧ sz ≤ 4) ∧ (∀ i : Int, 0 ≤ i → i < sz → Inv (S i.toNat)) ∧ ∀ i j : Int, 0 ≤ i → i < sz → 0 ≤ j → j < 220 → pa (220 * i + j) = S i.toNat j
theorem Rel.zero (S : Nat → Int → Int) (pa : Int → Int) : Rel S 0 pa 0 := ⟨rfl, by omega, fun i a b => by omega, fun i j a b => by omega⟩
theorem Rel.push {S : Nat → Int → Int} {sz st : Int} {pa z : Int → Int} (h : Rel S sz pa st) (hI : Inv z) : Rel (hPush sz S z) (hUp sz) (paP st pa z) (hUp st) := by
  obtain ⟨rfl, hs, hi, hp⟩ := h
  have hu : (st < 4 → hUp st = st + 1) ∧ (¬ st < 4 → hUp st = 4) := ⟨fun e => if_pos e, fun e => if_neg e⟩
  have ps : (st < 4 → ∀ j : Nat, hPush st S z j = if (j : Int) = st then z else S j) ∧ (¬ st < 4 → ∀ j : Nat, hPush st S z j = if j = 3 then z else S (j + 1)) :=
    ⟨fun e j => by unfold hPush; rw [if_pos e], fun e j => by unfold hPush; rw [if_neg e]⟩
  refine ⟨rfl, by unfold hUp; split <;> omega, fun i a b => ?_, fun i j a b c d => ?_⟩
  · by_cases e : st < 4
    · rw [hu.1 e] at b
      rw [ps.1 e, Int.toNat_of_nonneg a]
      by_cases y : i = st
      · rw [if_pos y]; exact hI
      · rw [if_neg y]; exact hi i a (by omega)
    · rw [hu.2 e] at b
      rw [ps.2 e]
      by_cases y : i.toNat = 3
      · rw [if_pos y]; exact hI
      · rw [if_neg y, show i.toNat + 1 = (i + 1).toNat by omega]; exact hi (i + 1) (by omega) (by omega)
  · by_cases e : st < 4
    · rw [hu.1 e] at b
      rw [ps.1 e, Int.toNat_of_nonneg a]
      unfold paP zCpy
      rw [if_neg (by omega)]
      by_cases y : i = st
      · rw [if_pos y]
        subst y
        show (if 220 * i ≤ 220 * i + j ∧ 220 * i + j < 220 * i + 220 then z (0 + (220 * i + j - 220 * i)) else pa (220 * i + j)) = z j
        rw [if_pos (by omega), show 0 + (220 * i + j - 220 * i) = j by omega]
      · rw [if_neg y]
        show (if 220 * st ≤ 220 * i + j ∧ 220 * i + j < 220 * st + 220 then _ else pa (220 * i + j)) = _
        rw [if_neg (by omega)]
        exact hp i j a (by omega) c d
    · rw [hu.2 e] at b
      rw [ps.2 e]
      unfold paP
      rw [if_pos (by omega)]
      show (if 220 * i + j < 660 then pa (220 * i + j + 220) else z (220 * i + j - 660)) = _
      by_cases y : i.toNat = 3
      · rw [if_pos y, if_neg (by omega), show 220 * i + j - 660 = j by omega]
      · rw [if_neg y, if_pos (by omega), show i.toNat + 1 = (i + 1).toNat by omega, show 220 * i + j + 220 = 220 * (i + 1) + j by omega]
        exact hp (i + 1) j (by omega) (by omega) c d
theorem Rel.act {S : Nat → Int → Int} {sz st : Int} {pa z : Int → Int} (h : Rel S sz pa st) (hI : Inv z) (a : Int) : Rel (hSt a sz S z) (hSz a sz) (mPa a st pa z) (hSz a st) := by
  by_cases e : 0 ≤ a
  · rw [show hSt a sz S z = hPush sz S z from if_pos e, show hSz a sz = hUp sz from if_pos e, show mPa a st pa z = paP st pa z from if_pos e, show hSz a st = hUp st from if_pos e]
    exact h.push hI
  · rw [show hSt a sz S z = S from if_neg e, show hSz a sz = sz from if_neg e, show mPa a st pa z = pa from if_neg e, show hSz a st = st from if_neg e]
    exact h
theorem Rel.down {S : Nat → Int → Int} {sz st : Int} {pa : Int → Int} (h : Rel S sz pa st) : Rel S (hDn sz) pa (hDn st) := by
  obtain ⟨rfl, hs, hi, hp⟩ := h
  have d : hDn st ≤ st ∧ 0 ≤ hDn st := by unfold hDn; split <;> omega
  exact ⟨rfl, by omega, fun i a b => hi i a (by omega), fun i j a b => hp i j a (by omega)⟩
theorem Rel.top {S : Nat → Int → Int} {sz st : Int} {pa z : Int → Int} (h : Rel S sz pa st) : ∀ j : Int, 0 ≤ j → j < 220 → (if st = 0 then z else zCpy pa z (220 * (st - 1)) 0) j = hTop sz S z j := by
  obtain ⟨rfl, hs, hi, hp⟩ := h
  intro j a b
  unfold hTop
  by_cases e : st = 0
  · rw [if_pos e, if_pos e]
  · rw [if_neg e, if_neg e]
    unfold zCpy
    show (if 0 ≤ j ∧ j < 0 + 220 then pa (220 * (st - 1) + (j - 0)) else z j) = _
    rw [if_pos (by omega), Int.sub_zero]
    exact hp (st - 1) j (by omega) (by omega) a b
theorem Rel.topI {S : Nat → Int → Int} {sz st : Int} {pa z : Int → Int} (h : Rel S sz pa st) (hI : Inv z) : Inv (hTop sz S z) := by
  unfold hTop
  split
  · exact hI
  · exact h.2.2.1 (sz - 1) (by have := h.2.1; omega) (by omega)
theorem mV_ke {Y : Nat → ClassId} {h : Nat} {q : Nat → Nat} {z sp pa : Int → Int} {st : Int} {ke ke' : Int → Int} {ik : Int} {tx : Int → Int} {ln sn se : Int} {dn up fa lo to : Int → Int} {tm so : Int} (h1 : ∀ j : Int, 0 ≤ j → j < 220 → ke j = ke' j) : jLe (mV Y h q z sp pa st ke ik tx ln sn se dn up fa lo to tm so) (mV Y h q z sp pa st ke' ik tx ln sn se dn up fa lo to tm so) :=
  (wLe.cons (cLe.rf _) (wLe.cons (cLe.rf _) (wLe.cons (cLe.rf _) (wLe.cons (cLe.rf _) (wLe.cons (cLe.ar _ _ _ (fun j a b => h1 j a (by omega))) (wLe.rf _)))))).le
theorem z0_inv : Inv z0 := by
  refine ⟨by unfold z0; decide, by unfold z0; decide, by unfold z0; decide, by unfold z0; decide, fun r a b => ?_, fun k a b => ?_, fun k a b => ?_, fun p a b => ?_, by unfold z0; decide, fun p a b => ?_, fun p a b => ?_, ?_⟩
  · left; unfold z0; rw [if_neg (by omega), if_neg (by omega), if_pos (by omega)]
  · rcases (show k = 0 ∨ k = 1 ∨ k = 2 by omega) with e | e | e <;> subst e <;> decide
  · rcases (show k = 0 ∨ k = 1 ∨ k = 2 by omega) with e | e | e <;> subst e <;> decide
  · have : z0 (28 + p) = 0 := by unfold z0; rw [if_neg (by omega), if_neg (by omega), if_neg (by omega), if_neg (by omega), if_neg (by omega)]
    omega
  · have e1 : z0 (92 + p) = 0 := by unfold z0; rw [if_neg (by omega), if_neg (by omega), if_neg (by omega), if_neg (by omega), if_neg (by omega)]
    rw [e1]; rfl
  · left; unfold z0; rw [if_neg (by omega), if_neg (by omega), if_neg (by omega), if_neg (by omega), if_neg (by omega)]
  · have h1 : ∀ (n : Nat) (c : Int), (n : Int) ≤ 7 → 1 ≤ pB (tZ z0) n c := by
      intro n
      have t0 : ∀ r : Int, 0 ≤ r → r < 8 → tZ z0 r = -5 := fun r a b => by
        show z0 (7 + r) = -5
        unfold z0
        rw [if_neg (by omega), if_neg (by omega), if_pos (by omega)]
      induction n with
      | zero =>
        intro c _
        show 1 ≤ (if tZ z0 7 = -5 ∨ tZ z0 7 = c then (1 : Int) else 0)
        rw [if_pos (Or.inl (t0 7 (by omega) (by omega)))]
        omega
      | succ n ih =>
        intro c hn
        have i0 := ih c (by omega)
        have b1 := (pB_b (tZ z0) n (c - 1)).1
        have b2 := (pB_b (tZ z0) n (c + 1)).1
        show 1 ≤ (if tZ z0 (6 - (n : Int)) = -5 ∨ tZ z0 (6 - (n : Int)) = c then pB (tZ z0) n c + (if 0 < c then pB (tZ z0) n (c - 1) else 0) + (if c < 7 then pB (tZ z0) n (c + 1) else 0) else 0)
        rw [if_pos (Or.inl (t0 (6 - (n : Int)) (by omega) (by omega)))]
        (repeat' split) <;> omega
    have nn : ∀ p : Int, 0 ≤ p → p < 8 → 1 ≤ pBe (tZ z0) p := fun p a b => h1 _ _ (by omega)
    show 1 ≤ sumI 8 (pBe (tZ z0))
    rw [sum8]
    have a0 := nn 0 (by omega) (by omega)
    have a1 := nn 1 (by omega) (by omega)
    have a2 := nn 2 (by omega) (by omega)
    have a3 := nn 3 (by omega) (by omega)
    have a4 := nn 4 (by omega) (by omega)
    have a5 := nn 5 (by omega) (by omega)
    have a6 := nn 6 (by omega) (by omega)
    have a7 := nn 7 (by omega) (by omega)
    omega
/-! ===== the law: its rows, its laws ===== -/
theorem Rel.rest {S : Nat → Int → Int} {sz st ik : Int} {pa z zs : Int → Int} (h : Rel S sz pa st) (hI : Inv z) (hz : ¬ ik = 0 → Inv zs) : Rel (hSt (if ik = 0 then -5 else zs 3) sz S z) (hSz (if ik = 0 then -5 else zs 3) sz) (if ik = 0 then pa else paP st pa z) (if ik = 0 then st else hUp st) := by
  by_cases e : ik = 0
  · rw [if_pos e, if_pos e, if_pos e]
    rw [show hSt (-5) sz S z = S from if_neg (by omega), show hSz (-5) sz = sz from if_neg (by omega)]
    exact h
  · have k := (hz e).da
    rw [if_neg e, if_neg e, if_neg e]
    rw [show hSt (zs 3) sz S z = hPush sz S z from if_pos k.1, show hSz (zs 3) sz = hUp sz from if_pos k.1]
    exact h.push hI
theorem and31 (x : Int32) : 0 ≤ (x &&& jI 31).toInt ∧ (x &&& jI 31).toInt ≤ 31 := by
  have h : (x.toBitVec &&& (jI 31).toBitVec).toNat ≤ 31 := by
    rw [BitVec.toNat_and]
    exact Nat.and_le_right
  have e := BitVec.toInt_eq_toNat_of_lt (x := x.toBitVec &&& (jI 31).toBitVec) (by omega)
  show 0 ≤ (x.toBitVec &&& (jI 31).toBitVec).toInt ∧ (x.toBitVec &&& (jI 31).toBitVec).toInt ≤ 31
  omega
theorem chr (x : Int32) : ∃ c : Int, (0 ≤ c ∧ c < 65536) ∧ (x.toUInt32 % 65536).toInt32 = jI c := by
  have hb : (x.toUInt32 % 65536).toNat < 65536 := by
    have : (x.toUInt32 % 65536).toNat = x.toUInt32.toNat % 65536 := rfl
    omega
  generalize x.toUInt32 % 65536 = u at hb
  refine ⟨(u.toNat : Int), by omega, ?_⟩
  cases u with
  | ofBitVec b =>
    show Int32.ofUInt32 (UInt32.ofBitVec b) = Int32.ofUInt32 (UInt32.ofBitVec (BitVec.ofInt 32 (b.toNat : Int)))
    have e : b = BitVec.ofInt 32 (b.toNat : Int) := by
      apply BitVec.eq_of_toNat_eq
      simp
    rw [← e]
/-- the script: an array of the law's caller -/
def jX (x : Cx) (b L : Nat) (xs : Nat → Int32) : Prop :=
  match x with
  | (_, _, _, _, s, _, _, _, _, _, _, _, A, _) => va_X b L xs s s.heap ∧ b < s.heap.size ∧ ¬ A b
section JR12
variable {x : Cx} {l0 : Launch} {D0 : va_G} {Y : Nat → ClassId} {cc : ByteArray} {own : String} {Ts : List Cond} {nL0 : Nat} {R0 : Room} {ret : Option FieldType} {nm : String} {k n : Nat} {ws : va_W} {pc : Nat} {lv : List (Nat × Value)} {st : List Value} {b L : Nat} {xs : Nat → Int32}
theorem j_sld (G : jG x l0 D0 Y cc own Ts nL0 R0 ret nm) (X : jX x b L xs) (hdg : decode cc pc = .ok (.iaload, 1)) {i : Int} (hL : L ≤ 1536) (hi : 0 ≤ i ∧ i < L) (kk : J x k n ws (pc + 1) lv (.int (jI (xs i.toNat).toInt) :: st)) : J x k n ws pc lv (.int (jI i) :: .ref b :: st) := by
  obtain ⟨p, l, e, R, s, m, args, below, meth, c, Q, D, A, nL⟩ := x
  obtain ⟨rfl, rfl, rfl, rfl, hx, hb, hml, hown, hts, hK, hN, hT', hA, hlk, hr, hnm⟩ := G
  obtain ⟨x1, x2, x3⟩ := X
  intro H locs ls hP hD hS hl
  refine va_sld hx hb x1 x2 x3 hS (jI_in hi (by omega)) hdg ?_
  have kk' := kk H locs ls hP hD hS hl
  rw [← jI_of (xs i.toNat)] at kk'
  rw [jI_cl (by omega)]
  exact kk'
theorem j_slen (G : jG x l0 D0 Y cc own Ts nL0 R0 ret nm) (X : jX x b L xs) (hdg : decode cc pc = .ok (.arraylength, 1)) (kk : J x k n ws (pc + 1) lv (.int (jI (L : Int)) :: st)) : J x k n ws pc lv (.ref b :: st) := by
  obtain ⟨p, l, e, R, s, m, args, below, meth, c, Q, D, A, nL⟩ := x
  obtain ⟨rfl, rfl, rfl, rfl, hx, hb, hml, hown, hts, hK, hN, hT', hA, hlk, hr, hnm⟩ := G
  obtain ⟨x1, x2, x3⟩ := X
  intro H locs ls hP hD hS hl
  exact va_slen hx hb x1 x2 x3 hS hdg (kk H locs ls hP hD hS hl)
theorem j_and31 (G : jG x l0 D0 Y cc own Ts nL0 R0 ret nm) {a : Int} (hdg : decode cc pc = .ok (.iand, 1)) (kk : ∀ v : Int, 0 ≤ v ∧ v ≤ 31 → J x k n ws (pc + 1) lv (.int (jI v) :: st)) : J x k n ws pc lv (.int (jI 31) :: .int (jI a) :: st) := by
  obtain ⟨p, l, e, R, s, m, args, below, meth, c, Q, D, A, nL⟩ := x
  obtain ⟨rfl, rfl, rfl, rfl, hx, hb, hml, hown, hts, hK, hN, hT', hA, hlk, hr, hnm⟩ := G
  intro H locs ls hP hD hS hl
  refine lv_iand hx hb hdg ?_
  rw [jI_of (jI a &&& jI 31)]
  exact kk _ (and31 (jI a)) H locs ls hP hD hS hl
theorem j_i2c (G : jG x l0 D0 Y cc own Ts nL0 R0 ret nm) {a c0 : Int} (hdg : decode cc pc = .ok (.i2c, 1)) (hc : ((jI a).toUInt32 % 65536).toInt32 = jI c0) (kk : J x k n ws (pc + 1) lv (.int (jI c0) :: st)) : J x k n ws pc lv (.int (jI a) :: st) := by
  obtain ⟨p, l, e, R, s, m, args, below, meth, c, Q, D, A, nL⟩ := x
  obtain ⟨rfl, rfl, rfl, rfl, hx, hb, hml, hown, hts, hK, hN, hT', hA, hlk, hr, hnm⟩ := G
  intro H locs ls hP hD hS hl
  exact lv_i2c hx hb hdg hc (kk H locs ls hP hD hS hl)
end JR12
section JR12b
variable {x : Cx} {l0 : Launch} {D0 : va_G} {Y : Nat → ClassId} {cc : ByteArray} {own : String} {Ts : List Cond} {nL0 : Nat} {R0 : Room} {ret : Option FieldType} {nm : String} {k n : Nat} {ws : va_W} {pc : Nat} {lv : List (Nat × Value)} {st : List Value}
theorem j_icmp_same (G : jG x l0 D0 Y cc own Ts nL0 R0 ret nm) {v : Int32} {off : Int} {tgt : Nat} (hdg : decode cc pc = .ok (.if_icmp .eq off, 3)) (ht : (pc : Int) + off = (tgt : Int)) (kt : J x k n ws tgt lv st) : J x k n ws pc lv (.int v :: .int v :: st) := by
  obtain ⟨p, l, e, R, s, m, args, below, meth, c, Q, D, A, nL⟩ := x
  obtain ⟨rfl, rfl, rfl, rfl, hx, hb, hml, hown, hts, hK, hN, hT', hA, hlk, hr, hnm⟩ := G
  intro H locs ls hP hD hS hl
  exact lv_icmp_eq hx hb hdg ht (fun _ => kt H locs ls hP hD hS hl) (fun q => absurd rfl q)
end JR12b
theorem mV_kw {Y : Nat → ClassId} {h : Nat} {q : Nat → Nat} {z sp pa : Int → Int} {st : Int} {ke ke' : Int → Int} {ik : Int} {tx : Int → Int} {ln sn se : Int} {dn up fa lo to : Int → Int} {tm so : Int} (h1 : ∀ j : Int, 0 ≤ j → j < 220 → ke j = ke' j) : wLe (mV Y h q z sp pa st ke ik tx ln sn se dn up fa lo to tm so) (mV Y h q z sp pa st ke' ik tx ln sn se dn up fa lo to tm so) :=
  wLe.cons (cLe.rf _) (wLe.cons (cLe.rf _) (wLe.cons (cLe.rf _) (wLe.cons (cLe.rf _) (wLe.cons (cLe.ar _ _ _ (fun j a b => h1 j a (by omega))) (wLe.rf _)))))
theorem mV_zs {Y : Nat → ClassId} {h : Nat} {q : Nat → Nat} {z z' sp pa : Int → Int} {st st' : Int} {ke : Int → Int} {ik : Int} {tx : Int → Int} {ln sn se : Int} {dn up fa lo to : Int → Int} {tm so : Int} (e : st = st') (h1 : ∀ j : Int, 0 ≤ j → j < 220 → z j = z' j) : wLe (mV Y h q z sp pa st ke ik tx ln sn se dn up fa lo to tm so) (mV Y h q z' sp pa st' ke ik tx ln sn se dn up fa lo to tm so) := by
  subst e
  exact mV_z (fun j a b => h1 j a (by omega))
theorem E_perf_b {tx : Int → Int} {ln se : Int} {z : Int → Int} (hI : Inv z) (h : -2147483648 ≤ se ∧ se < 2147483648) : -2147483648 ≤ E_perf tx ln z se ∧ E_perf tx ln z se < 2147483648 := by
  unfold E_perf
  by_cases e : F_text tx ln < 0 ∨ pN tx ln z = -1
  · rw [if_pos e]; exact h
  · rw [if_neg e]
    have k : -5 ≤ vP tx ln z (pN tx ln z).toNat ∧ vP tx ln z (pN tx ln z).toNat ≤ 9999 := dF_b (zP_inv hI _) _ _ _
    omega
theorem tx_type {tx : Int → Int} {ln c : Int} (h : ∀ j : Int, 0 ≤ j → j < 60 → 0 ≤ tx j ∧ tx j < 65536) (hc : 0 ≤ c ∧ c < 65536) : ∀ j : Int, 0 ≤ j → j < 60 → 0 ≤ (if ln < 60 then upZ tx ln c else tx) j ∧ (if ln < 60 then upZ tx ln c else tx) j < 65536 := by
  intro j a b
  by_cases e : ln < 60
  · rw [if_pos e]
    by_cases y : j = ln
    · rw [upZ_eq _ _ _ y]; exact hc
    · rw [upZ_ne _ _ _ y]; exact h j a b
  · rw [if_neg e]; exact h j a b
theorem ln_type {ln : Int} (h : 0 ≤ ln ∧ ln ≤ 60) : 0 ≤ (if ln < 60 then ln + 1 else ln) ∧ (if ln < 60 then ln + 1 else ln) ≤ 60 := by
  split <;> omega
theorem rest_I {ik : Int} {z zs : Int → Int} (hI : Inv z) (hz : ¬ ik = 0 → Inv zs) : Inv (if ik = 0 then z else zs) := by
  by_cases e : ik = 0
  · rw [if_pos e]; exact hI
  · rw [if_neg e]; exact hz e
