/-! ===== the reference: rows and small laws ===== -/
section JR8
variable {x : Cx} {l0 : Launch} {D0 : va_G} {Y : Nat → ClassId} {cc : ByteArray} {own : String} {Ts : List Cond} {nL0 : Nat} {R0 : Room} {ret : Option FieldType} {nm : String} {k n : Nat} {ws : va_W} {pc : Nat} {lv : List (Nat × Value)} {st : List Value}
theorem j_ldc (G : jG x l0 D0 Y cc own Ts nL0 R0 ret nm) {index : Nat} {v : Int} {v' : Int32} (hdg : decode cc pc = .ok (.ldc index, 2)) (hin : Cond.constant own index v' ∈ Ts) (hv : v' = jI v) (kk : J x k n ws (pc + 2) lv (.int (jI v) :: st)) : J x k n ws pc lv st := by
  obtain ⟨p, l, e, R, s, m, args, below, meth, c, Q, D, A, nL⟩ := x
  obtain ⟨rfl, rfl, rfl, rfl, hx, hb, hml, hown, hts, hK, hN, hT', hA, hlk, hr, hnm⟩ := G
  subst hv
  intro H locs ls hP hD hS hl
  exact lv_ldc hx hb hown (hts _ hin) hdg (kk H locs ls hP hD hS hl)
end JR8
theorem cpy_step {f g g2 : Int → Int} {fa ta i : Int} (hi : 0 ≤ i) (h : ∀ j : Int, g2 j = if ta ≤ j ∧ j < ta + i then f (fa + (j - ta)) else g j) : ∀ j : Int, upZ g2 (ta + i) (f (fa + i)) j = if ta ≤ j ∧ j < ta + (i + 1) then f (fa + (j - ta)) else g j := by
  intro j
  by_cases e : j = ta + i
  · rw [upZ_eq _ _ _ e, if_pos (by omega), show fa + (j - ta) = fa + i by omega]
  · rw [upZ_ne _ _ _ e, h j]
    by_cases c : ta ≤ j ∧ j < ta + i
    · rw [if_pos c, if_pos (by omega)]
    · rw [if_neg c, if_neg (by omega)]
theorem drop_step {pa p2 : Int → Int} {i : Int} (hi : 0 ≤ i) (h : ∀ j : Int, 0 ≤ j → p2 j = if j < i then pa (j + 220) else pa j) : ∀ j : Int, 0 ≤ j → upZ p2 i (p2 (i + 220)) j = if j < i + 1 then pa (j + 220) else pa j := by
  intro j hj
  by_cases e : j = i
  · rw [upZ_eq _ _ _ e, h (i + 220) (by omega), if_neg (by omega), if_pos (by omega), e]
  · rw [upZ_ne _ _ _ e, h j hj]
    by_cases c : j < i
    · rw [if_pos c, if_pos (by omega)]
    · rw [if_neg c, if_neg (by omega)]
theorem rec_full {z pa p2 : Int → Int} {st i : Int} (hst : st = 4) (hi : i = 660) (h : ∀ j : Int, 0 ≤ j → p2 j = if j < i then pa (j + 220) else pa j) : ∀ j : Int, 0 ≤ j → j < (880 : Nat) → zCpy z p2 0 (220 * (st - 1)) j = paP st pa z j := by
  intro j h0 h1
  subst hst hi
  rw [show paP 4 pa z = (fun j => if j < 660 then pa (j + 220) else z (j - 660)) from if_pos rfl]
  unfold zCpy
  by_cases c : j < 660
  · rw [if_neg (by omega), h j h0, if_pos c]
    show pa (j + 220) = if j < 660 then pa (j + 220) else z (j - 660)
    rw [if_pos c]
  · rw [if_pos (by omega)]
    show _ = if j < 660 then pa (j + 220) else z (j - 660)
    rw [if_neg c, show 0 + (j - 220 * (4 - 1)) = j - 660 by omega]
theorem mV_fa {Y : Nat → ClassId} {h : Nat} {q : Nat → Nat} {z sp pa : Int → Int} {st : Int} {ke : Int → Int} {ik : Int} {tx : Int → Int} {ln sn se : Int} {dn up fa fa' lo to : Int → Int} {tm so : Int} (h1 : ∀ j : Int, 0 ≤ j → j < (64 : Nat) → fa j = fa' j) : wLe (mV Y h q z sp pa st ke ik tx ln sn se dn up fa lo to tm so) (mV Y h q z sp pa st ke ik tx ln sn se dn up fa' lo to tm so) :=
  wLe.cons (cLe.rf _) (wLe.cons (cLe.rf _) (wLe.cons (cLe.rf _) (wLe.cons (cLe.rf _) (wLe.cons (cLe.rf _) (wLe.cons (cLe.rf _) (wLe.cons (cLe.rf _) (wLe.cons (cLe.rf _) (wLe.cons (cLe.ar _ _ _ h1) (wLe.rf _)))))))))
/-- one plot after the other: a whole round of them -/
def Went (z fb fa : Int → Int) (c i : Int) : Prop := (c = 0 → (∀ j : Int, 0 ≤ j → j < 64 → fa j = fb j) ∧ ∀ p q : Int, 0 ≤ p → p < i → nb p q → fb p ≤ fb q + (1 + z 92 / 3)) ∧ (¬ c = 0 → sumI 64 fa < sumI 64 fb)
theorem Went.start (z fb : Int → Int) : Went z fb fb 0 0 := ⟨fun _ => ⟨fun _ _ _ => rfl, fun p q h0 h1 => by omega⟩, fun h => absurd rfl h⟩
theorem Went.le {z fb fa : Int → Int} {c i : Int} (h : Went z fb fa c i) : sumI 64 fa ≤ sumI 64 fb := by
  by_cases e : c = 0
  · rw [sumI_congr 64 (fun j a b => (h.1 e).1 j a (by omega))]
    exact Int.le_refl _
  · exact Int.le_of_lt (h.2 e)
theorem Went.more {z fb fa fc : Int → Int} {c i s : Int} {L : List Int} (h : Went z fb fa c i) (hs : Seen z fa fc s i L) (e : ¬ s = 0) : Went z fb fc 1 (i + 1) :=
  ⟨fun z => by omega, fun _ => Int.lt_of_lt_of_le (hs.2.2 (by have := hs.1; omega)) h.le⟩
theorem Went.same {z fb fa fc : Int → Int} {c i s : Int} {L : List Int} (h : Went z fb fa c i) (hs : Seen z fa fc s i L) (e : s = 0) (hc : ¬ c = 0) : Went z fb fc 1 (i + 1) :=
  ⟨fun z => by omega, fun _ => by rw [sumI_congr 64 (fun j a b => (hs.2.1 e).1 j a (by omega))]; exact h.2 hc⟩
theorem Went.none {z fb fa fc : Int → Int} {c i s : Int} (hi : 0 ≤ i ∧ i < 64) (h : Went z fb fa c i) (hs : Seen z fa fc s i [i + 8, i - 8, i + 1, i - 1]) (e : s = 0) (hc : c = 0) : Went z fb fc 0 (i + 1) := by
  refine ⟨fun _ => ⟨fun j a b => ?_, fun p q h0 h1 hn => ?_⟩, fun h => absurd rfl h⟩
  · rw [(hs.2.1 e).1 j a b, (h.1 hc).1 j a b]
  · by_cases y : p = i
    · subst y
      have hq := nb_in hi hn
      have k := (hs.2.1 e).2 q (by
        unfold nb at hn
        rcases hn with ⟨_, b⟩ | ⟨_, b⟩ | ⟨_, b⟩ | ⟨_, b⟩ <;> subst b <;> simp) hn
      rw [(h.1 hc).1 p hi.1 hi.2, (h.1 hc).1 q hq.1 hq.2] at k
      exact k
    · exact (h.1 hc).2 p q h0 (by omega) hn
/-- a row that is told: all paths that are left go through its column -/
theorem pAll_told {t : Int → Int} {r c : Int} (hr : 0 ≤ r ∧ r < 8) (hc : 0 ≤ c ∧ c < 8) (h : t r = -5) : pAll (upZ t r c) = pTh t (r * 8 + c) := by
  rw [← pTh_hint hr hc h, ← pFl_all (upZ t r c) hr]
  unfold pFl
  rw [sum8]
  have k : ∀ d : Int, 0 ≤ d → d < 8 → ¬ d = c → pTh (upZ t r c) (r * 8 + d) = 0 := fun d a b e => by
    unfold pTh
    rw [pAb_no (t := upZ t r c) (p := r * 8 + d) (by omega) (by
      rw [show (r * 8 + d) / 8 = r by omega, show (r * 8 + d) % 8 = d by omega, upZ_eq _ _ _ rfl]
      omega), Int.zero_mul]
  have k0 := k 0 (by omega) (by omega)
  have k1 := k 1 (by omega) (by omega)
  have k2 := k 2 (by omega) (by omega)
  have k3 := k 3 (by omega) (by omega)
  have k4 := k 4 (by omega) (by omega)
  have k5 := k 5 (by omega) (by omega)
  have k6 := k 6 (by omega) (by omega)
  have k7 := k 7 (by omega) (by omega)
  rcases (show c = 0 ∨ c = 1 ∨ c = 2 ∨ c = 3 ∨ c = 4 ∨ c = 5 ∨ c = 6 ∨ c = 7 by omega) with e | e | e | e | e | e | e | e <;> subst e <;> omega
theorem Near.start {z g : Int → Int} {f : Int} (h : 0 ≤ z 92 ∧ z 92 ≤ 9) (hf : 0 ≤ f ∧ f < 64) (hg : ∀ j : Int, 0 ≤ j → j < 64 → g j = if j = f then 0 else 100000) : Near z f g := by
  refine ⟨fun j a b => ?_, by rw [hg f hf.1 hf.2, if_pos rfl]⟩
  rw [hg j a b]
  have k := zW2_b h hf ⟨a, b⟩
  by_cases e : j = f
  · rw [if_pos e, e]
    have : zW2 z f f = 0 := by
      unfold zW2
      rw [Int.sub_self, Int.sub_self]
      show (abI 0 + abI 0) * _ = 0
      rw [show abI 0 = 0 from rfl, Int.add_zero, Int.zero_mul]
    omega
  · rw [if_neg e]
    omega
theorem Near.nn {z fa : Int → Int} {f : Int} (hN : Near z f fa) (h : 0 ≤ z 92 ∧ z 92 ≤ 9) (hf : 0 ≤ f ∧ f < 64) : 0 ≤ sumI 64 fa :=
  sumI_100 (fun j a b => by have k := hN.1 j a b; have k2 := zW2_b h hf ⟨a, b⟩; omega)
theorem ar_step {F z g : Int → Int} {b i v : Int} (hi : 0 ≤ i) (hg : ∀ j : Int, 0 ≤ j → j < 220 → g j = if b ≤ j ∧ j < b + i then F j else z j) (hv : v = F (b + i)) : ∀ j : Int, 0 ≤ j → j < 220 → upZ g (b + i) v j = if b ≤ j ∧ j < b + (i + 1) then F j else z j := by
  intro j h0 h1
  by_cases e : j = b + i
  · rw [upZ_eq _ _ _ e, if_pos (by omega), hv, e]
  · rw [upZ_ne _ _ _ e, hg j h0 h1]
    by_cases c : b ≤ j ∧ j < b + i
    · rw [if_pos c, if_pos (by omega)]
    · rw [if_neg c, if_neg (by omega)]
/-- the greatest so far -/
theorem gr_step {L : Int → Int} {b j : Int} (hb : 0 ≤ b ∧ b < 64) (h : ∀ p : Int, 0 ≤ p → p < j → L p ≤ L b) (hj : 0 ≤ j ∧ j < 64) : (L b < L j → ∀ p : Int, 0 ≤ p → p < j + 1 → L p ≤ L j) ∧ (¬ L b < L j → ∀ p : Int, 0 ≤ p → p < j + 1 → L p ≤ L b) := by
  refine ⟨fun c p a d => ?_, fun c p a d => ?_⟩
  · by_cases e : p = j
    · rw [e]; exact Int.le_refl _
    · have := h p a (by omega); omega
  · by_cases e : p = j
    · rw [e]; omega
    · exact h p a (by omega)
theorem mV_zl {Y : Nat → ClassId} {h : Nat} {q : Nat → Nat} {z z' sp pa : Int → Int} {st : Int} {ke : Int → Int} {ik : Int} {tx : Int → Int} {ln sn se : Int} {dn up fa lo to : Int → Int} {tm so : Int} (h1 : ∀ j : Int, 0 ≤ j → j < 220 → z j = z' j) : jLe (mV Y h q z sp pa st ke ik tx ln sn se dn up fa lo to tm so) (mV Y h q z' sp pa st ke ik tx ln sn se dn up fa lo to tm so) :=
  (mV_z (fun j a b => h1 j a (by omega))).le
theorem st_step {L z g : Int → Int} {i v : Int} (hi : 0 ≤ i) (hg : ∀ j : Int, 0 ≤ j → j < 220 → g j = if 28 ≤ j ∧ j < 28 + i then z j - L (j - 28) else if 156 ≤ j ∧ j < 156 + i then 0 else z j) (hv : v = z (28 + i) - L i) : ∀ j : Int, 0 ≤ j → j < 220 → upZ (upZ g (28 + i) v) (156 + i) 0 j = if 28 ≤ j ∧ j < 28 + (i + 1) then z j - L (j - 28) else if 156 ≤ j ∧ j < 156 + (i + 1) then 0 else z j := by
  intro j h0 h1
  by_cases e : j = 156 + i
  · rw [upZ_eq _ _ _ e]
    by_cases c : 28 ≤ j ∧ j < 28 + (i + 1)
    · rw [if_pos c]
      have h2 := hg j h0 h1
      omega
    · rw [if_neg c, if_pos (by omega)]
  · rw [upZ_ne _ _ _ e]
    by_cases y : j = 28 + i
    · rw [upZ_eq _ _ _ y, if_pos (by omega), hv, y, show 28 + i - 28 = i by omega]
    · rw [upZ_ne _ _ _ y, hg j h0 h1]
      by_cases c : 28 ≤ j ∧ j < 28 + i
      · rw [if_pos c, if_pos (by omega)]
      · rw [if_neg c, if_neg (show ¬ (28 ≤ j ∧ j < 28 + (i + 1)) by omega)]
        by_cases d : 156 ≤ j ∧ j < 156 + i
        · rw [if_pos d, if_pos (by omega)]
        · rw [if_neg d, if_neg (by omega)]
theorem zTop_congr {L L' : Int → Int} {n : Int} (h : ∀ p : Int, 0 ≤ p → p < 64 → L p = L' p) : zTop L n = zTop L' n := by
  unfold zTop
  refine sumI_congr 99 (fun v h0 h1 => ?_)
  have e : nGe L (v + 1) 64 = nGe L' (v + 1) 64 := sumI_congr 64 (fun p a b => by rw [h p a (by omega)])
  rw [e]
theorem storm_fin {z g5 g6 : Int → Int} {s r i5 i6 : Int} (h5 : i5 = 64) (h6 : i6 = 8) (hg5 : ∀ j : Int, 0 ≤ j → j < 220 → g5 j = if 28 ≤ j ∧ j < 28 + i5 then z j - zLW z (tZ z) (j - 28) else if 156 ≤ j ∧ j < 156 + i5 then 0 else z j) (hg6 : ∀ j : Int, 0 ≤ j → j < 220 → g6 j = if 7 ≤ j ∧ j < 7 + i6 then -5 else g5 j) (hs : s = zLost z (tZ z)) (hr : r = zTop (zLW z (tZ z)) (zVa z (tZ z))) : ∀ j : Int, 0 ≤ j → j < 220 → upZ (upZ (upZ g6 4 (g6 4 + s)) 5 (upZ g6 4 (g6 4 + s) 5 + r)) 6 (upZ (upZ g6 4 (g6 4 + s)) 5 (upZ g6 4 (g6 4 + s) 5 + r) 6 + 1) j = GS z (tZ z) j := by
  subst h5 h6
  have k : ∀ a : Int, 4 ≤ a ∧ a ≤ 6 → g6 a = z a := fun a ha => by rw [hg6 a (by omega) (by omega), if_neg (by omega), hg5 a (by omega) (by omega), if_neg (by omega), if_neg (by omega)]
  have k4 := k 4 (by omega)
  have k5 := k 5 (by omega)
  have k6 := k 6 (by omega)
  intro j h0 h1
  by_cases e6 : j = 6
  · rw [upZ_eq _ _ _ e6, upZ_ne _ _ _ (by omega), upZ_ne _ _ _ (by omega), k6]
    unfold GS
    rw [if_neg (by omega), if_neg (by omega), if_neg (by omega), if_neg (by omega), if_neg (by omega), if_pos e6]
  · rw [upZ_ne _ _ _ e6]
    by_cases e5 : j = 5
    · rw [upZ_eq _ _ _ e5, upZ_ne _ _ _ (by omega), k5, hr]
      unfold GS
      rw [if_neg (by omega), if_neg (by omega), if_neg (by omega), if_neg (by omega), if_pos e5]
    · rw [upZ_ne _ _ _ e5]
      by_cases e4 : j = 4
      · rw [upZ_eq _ _ _ e4, k4, hs]
        unfold GS
        rw [if_neg (by omega), if_neg (by omega), if_neg (by omega), if_pos e4]
      · rw [upZ_ne _ _ _ e4, hg6 j h0 h1]
        unfold GS
        by_cases c : 28 ≤ j ∧ j < 92
        · rw [if_pos c, if_neg (by omega), hg5 j h0 h1, if_pos (by omega)]
          unfold zLW
          rw [show 28 + (j - 28) = j by omega]
          split <;> omega
        · rw [if_neg c]
          by_cases d : 156 ≤ j ∧ j < 220
          · rw [if_pos d, if_neg (by omega), hg5 j h0 h1, if_neg (by omega), if_pos (by omega)]
          · rw [if_neg d]
            by_cases f : 7 ≤ j ∧ j < 15
            · rw [if_pos f, if_pos (by omega)]
            · rw [if_neg f, if_neg (by omega), hg5 j h0 h1, if_neg (by omega), if_neg (by omega), if_neg e4, if_neg e5, if_neg e6]
set_option maxHeartbeats 4000000 in
set_option maxRecDepth 100000 in
theorem c_X5_in (l : Launch) (D : va_G) (Y : Nat → ClassId) (v : Int) (a : Int) (b : Int) (hv : -2147483648 ≤ v ∧ v < 2147483648) (ha : -2147483648 ≤ a ∧ a < 2147483648) (hb : -2147483648 ≤ b ∧ b < 2147483648) : jM l yX5_in wsX5_in { frames := 0, cells := 0, slots := 0, locals := 0 } D Y [.int (jI v), .int (jI a), .int (jI b)] ([]) (fun v_ w_ => v_ = some (.int (jI (if a ≤ v ∧ v ≤ b then 1 else 0))) ∧ w_ = ([])) 0 0 := by
  refine jM_of (cc := cX5_in) (maxL := 3) (ret := (some .boolean)) (by decide) rfl (Nat.le_of_ble_eq_true rfl) (fun v w' h => Or.inr (Or.inl ⟨_, _, rfl, h.1, jI_z (ite_01 _)⟩)) ?_
  intro x G kr0
  have kr := kr0 _ _ ⟨rfl, rfl⟩
  have G : jG x l D Y cX5_in RX5 wsX5_in 3 ({ frames := 0, cells := 0, slots := 0, locals := 0 } : Room) (some .boolean) "in" := G
  show J x 0 0 ([]) 0 [(0, .int (jI v)), (1, .int (jI a)), (2, .int (jI b))] []
  refine j_iload_n G 0 dX5_in_0 rfl ?_
  refine j_iload_n G 1 dX5_in_1 rfl ?_
  refine j_icmp_lt (tgt := 14) G dX5_in_2 (by decide) (by omega) (by omega) (fun c2 => ?_) (fun c2 => ?_)
  · refine j_iconst G dX5_in_14 (v := 0) rfl ?_
    exact j_reti G dX5_in_15 (by first | rfl | omega | exact ite_T (by omega) | exact ite_F (by omega)) (jLe.rf _) kr
  · refine j_iload_n G 0 dX5_in_5 rfl ?_
    refine j_iload_n G 2 dX5_in_6 rfl ?_
    refine j_icmp_gt (tgt := 14) G dX5_in_7 (by decide) (by omega) (by omega) (fun c7 => ?_) (fun c7 => ?_)
    · refine j_iconst G dX5_in_14 (v := 0) rfl ?_
      exact j_reti G dX5_in_15 (by first | rfl | omega | exact ite_T (by omega) | exact ite_F (by omega)) (jLe.rf _) kr
    · refine j_iconst G dX5_in_10 (v := 1) rfl ?_
      refine j_goto (tgt := 15) G dX5_in_11 (by decide) ?_
      exact j_reti G dX5_in_15 (by first | rfl | omega | exact ite_T (by omega) | exact ite_F (by omega)) (jLe.rf _) kr

set_option maxHeartbeats 4000000 in
set_option maxRecDepth 100000 in
theorem c_X5_isPlot (l : Launch) (D : va_G) (Y : Nat → ClassId) (v : Int) (hv : -2147483648 ≤ v ∧ v < 2147483648) : jM l yX5_isPlot wsX5_isPlot { frames := 1, cells := 0, slots := 0, locals := 22 } D Y [.int (jI v)] ([]) (fun v_ w_ => v_ = some (.int (jI (if 0 ≤ v ∧ v ≤ 63 then 1 else 0))) ∧ w_ = ([])) 0 0 := by
  refine jM_of (cc := cX5_isPlot) (maxL := 1) (ret := (some .boolean)) (by decide) rfl (Nat.le_of_ble_eq_true rfl) (fun v w' h => Or.inr (Or.inl ⟨_, _, rfl, h.1, jI_z (ite_01 _)⟩)) ?_
  intro x G kr0
  have kr := kr0 _ _ ⟨rfl, rfl⟩
  have G : jG x l D Y cX5_isPlot RX5 wsX5_isPlot 1 ({ frames := 1, cells := 0, slots := 0, locals := 22 } : Room) (some .boolean) "isPlot" := G
  show J x 0 0 ([]) 0 [(0, .int (jI v))] []
  refine j_iload_n G 0 dX5_isPlot_0 rfl ?_
  refine j_iconst G dX5_isPlot_1 (v := 0) rfl ?_
  refine j_bipush G dX5_isPlot_2 (v := 63) rfl ?_
  refine j_callS (nA := 3) (As := [.int (jI v), .int (jI 0), .int (jI 63)]) (st := []) (wc := []) (wr := ([])) G (c_X5_in l D Y v 0 63 (by first | assumption | omega) (by first | assumption | omega) (by first | assumption | omega)) dX5_isPlot_4 rfl gX5_isPlot_X5_in rfl rfl rfl (by decide +kernel) ⟨by decide, by decide⟩ rfl (jLe.rf _) (Nat.le_of_ble_eq_true rfl) ⟨Nat.zero_le _, Nat.zero_le _⟩ (fun v_ w_ hp_ => ?_)
  obtain ⟨rfl, rfl⟩ := hp_
  show J x 0 0 ([]) 7 [(0, .int (jI v))] [.int (jI (if 0 ≤ v ∧ v ≤ 63 then 1 else 0))]
  exact j_reti G dX5_isPlot_7 (by first | rfl | omega | exact ite_T (by omega) | exact ite_F (by omega)) (jLe.rf _) kr

set_option maxHeartbeats 4000000 in
set_option maxRecDepth 100000 in
theorem c_X5_isLine (l : Launch) (D : va_G) (Y : Nat → ClassId) (v : Int) (hv : -2147483648 ≤ v ∧ v < 2147483648) : jM l yX5_isLine wsX5_isLine { frames := 1, cells := 0, slots := 0, locals := 22 } D Y [.int (jI v)] ([]) (fun v_ w_ => v_ = some (.int (jI (if 0 ≤ v ∧ v ≤ 7 then 1 else 0))) ∧ w_ = ([])) 0 0 := by
  refine jM_of (cc := cX5_isLine) (maxL := 1) (ret := (some .boolean)) (by decide) rfl (Nat.le_of_ble_eq_true rfl) (fun v w' h => Or.inr (Or.inl ⟨_, _, rfl, h.1, jI_z (ite_01 _)⟩)) ?_
  intro x G kr0
  have kr := kr0 _ _ ⟨rfl, rfl⟩
  have G : jG x l D Y cX5_isLine RX5 wsX5_isLine 1 ({ frames := 1, cells := 0, slots := 0, locals := 22 } : Room) (some .boolean) "isLine" := G
  show J x 0 0 ([]) 0 [(0, .int (jI v))] []
  refine j_iload_n G 0 dX5_isLine_0 rfl ?_
  refine j_iconst G dX5_isLine_1 (v := 0) rfl ?_
  refine j_bipush G dX5_isLine_2 (v := 7) rfl ?_
  refine j_callS (nA := 3) (As := [.int (jI v), .int (jI 0), .int (jI 7)]) (st := []) (wc := []) (wr := ([])) G (c_X5_in l D Y v 0 7 (by first | assumption | omega) (by first | assumption | omega) (by first | assumption | omega)) dX5_isLine_4 rfl gX5_isLine_X5_in rfl rfl rfl (by decide +kernel) ⟨by decide, by decide⟩ rfl (jLe.rf _) (Nat.le_of_ble_eq_true rfl) ⟨Nat.zero_le _, Nat.zero_le _⟩ (fun v_ w_ hp_ => ?_)
  obtain ⟨rfl, rfl⟩ := hp_
  show J x 0 0 ([]) 7 [(0, .int (jI v))] [.int (jI (if 0 ≤ v ∧ v ≤ 7 then 1 else 0))]
  exact j_reti G dX5_isLine_7 (by first | rfl | omega | exact ite_T (by omega) | exact ite_F (by omega)) (jLe.rf _) kr

set_option maxHeartbeats 4000000 in
set_option maxRecDepth 100000 in
theorem c_X5_isCrew (l : Launch) (D : va_G) (Y : Nat → ClassId) (v : Int) (hv : -2147483648 ≤ v ∧ v < 2147483648) : jM l yX5_isCrew wsX5_isCrew { frames := 1, cells := 0, slots := 0, locals := 22 } D Y [.int (jI v)] ([]) (fun v_ w_ => v_ = some (.int (jI (if 0 ≤ v ∧ v ≤ 2 then 1 else 0))) ∧ w_ = ([])) 0 0 := by
  refine jM_of (cc := cX5_isCrew) (maxL := 1) (ret := (some .boolean)) (by decide) rfl (Nat.le_of_ble_eq_true rfl) (fun v w' h => Or.inr (Or.inl ⟨_, _, rfl, h.1, jI_z (ite_01 _)⟩)) ?_
  intro x G kr0
  have kr := kr0 _ _ ⟨rfl, rfl⟩
  have G : jG x l D Y cX5_isCrew RX5 wsX5_isCrew 1 ({ frames := 1, cells := 0, slots := 0, locals := 22 } : Room) (some .boolean) "isCrew" := G
  show J x 0 0 ([]) 0 [(0, .int (jI v))] []
  refine j_iload_n G 0 dX5_isCrew_0 rfl ?_
  refine j_iconst G dX5_isCrew_1 (v := 0) rfl ?_
  refine j_iconst G dX5_isCrew_2 (v := 2) rfl ?_
  refine j_callS (nA := 3) (As := [.int (jI v), .int (jI 0), .int (jI 2)]) (st := []) (wc := []) (wr := ([])) G (c_X5_in l D Y v 0 2 (by first | assumption | omega) (by first | assumption | omega) (by first | assumption | omega)) dX5_isCrew_3 rfl gX5_isCrew_X5_in rfl rfl rfl (by decide +kernel) ⟨by decide, by decide⟩ rfl (jLe.rf _) (Nat.le_of_ble_eq_true rfl) ⟨Nat.zero_le _, Nat.zero_le _⟩ (fun v_ w_ hp_ => ?_)
  obtain ⟨rfl, rfl⟩ := hp_
  show J x 0 0 ([]) 6 [(0, .int (jI v))] [.int (jI (if 0 ≤ v ∧ v ≤ 2 then 1 else 0))]
  exact j_reti G dX5_isCrew_6 (by first | rfl | omega | exact ite_T (by omega) | exact ite_F (by omega)) (jLe.rf _) kr

set_option maxHeartbeats 4000000 in
set_option maxRecDepth 100000 in
theorem c_X5_of (l : Launch) (D : va_G) (Y : Nat → ClassId) (h : Nat) (q : Nat → Nat) (z : Int → Int) (sp : Int → Int) (pa : Int → Int) (st : Int) (ke : Int → Int) (ik : Int) (tx : Int → Int) (ln : Int) (sn : Int) (se : Int) (dn : Int → Int) (up : Int → Int) (fa : Int → Int) (lo : Int → Int) (to : Int → Int) (tm : Int) (so : Int) (k : Int) (i : Int) (hk : 0 ≤ k ∧ k < 3) (hi : 0 ≤ i ∧ i < 4) : jM l yX5_of wsX5_of { frames := 0, cells := 0, slots := 0, locals := 0 } D Y [.ref h, .int (jI k), .int (jI i)] (mV Y h q z sp pa st ke ik tx ln sn se dn up fa lo to tm so) (fun v_ w_ => v_ = some (.int (jI (z (15 + 4 * k + i)))) ∧ w_ = (mV Y h q z sp pa st ke ik tx ln sn se dn up fa lo to tm so)) 0 0 := by
  refine jM_of (cc := cX5_of) (maxL := 3) (ret := (some .int)) (by decide) rfl (Nat.le_of_ble_eq_true rfl) (fun v w' h => Or.inr (Or.inl ⟨_, _, rfl, h.1, rfl⟩)) ?_
  intro x G kr0
  have kr := kr0 _ _ ⟨rfl, rfl⟩
  have G : jG x l D Y cX5_of RX5 wsX5_of 3 ({ frames := 0, cells := 0, slots := 0, locals := 0 } : Room) (some .int) "of" := G
  have hinX5 : ∀ w ∈ wsX50, w ∈ wsX5_of := fun _ h => List.mem_cons_of_mem _ (List.mem_append_right _ h)
  show J x 0 0 (mV Y h q z sp pa st ke ik tx ln sn se dn up fa lo to tm so) 0 [(0, .ref h), (1, .int (jI k)), (2, .int (jI i))] []
  refine j_aload_n G 0 dX5_of_0 rfl ?_
  refine j_get (q := 0) (C := RX5) (T := TX5) (N := 17) (v := .ref (q 0)) G 0 hinX5 dX5_of_1 rfl rfl (by decide) (by decide +kernel) rfl ?_
  refine j_bipush G dX5_of_4 (v := 15) rfl ?_
  refine j_iconst G dX5_of_6 (v := 4) rfl ?_
  refine j_iload_n G 1 dX5_of_7 rfl ?_
  refine j_imul G dX5_of_8 ?_
  refine j_iadd G dX5_of_9 ?_
  refine j_iload_n G 2 dX5_of_10 rfl ?_
  refine j_iadd G dX5_of_11 ?_
  refine j_iald (v := z ((15 + (4 * k)) + i)) G 1 dX5_of_12 rfl (by omega) rfl ?_
  exact j_reti G dX5_of_13 (by first | rfl | omega | exact ite_T (by omega) | exact ite_F (by omega)) (jLe.rf _) kr

set_option maxHeartbeats 4000000 in
set_option maxRecDepth 100000 in
theorem c_X5_lay (l : Launch) (D : va_G) (Y : Nat → ClassId) (h : Nat) (q : Nat → Nat) (z : Int → Int) (sp : Int → Int) (pa : Int → Int) (st : Int) (ke : Int → Int) (ik : Int) (tx : Int → Int) (ln : Int) (sn : Int) (se : Int) (dn : Int → Int) (up : Int → Int) (fa : Int → Int) (lo : Int → Int) (to : Int → Int) (tm : Int) (so : Int) (k : Int) (i : Int) (v : Int) (hk : 0 ≤ k ∧ k < 3) (hi : 0 ≤ i ∧ i < 4) : jM l yX5_lay wsX5_lay { frames := 0, cells := 0, slots := 0, locals := 0 } D Y [.ref h, .int (jI k), .int (jI i), .int (jI v)] (mV Y h q z sp pa st ke ik tx ln sn se dn up fa lo to tm so) (fun v_ w_ => v_ = none ∧ w_ = (mV Y h q (upZ z (15 + 4 * k + i) v) sp pa st ke ik tx ln sn se dn up fa lo to tm so)) 0 0 := by
  refine jM_of (cc := cX5_lay) (maxL := 4) (ret := none) (by decide) rfl (Nat.le_of_ble_eq_true rfl) (fun v w' h => Or.inl ⟨rfl, h.1⟩) ?_
  intro x G kr0
  have kr := kr0 _ _ ⟨rfl, rfl⟩
  have G : jG x l D Y cX5_lay RX5 wsX5_lay 4 ({ frames := 0, cells := 0, slots := 0, locals := 0 } : Room) none "lay" := G
  have hinX5 : ∀ w ∈ wsX50, w ∈ wsX5_lay := fun _ h => List.mem_cons_of_mem _ (List.mem_append_right _ h)
  show J x 0 0 (mV Y h q z sp pa st ke ik tx ln sn se dn up fa lo to tm so) 0 [(0, .ref h), (1, .int (jI k)), (2, .int (jI i)), (3, .int (jI v))] []
  refine j_aload_n G 0 dX5_lay_0 rfl ?_
  refine j_get (q := 0) (C := RX5) (T := TX5) (N := 17) (v := .ref (q 0)) G 0 hinX5 dX5_lay_1 rfl rfl (by decide) (by decide +kernel) rfl ?_
  refine j_bipush G dX5_lay_4 (v := 15) rfl ?_
  refine j_iconst G dX5_lay_6 (v := 4) rfl ?_
  refine j_iload_n G 1 dX5_lay_7 rfl ?_
  refine j_imul G dX5_lay_8 ?_
  refine j_iadd G dX5_lay_9 ?_
  refine j_iload_n G 2 dX5_lay_10 rfl ?_
  refine j_iadd G dX5_lay_11 ?_
  refine j_iload_n G 3 dX5_lay_12 rfl ?_
  refine j_iast (ws' := mV Y h q (upZ z ((15 + (4 * k)) + i) v) sp pa st ke ik tx ln sn se dn up fa lo to tm so) G 1 dX5_lay_13 rfl (by omega) rfl ?_
  exact j_retv G dX5_lay_14 (jLe.rf _) kr

theorem c_X5_of0 (l : Launch) (D : va_G) (Y : Nat → ClassId) (h : Nat) (q : Nat → Nat) (z : Int → Int) (sp : Int → Int) (pa : Int → Int) (st : Int) (ke : Int → Int) (ik : Int) (tx : Int → Int) (ln : Int) (sn : Int) (se : Int) (dn : Int → Int) (up : Int → Int) (fa : Int → Int) (lo : Int → Int) (to : Int → Int) (tm : Int) (so : Int) (k : Int) (hk : 0 ≤ k ∧ k < 3) : jM l yX5_of wsX5_of { frames := 0, cells := 0, slots := 0, locals := 0 } D Y [.ref h, .int (jI k), .int (jI 0)] (mV Y h q z sp pa st ke ik tx ln sn se dn up fa lo to tm so) (fun v_ w_ => v_ = some (.int (jI (z (15 + 4 * k)))) ∧ w_ = (mV Y h q z sp pa st ke ik tx ln sn se dn up fa lo to tm so)) 0 0 := (by have t := c_X5_of l D Y h q z sp pa st ke ik tx ln sn se dn up fa lo to tm so k 0 hk (by omega); rw [show (15 + 4 * k + 0 : Int) = 15 + 4 * k by omega] at t; exact t)

theorem c_X5_lay0 (l : Launch) (D : va_G) (Y : Nat → ClassId) (h : Nat) (q : Nat → Nat) (z : Int → Int) (sp : Int → Int) (pa : Int → Int) (st : Int) (ke : Int → Int) (ik : Int) (tx : Int → Int) (ln : Int) (sn : Int) (se : Int) (dn : Int → Int) (up : Int → Int) (fa : Int → Int) (lo : Int → Int) (to : Int → Int) (tm : Int) (so : Int) (k : Int) (v : Int) (hk : 0 ≤ k ∧ k < 3) : jM l yX5_lay wsX5_lay { frames := 0, cells := 0, slots := 0, locals := 0 } D Y [.ref h, .int (jI k), .int (jI 0), .int (jI v)] (mV Y h q z sp pa st ke ik tx ln sn se dn up fa lo to tm so) (fun v_ w_ => v_ = none ∧ w_ = (mV Y h q (upZ z (15 + 4 * k) v) sp pa st ke ik tx ln sn se dn up fa lo to tm so)) 0 0 := (by have t := c_X5_lay l D Y h q z sp pa st ke ik tx ln sn se dn up fa lo to tm so k 0 v hk (by omega); rw [show (15 + 4 * k + 0 : Int) = 15 + 4 * k by omega] at t; exact t)

theorem c_X5_of1 (l : Launch) (D : va_G) (Y : Nat → ClassId) (h : Nat) (q : Nat → Nat) (z : Int → Int) (sp : Int → Int) (pa : Int → Int) (st : Int) (ke : Int → Int) (ik : Int) (tx : Int → Int) (ln : Int) (sn : Int) (se : Int) (dn : Int → Int) (up : Int → Int) (fa : Int → Int) (lo : Int → Int) (to : Int → Int) (tm : Int) (so : Int) (k : Int) (hk : 0 ≤ k ∧ k < 3) : jM l yX5_of wsX5_of { frames := 0, cells := 0, slots := 0, locals := 0 } D Y [.ref h, .int (jI k), .int (jI 1)] (mV Y h q z sp pa st ke ik tx ln sn se dn up fa lo to tm so) (fun v_ w_ => v_ = some (.int (jI (z (16 + 4 * k)))) ∧ w_ = (mV Y h q z sp pa st ke ik tx ln sn se dn up fa lo to tm so)) 0 0 := (by have t := c_X5_of l D Y h q z sp pa st ke ik tx ln sn se dn up fa lo to tm so k 1 hk (by omega); rw [show (15 + 4 * k + 1 : Int) = 16 + 4 * k by omega] at t; exact t)

theorem c_X5_lay1 (l : Launch) (D : va_G) (Y : Nat → ClassId) (h : Nat) (q : Nat → Nat) (z : Int → Int) (sp : Int → Int) (pa : Int → Int) (st : Int) (ke : Int → Int) (ik : Int) (tx : Int → Int) (ln : Int) (sn : Int) (se : Int) (dn : Int → Int) (up : Int → Int) (fa : Int → Int) (lo : Int → Int) (to : Int → Int) (tm : Int) (so : Int) (k : Int) (v : Int) (hk : 0 ≤ k ∧ k < 3) : jM l yX5_lay wsX5_lay { frames := 0, cells := 0, slots := 0, locals := 0 } D Y [.ref h, .int (jI k), .int (jI 1), .int (jI v)] (mV Y h q z sp pa st ke ik tx ln sn se dn up fa lo to tm so) (fun v_ w_ => v_ = none ∧ w_ = (mV Y h q (upZ z (16 + 4 * k) v) sp pa st ke ik tx ln sn se dn up fa lo to tm so)) 0 0 := (by have t := c_X5_lay l D Y h q z sp pa st ke ik tx ln sn se dn up fa lo to tm so k 1 v hk (by omega); rw [show (15 + 4 * k + 1 : Int) = 16 + 4 * k by omega] at t; exact t)

theorem c_X5_of2 (l : Launch) (D : va_G) (Y : Nat → ClassId) (h : Nat) (q : Nat → Nat) (z : Int → Int) (sp : Int → Int) (pa : Int → Int) (st : Int) (ke : Int → Int) (ik : Int) (tx : Int → Int) (ln : Int) (sn : Int) (se : Int) (dn : Int → Int) (up : Int → Int) (fa : Int → Int) (lo : Int → Int) (to : Int → Int) (tm : Int) (so : Int) (k : Int) (hk : 0 ≤ k ∧ k < 3) : jM l yX5_of wsX5_of { frames := 0, cells := 0, slots := 0, locals := 0 } D Y [.ref h, .int (jI k), .int (jI 2)] (mV Y h q z sp pa st ke ik tx ln sn se dn up fa lo to tm so) (fun v_ w_ => v_ = some (.int (jI (z (17 + 4 * k)))) ∧ w_ = (mV Y h q z sp pa st ke ik tx ln sn se dn up fa lo to tm so)) 0 0 := (by have t := c_X5_of l D Y h q z sp pa st ke ik tx ln sn se dn up fa lo to tm so k 2 hk (by omega); rw [show (15 + 4 * k + 2 : Int) = 17 + 4 * k by omega] at t; exact t)

theorem c_X5_lay2 (l : Launch) (D : va_G) (Y : Nat → ClassId) (h : Nat) (q : Nat → Nat) (z : Int → Int) (sp : Int → Int) (pa : Int → Int) (st : Int) (ke : Int → Int) (ik : Int) (tx : Int → Int) (ln : Int) (sn : Int) (se : Int) (dn : Int → Int) (up : Int → Int) (fa : Int → Int) (lo : Int → Int) (to : Int → Int) (tm : Int) (so : Int) (k : Int) (v : Int) (hk : 0 ≤ k ∧ k < 3) : jM l yX5_lay wsX5_lay { frames := 0, cells := 0, slots := 0, locals := 0 } D Y [.ref h, .int (jI k), .int (jI 2), .int (jI v)] (mV Y h q z sp pa st ke ik tx ln sn se dn up fa lo to tm so) (fun v_ w_ => v_ = none ∧ w_ = (mV Y h q (upZ z (17 + 4 * k) v) sp pa st ke ik tx ln sn se dn up fa lo to tm so)) 0 0 := (by have t := c_X5_lay l D Y h q z sp pa st ke ik tx ln sn se dn up fa lo to tm so k 2 v hk (by omega); rw [show (15 + 4 * k + 2 : Int) = 17 + 4 * k by omega] at t; exact t)

theorem c_X5_of3 (l : Launch) (D : va_G) (Y : Nat → ClassId) (h : Nat) (q : Nat → Nat) (z : Int → Int) (sp : Int → Int) (pa : Int → Int) (st : Int) (ke : Int → Int) (ik : Int) (tx : Int → Int) (ln : Int) (sn : Int) (se : Int) (dn : Int → Int) (up : Int → Int) (fa : Int → Int) (lo : Int → Int) (to : Int → Int) (tm : Int) (so : Int) (k : Int) (hk : 0 ≤ k ∧ k < 3) : jM l yX5_of wsX5_of { frames := 0, cells := 0, slots := 0, locals := 0 } D Y [.ref h, .int (jI k), .int (jI 3)] (mV Y h q z sp pa st ke ik tx ln sn se dn up fa lo to tm so) (fun v_ w_ => v_ = some (.int (jI (z (18 + 4 * k)))) ∧ w_ = (mV Y h q z sp pa st ke ik tx ln sn se dn up fa lo to tm so)) 0 0 := (by have t := c_X5_of l D Y h q z sp pa st ke ik tx ln sn se dn up fa lo to tm so k 3 hk (by omega); rw [show (15 + 4 * k + 3 : Int) = 18 + 4 * k by omega] at t; exact t)

theorem c_X5_lay3 (l : Launch) (D : va_G) (Y : Nat → ClassId) (h : Nat) (q : Nat → Nat) (z : Int → Int) (sp : Int → Int) (pa : Int → Int) (st : Int) (ke : Int → Int) (ik : Int) (tx : Int → Int) (ln : Int) (sn : Int) (se : Int) (dn : Int → Int) (up : Int → Int) (fa : Int → Int) (lo : Int → Int) (to : Int → Int) (tm : Int) (so : Int) (k : Int) (v : Int) (hk : 0 ≤ k ∧ k < 3) : jM l yX5_lay wsX5_lay { frames := 0, cells := 0, slots := 0, locals := 0 } D Y [.ref h, .int (jI k), .int (jI 3), .int (jI v)] (mV Y h q z sp pa st ke ik tx ln sn se dn up fa lo to tm so) (fun v_ w_ => v_ = none ∧ w_ = (mV Y h q (upZ z (18 + 4 * k) v) sp pa st ke ik tx ln sn se dn up fa lo to tm so)) 0 0 := (by have t := c_X5_lay l D Y h q z sp pa st ke ik tx ln sn se dn up fa lo to tm so k 3 v hk (by omega); rw [show (15 + 4 * k + 3 : Int) = 18 + 4 * k by omega] at t; exact t)

set_option maxHeartbeats 4000000 in
set_option maxRecDepth 100000 in
theorem c_X5_refresh (l : Launch) (D : va_G) (Y : Nat → ClassId) (h : Nat) (q : Nat → Nat) (z : Int → Int) (sp : Int → Int) (pa : Int → Int) (st : Int) (ke : Int → Int) (ik : Int) (tx : Int → Int) (ln : Int) (sn : Int) (se : Int) (dn : Int → Int) (up : Int → Int) (fa : Int → Int) (lo : Int → Int) (to : Int → Int) (tm : Int) (so : Int)  : jM l yX5_refresh wsX5_refresh { frames := 1, cells := 0, slots := 0, locals := 23 } D Y [.ref h] (mV Y h q z sp pa st ke ik tx ln sn se dn up fa lo to tm so) (fun v_ w_ => v_ = none ∧ w_ = (mV Y h q (GRf z) sp pa st ke ik tx ln sn se dn up fa lo to tm so)) 0 0 := by
  refine jM_of (cc := cX5_refresh) (maxL := 2) (ret := none) (by decide) rfl (Nat.le_of_ble_eq_true rfl) (fun v w' h => Or.inl ⟨rfl, h.1⟩) ?_
  intro x G kr0
  have kr := kr0 _ _ ⟨rfl, rfl⟩
  have G : jG x l D Y cX5_refresh RX5 wsX5_refresh 2 ({ frames := 1, cells := 0, slots := 0, locals := 23 } : Room) none "refresh" := G
  have hinX5 : ∀ w ∈ wsX50, w ∈ wsX5_refresh := fun _ h => List.mem_cons_of_mem _ (List.mem_append_right _ h)
  show J x 0 0 (mV Y h q z sp pa st ke ik tx ln sn se dn up fa lo to tm so) 0 [(0, .ref h)] []
  refine j_iconst G dX5_refresh_0 (v := 0) rfl ?_
  refine j_istore_n (lv' := [(1, .int (jI 0)), (0, .ref h)]) G dX5_refresh_1 (by decide) rfl ?_
  refine j_iload_n G 0 dX5_refresh_2 rfl ?_
  refine j_iconst G dX5_refresh_3 (v := 3) rfl ?_
  refine j_icmp_ge (tgt := 25) G dX5_refresh_4 (by decide) (by omega) (by omega) (fun c4 => absurd c4 (by omega)) (fun c4 => ?_)
  refine j_aload_n G 1 dX5_refresh_7 rfl ?_
  refine j_iload_n G 0 dX5_refresh_8 rfl ?_
  refine j_iconst G dX5_refresh_9 (v := 1) rfl ?_
  refine j_aload_n G 1 dX5_refresh_10 rfl ?_
  refine j_get (q := 0) (C := RX5) (T := TX5) (N := 17) (v := .ref (q 0)) G 0 hinX5 dX5_refresh_11 rfl rfl (by decide) (by decide +kernel) rfl ?_
  refine j_iconst G dX5_refresh_14 (v := 0) rfl ?_
  refine j_iald (v := z 0) G 1 dX5_refresh_15 rfl (by omega) rfl ?_
  refine j_callV (nA := 3) (As := [.int (jI 0), .int (jI 1), .int (jI (z 0))]) (st := []) (wc := (mV Y h q z sp pa st ke ik tx ln sn se dn up fa lo to tm so)) (wr := []) G (c_X5_lay1 l D Y h q z sp pa st ke ik tx ln sn se dn up fa lo to tm so 0 (z 0) (by first | assumption | omega)) dX5_refresh_16 rfl gX5_refresh_X5_lay rfl rfl rfl (by decide +kernel) ⟨by decide, by decide⟩ rfl 0 rfl rfl rfl (jLe.nil (jLe.rf _)) (Nat.le_of_ble_eq_true rfl) ⟨Nat.zero_le _, Nat.zero_le _⟩ (fun v_ w_ hp_ => ?_)
  obtain ⟨rfl, rfl⟩ := hp_
  show J x 0 0 (mV Y h q (upZ z (16 + 4 * 0) (z 0)) sp pa st ke ik tx ln sn se dn up fa lo to tm so) 19 [(1, .int (jI 0)), (0, .ref h)] []
  refine j_iinc (w := 1) (lv' := [(1, .int (jI 1)), (0, .ref h)]) G 0 dX5_refresh_19 rfl rfl (by decide) rfl ?_
  refine j_goto (tgt := 2) G dX5_refresh_22 (by decide) ?_
  refine j_iload_n G 0 dX5_refresh_2 rfl ?_
  refine j_iconst G dX5_refresh_3 (v := 3) rfl ?_
  refine j_icmp_ge (tgt := 25) G dX5_refresh_4 (by decide) (by omega) (by omega) (fun c4 => absurd c4 (by omega)) (fun c4 => ?_)
  refine j_aload_n G 1 dX5_refresh_7 rfl ?_
  refine j_iload_n G 0 dX5_refresh_8 rfl ?_
  refine j_iconst G dX5_refresh_9 (v := 1) rfl ?_
  refine j_aload_n G 1 dX5_refresh_10 rfl ?_
  refine j_get (q := 0) (C := RX5) (T := TX5) (N := 17) (v := .ref (q 0)) G 0 hinX5 dX5_refresh_11 rfl rfl (by decide) (by decide +kernel) rfl ?_
  refine j_iconst G dX5_refresh_14 (v := 0) rfl ?_
  refine j_iald (v := (upZ z (16 + 4 * 0) (z 0)) 0) G 1 dX5_refresh_15 rfl (by omega) rfl ?_
  refine j_callV (nA := 3) (As := [.int (jI 1), .int (jI 1), .int (jI ((upZ z (16 + 4 * 0) (z 0)) 0))]) (st := []) (wc := (mV Y h q (upZ z (16 + 4 * 0) (z 0)) sp pa st ke ik tx ln sn se dn up fa lo to tm so)) (wr := []) G (c_X5_lay1 l D Y h q (upZ z (16 + 4 * 0) (z 0)) sp pa st ke ik tx ln sn se dn up fa lo to tm so 1 ((upZ z (16 + 4 * 0) (z 0)) 0) (by first | assumption | omega)) dX5_refresh_16 rfl gX5_refresh_X5_lay rfl rfl rfl (by decide +kernel) ⟨by decide, by decide⟩ rfl 0 rfl rfl rfl (jLe.nil (jLe.rf _)) (Nat.le_of_ble_eq_true rfl) ⟨Nat.zero_le _, Nat.zero_le _⟩ (fun v_ w_ hp_ => ?_)
  obtain ⟨rfl, rfl⟩ := hp_
  show J x 0 0 (mV Y h q (upZ (upZ z (16 + 4 * 0) (z 0)) (16 + 4 * 1) ((upZ z (16 + 4 * 0) (z 0)) 0)) sp pa st ke ik tx ln sn se dn up fa lo to tm so) 19 [(1, .int (jI 1)), (0, .ref h)] []
  refine j_iinc (w := 2) (lv' := [(1, .int (jI 2)), (0, .ref h)]) G 0 dX5_refresh_19 rfl rfl (by decide) rfl ?_
  refine j_goto (tgt := 2) G dX5_refresh_22 (by decide) ?_
  refine j_iload_n G 0 dX5_refresh_2 rfl ?_
  refine j_iconst G dX5_refresh_3 (v := 3) rfl ?_
  refine j_icmp_ge (tgt := 25) G dX5_refresh_4 (by decide) (by omega) (by omega) (fun c4 => absurd c4 (by omega)) (fun c4 => ?_)
  refine j_aload_n G 1 dX5_refresh_7 rfl ?_
  refine j_iload_n G 0 dX5_refresh_8 rfl ?_
  refine j_iconst G dX5_refresh_9 (v := 1) rfl ?_
  refine j_aload_n G 1 dX5_refresh_10 rfl ?_
  refine j_get (q := 0) (C := RX5) (T := TX5) (N := 17) (v := .ref (q 0)) G 0 hinX5 dX5_refresh_11 rfl rfl (by decide) (by decide +kernel) rfl ?_
  refine j_iconst G dX5_refresh_14 (v := 0) rfl ?_
  refine j_iald (v := (upZ (upZ z (16 + 4 * 0) (z 0)) (16 + 4 * 1) ((upZ z (16 + 4 * 0) (z 0)) 0)) 0) G 1 dX5_refresh_15 rfl (by omega) rfl ?_
  refine j_callV (nA := 3) (As := [.int (jI 2), .int (jI 1), .int (jI ((upZ (upZ z (16 + 4 * 0) (z 0)) (16 + 4 * 1) ((upZ z (16 + 4 * 0) (z 0)) 0)) 0))]) (st := []) (wc := (mV Y h q (upZ (upZ z (16 + 4 * 0) (z 0)) (16 + 4 * 1) ((upZ z (16 + 4 * 0) (z 0)) 0)) sp pa st ke ik tx ln sn se dn up fa lo to tm so)) (wr := []) G (c_X5_lay1 l D Y h q (upZ (upZ z (16 + 4 * 0) (z 0)) (16 + 4 * 1) ((upZ z (16 + 4 * 0) (z 0)) 0)) sp pa st ke ik tx ln sn se dn up fa lo to tm so 2 ((upZ (upZ z (16 + 4 * 0) (z 0)) (16 + 4 * 1) ((upZ z (16 + 4 * 0) (z 0)) 0)) 0) (by first | assumption | omega)) dX5_refresh_16 rfl gX5_refresh_X5_lay rfl rfl rfl (by decide +kernel) ⟨by decide, by decide⟩ rfl 0 rfl rfl rfl (jLe.nil (jLe.rf _)) (Nat.le_of_ble_eq_true rfl) ⟨Nat.zero_le _, Nat.zero_le _⟩ (fun v_ w_ hp_ => ?_)
  obtain ⟨rfl, rfl⟩ := hp_
  show J x 0 0 (mV Y h q (upZ (upZ (upZ z (16 + 4 * 0) (z 0)) (16 + 4 * 1) ((upZ z (16 + 4 * 0) (z 0)) 0)) (16 + 4 * 2) ((upZ (upZ z (16 + 4 * 0) (z 0)) (16 + 4 * 1) ((upZ z (16 + 4 * 0) (z 0)) 0)) 0)) sp pa st ke ik tx ln sn se dn up fa lo to tm so) 19 [(1, .int (jI 2)), (0, .ref h)] []
  refine j_iinc (w := 3) (lv' := [(1, .int (jI 3)), (0, .ref h)]) G 0 dX5_refresh_19 rfl rfl (by decide) rfl ?_
  refine j_goto (tgt := 2) G dX5_refresh_22 (by decide) ?_
  refine j_iload_n G 0 dX5_refresh_2 rfl ?_
  refine j_iconst G dX5_refresh_3 (v := 3) rfl ?_
  refine j_icmp_ge (tgt := 25) G dX5_refresh_4 (by decide) (by omega) (by omega) (fun c4 => ?_) (fun c4 => absurd c4 (by omega))
  exact j_retv G dX5_refresh_25 ((mV_z (fun j h0 h1 => by simp only [upZ, GRf]; (repeat' split) <;> first | rfl | omega)).le) kr

set_option maxHeartbeats 4000000 in
set_option maxRecDepth 100000 in
theorem c_X5_copyState (l : Launch) (D : va_G) (Y : Nat → ClassId) (a : Nat) (na : Nat) (f : Int → Int) (b : Nat) (nb : Nat) (g : Int → Int) (ca : Int) (cb : Int) (hca : 0 ≤ ca ∧ ca + 220 ≤ (na : Int) ∧ (na : Int) ≤ 880) (hcb : 0 ≤ cb ∧ cb + 220 ≤ (nb : Int) ∧ (nb : Int) ≤ 880) : jM l yX5_copyState wsX5_copyState { frames := 0, cells := 0, slots := 0, locals := 0 } D Y [.ref a, .int (jI ca), .ref b, .int (jI cb)] ([aN Y a na f] ++ ([aN Y b nb g])) (fun v_ w_ => v_ = none ∧ w_ = ([aN Y a na f] ++ ([aN Y b nb (zCpy f g ca cb)]))) 0 0 := by
  refine jM_of (cc := cX5_copyState) (maxL := 5) (ret := none) (by decide) rfl (Nat.le_of_ble_eq_true rfl) (fun v w' h => Or.inl ⟨rfl, h.1⟩) ?_
  intro x G kr0
  have kr := kr0 _ _ ⟨rfl, rfl⟩
  have G : jG x l D Y cX5_copyState RX5 wsX5_copyState 5 ({ frames := 0, cells := 0, slots := 0, locals := 0 } : Room) none "copyState" := G
  show J x 0 0 ([aN Y a na f] ++ ([aN Y b nb g])) 0 [(0, .ref a), (1, .int (jI ca)), (2, .ref b), (3, .int (jI cb))] []
  refine j_iconst G dX5_copyState_0 (v := 0) rfl ?_
  refine j_istore (lv' := [(4, .int (jI 0)), (0, .ref a), (1, .int (jI ca)), (2, .ref b), (3, .int (jI cb))]) G dX5_copyState_1 (by decide) rfl ?_
  have lp3 : ∀ (n_ : Nat) (i : Int) (g2 : Int → Int), (0 ≤ i ∧ i ≤ 220) → (∀ j : Int, g2 j = if cb ≤ j ∧ j < cb + i then f (ca + (j - cb)) else g j) → (220 - i) < (n_ : Int) → J x 0 0 ([aN Y a na f] ++ ([aN Y b nb g2])) 3 [(0, .ref a), (1, .int (jI ca)), (2, .ref b), (3, .int (jI cb)), (4, .int (jI i))] [] := by
    intro n_
    induction n_ with
    | zero =>
      intro i g2 hi hg hm_
      exact absurd hm_ (by omega)
    | succ n_ ih3 =>
      intro i g2 hi hg hm_
      refine j_iload G 4 dX5_copyState_3 rfl ?_
      refine j_sipush G dX5_copyState_5 (v := 220) rfl ?_
      refine j_icmp_ge (tgt := 29) G dX5_copyState_8 (by decide) (by omega) (by omega) (fun c8 => ?_) (fun c8 => ?_)
      · exact j_retv G dX5_copyState_29 ((wLe.cons (cLe.rf _) (wLe.cons (cLe.ar _ _ _ (fun j h0 h1 => by rw [hg j, show i = 220 by omega]; rfl)) wLe.nil)).le) kr
      · refine j_aload_n G 2 dX5_copyState_11 rfl ?_
        refine j_iload_n G 3 dX5_copyState_12 rfl ?_
        refine j_iload G 4 dX5_copyState_13 rfl ?_
        refine j_iadd G dX5_copyState_15 ?_
        refine j_aload_n G 0 dX5_copyState_16 rfl ?_
        refine j_iload_n G 1 dX5_copyState_17 rfl ?_
        refine j_iload G 4 dX5_copyState_18 rfl ?_
        refine j_iadd G dX5_copyState_20 ?_
        refine j_iald (v := f (ca + i)) G 0 dX5_copyState_21 rfl (by omega) rfl ?_
        refine j_iast (ws' := [aN Y a na f] ++ ([aN Y b nb (upZ g2 (cb + i) (f (ca + i)))])) G 1 dX5_copyState_22 rfl (by omega) rfl ?_
        refine j_iinc (w := i + 1) (lv' := [(4, .int (jI (i + 1))), (0, .ref a), (1, .int (jI ca)), (2, .ref b), (3, .int (jI cb))]) G 4 dX5_copyState_23 rfl rfl (by decide) rfl ?_
        refine j_goto (tgt := 3) G dX5_copyState_26 (by decide) ?_
        refine j_lv [1, 2, 3, 4, 0] (lv' := [(0, .ref a), (1, .int (jI ca)), (2, .ref b), (3, .int (jI cb)), (4, .int (jI (i + 1)))]) rfl ?_
        exact ih3 (i + 1) (upZ g2 (cb + i) (f (ca + i))) (by omega) (by exact cpy_step hi.1 hg) (by omega)
  refine j_lv [1, 2, 3, 4, 0] (lv' := [(0, .ref a), (1, .int (jI ca)), (2, .ref b), (3, .int (jI cb)), (4, .int (jI 0))]) rfl ?_
  exact lp3 (Int.toNat ((220 - 0) + 1)) 0 g (by omega) (by intro j; rw [if_neg (by omega)]) (by omega)

set_option maxHeartbeats 4000000 in
set_option maxRecDepth 100000 in
theorem c_X5_recordRow (l : Launch) (D : va_G) (Y : Nat → ClassId) (h : Nat) (q : Nat → Nat) (z : Int → Int) (sp : Int → Int) (pa : Int → Int) (st : Int) (ke : Int → Int) (ik : Int) (tx : Int → Int) (ln : Int) (sn : Int) (se : Int) (dn : Int → Int) (up : Int → Int) (fa : Int → Int) (lo : Int → Int) (to : Int → Int) (tm : Int) (so : Int) (hst : 0 ≤ st ∧ st ≤ 4) : jM l yX5_recordRow wsX5_recordRow { frames := 1, cells := 0, slots := 0, locals := 24 } D Y [.ref h, .ref (q 0)] (mV Y h q z sp pa st ke ik tx ln sn se dn up fa lo to tm so) (fun v_ w_ => v_ = none ∧ w_ = (mV Y h q z sp (paP st pa z) (hUp st) ke ik tx ln sn se dn up fa lo to tm so)) 0 0 := by
  refine jM_of (cc := cX5_recordRow) (maxL := 3) (ret := none) (by decide) rfl (Nat.le_of_ble_eq_true rfl) (fun v w' h => Or.inl ⟨rfl, h.1⟩) ?_
  intro x G kr0
  have kr := kr0 _ _ ⟨rfl, rfl⟩
  have G : jG x l D Y cX5_recordRow RX5 wsX5_recordRow 3 ({ frames := 1, cells := 0, slots := 0, locals := 24 } : Room) none "recordRow" := G
  have hinX5 : ∀ w ∈ wsX50, w ∈ wsX5_recordRow := fun _ h => List.mem_cons_of_mem _ (List.mem_append_right _ h)
  show J x 0 0 (mV Y h q z sp pa st ke ik tx ln sn se dn up fa lo to tm so) 0 [(0, .ref h), (1, .ref (q 0))] []
  refine j_aload_n G 0 dX5_recordRow_0 rfl ?_
  refine j_get (q := 3) (C := RX5) (T := TX5) (N := 17) (v := .int (jI st)) G 0 hinX5 dX5_recordRow_1 rfl rfl (by decide) (by decide +kernel) rfl ?_
  refine j_iconst G dX5_recordRow_4 (v := 4) rfl ?_
  refine j_icmp_ne (tgt := 49) G dX5_recordRow_5 (by decide) (by omega) (by omega) (fun c5 => ?_) (fun c5 => ?_)
  · refine j_aload_n G 1 dX5_recordRow_49 rfl ?_
    refine j_iconst G dX5_recordRow_50 (v := 0) rfl ?_
    refine j_aload_n G 0 dX5_recordRow_51 rfl ?_
    refine j_get (q := 2) (C := RX5) (T := TX5) (N := 17) (v := .ref (q 2)) G 0 hinX5 dX5_recordRow_52 rfl rfl (by decide) (by decide +kernel) rfl ?_
    refine j_sipush G dX5_recordRow_55 (v := 220) rfl ?_
    refine j_aload_n G 0 dX5_recordRow_58 rfl ?_
    refine j_get (q := 3) (C := RX5) (T := TX5) (N := 17) (v := .int (jI st)) G 0 hinX5 dX5_recordRow_59 rfl rfl (by decide) (by decide +kernel) rfl ?_
    refine j_imul G dX5_recordRow_62 ?_
    refine j_callS (nA := 4) (As := [.ref (q 0), .int (jI 0), .ref (q 2), .int (jI (220 * st))]) (st := []) (wc := ([aN Y (q 0) 220 z] ++ ([aN Y (q 2) 880 pa]))) (wr := [ob h 5 [.ref (q 0), .ref (q 1), .ref (q 2), .int (jI st), .ref (q 3), .int (jI ik), .ref (q 4), .int (jI ln), .int (jI sn), .int (jI se), .ref (q 5), .ref (q 6), .ref (q 7), .ref (q 8), .ref (q 9), .int (jI tm), .int (jI so)], aN Y (q 1) 220 sp, aN Y (q 3) 220 ke, aN Y (q 4) 60 tx, aN Y (q 5) 64 dn, aN Y (q 6) 64 up, aN Y (q 7) 64 fa, aN Y (q 8) 64 lo, aN Y (q 9) 93 to]) G (c_X5_copyState l D Y (q 0) 220 z (q 2) 880 pa 0 (220 * st) (by first | assumption | omega) (by first | assumption | omega)) dX5_recordRow_63 rfl gX5_recordRow_X5_copyState rfl rfl rfl (by decide +kernel) ⟨by decide, by decide⟩ rfl (jLe.pos [1, 3, 0, 2, 4, 5, 6, 7, 8, 9, 10] rfl rfl) (Nat.le_of_ble_eq_true rfl) ⟨Nat.zero_le _, Nat.zero_le _⟩ (fun v_ w_ hp_ => ?_)
    obtain ⟨rfl, rfl⟩ := hp_
    refine j_conv (ws' := mV Y h q z sp (zCpy z pa 0 (220 * st)) st ke ik tx ln sn se dn up fa lo to tm so) (jLe.pos [2, 0, 3, 1, 4, 5, 6, 7, 8, 9, 10] rfl rfl) ?_
    show J x 0 0 (mV Y h q z sp (zCpy z pa 0 (220 * st)) st ke ik tx ln sn se dn up fa lo to tm so) 66 [(0, .ref h), (1, .ref (q 0))] []
    refine j_aload_n G 0 dX5_recordRow_66 rfl ?_
    refine j_dup G dX5_recordRow_67 rfl ?_
    refine j_get (q := 3) (C := RX5) (T := TX5) (N := 17) (v := .int (jI st)) G 0 hinX5 dX5_recordRow_68 rfl rfl (by decide) (by decide +kernel) rfl ?_
    refine j_iconst G dX5_recordRow_71 (v := 1) rfl ?_
    refine j_iadd G dX5_recordRow_72 ?_
    refine j_put (q := 3) (C := RX5) (T := TX5) (N := 17) (ws' := mV Y h q z sp (zCpy z pa 0 (220 * st)) (st + 1) ke ik tx ln sn se dn up fa lo to tm so) G 0 hinX5 tyX5 tyX5_ok nmX5 dX5_recordRow_73 rfl rfl (by decide) (by decide +kernel) rfl rfl rfl rfl (Nat.le_of_ble_eq_true rfl) rfl ?_
    exact j_retv G dX5_recordRow_76 (by first | (rw [show paP st pa z = zCpy z pa 0 (220 * st) from if_neg c5, show hUp st = st + 1 from if_pos (by omega)]; exact jLe.rf _) | (rw [show hUp st = st - 1 + 1 from by unfold hUp; rw [if_neg (by omega)]; omega]; exact (mV_zp (fun _ _ _ => rfl) (rec_full c5 (show i = 660 by omega) hp)).le)) kr
  · refine j_iconst G dX5_recordRow_8 (v := 0) rfl ?_
    refine j_istore_n (lv' := [(2, .int (jI 0)), (0, .ref h), (1, .ref (q 0))]) G dX5_recordRow_9 (by decide) rfl ?_
    have lp10 : ∀ (n_ : Nat) (i : Int) (p2 : Int → Int), (0 ≤ i ∧ i ≤ 660) → (∀ j : Int, 0 ≤ j → p2 j = if j < i then pa (j + 220) else pa j) → (660 - i) < (n_ : Int) → J x 0 0 (mV Y h q z sp p2 st ke ik tx ln sn se dn up fa lo to tm so) 10 [(0, .ref h), (1, .ref (q 0)), (2, .int (jI i))] [] := by
      intro n_
      induction n_ with
      | zero =>
        intro i p2 hi hp hm_
        exact absurd hm_ (by omega)
      | succ n_ ih10 =>
        intro i p2 hi hp hm_
        refine j_iload_n G 2 dX5_recordRow_10 rfl ?_
        refine j_sipush G dX5_recordRow_11 (v := 660) rfl ?_
        refine j_icmp_ge (tgt := 39) G dX5_recordRow_14 (by decide) (by omega) (by omega) (fun c14 => ?_) (fun c14 => ?_)
        · refine j_aload_n G 0 dX5_recordRow_39 rfl ?_
          refine j_dup G dX5_recordRow_40 rfl ?_
          refine j_get (q := 3) (C := RX5) (T := TX5) (N := 17) (v := .int (jI st)) G 0 hinX5 dX5_recordRow_41 rfl rfl (by decide) (by decide +kernel) rfl ?_
          refine j_iconst G dX5_recordRow_44 (v := 1) rfl ?_
          refine j_isub G dX5_recordRow_45 ?_
          refine j_put (q := 3) (C := RX5) (T := TX5) (N := 17) (ws' := mV Y h q z sp p2 (st - 1) ke ik tx ln sn se dn up fa lo to tm so) G 0 hinX5 tyX5 tyX5_ok nmX5 dX5_recordRow_46 rfl rfl (by decide) (by decide +kernel) rfl rfl rfl rfl (Nat.le_of_ble_eq_true rfl) rfl ?_
          refine j_aload_n G 1 dX5_recordRow_49 rfl ?_
          refine j_iconst G dX5_recordRow_50 (v := 0) rfl ?_
          refine j_aload_n G 0 dX5_recordRow_51 rfl ?_
          refine j_get (q := 2) (C := RX5) (T := TX5) (N := 17) (v := .ref (q 2)) G 0 hinX5 dX5_recordRow_52 rfl rfl (by decide) (by decide +kernel) rfl ?_
          refine j_sipush G dX5_recordRow_55 (v := 220) rfl ?_
          refine j_aload_n G 0 dX5_recordRow_58 rfl ?_
          refine j_get (q := 3) (C := RX5) (T := TX5) (N := 17) (v := .int (jI (st - 1))) G 0 hinX5 dX5_recordRow_59 rfl rfl (by decide) (by decide +kernel) rfl ?_
          refine j_imul G dX5_recordRow_62 ?_
          refine j_callS (nA := 4) (As := [.ref (q 0), .int (jI 0), .ref (q 2), .int (jI (220 * (st - 1)))]) (st := []) (wc := ([aN Y (q 0) 220 z] ++ ([aN Y (q 2) 880 p2]))) (wr := [ob h 5 [.ref (q 0), .ref (q 1), .ref (q 2), .int (jI (st - 1)), .ref (q 3), .int (jI ik), .ref (q 4), .int (jI ln), .int (jI sn), .int (jI se), .ref (q 5), .ref (q 6), .ref (q 7), .ref (q 8), .ref (q 9), .int (jI tm), .int (jI so)], aN Y (q 1) 220 sp, aN Y (q 3) 220 ke, aN Y (q 4) 60 tx, aN Y (q 5) 64 dn, aN Y (q 6) 64 up, aN Y (q 7) 64 fa, aN Y (q 8) 64 lo, aN Y (q 9) 93 to]) G (c_X5_copyState l D Y (q 0) 220 z (q 2) 880 p2 0 (220 * (st - 1)) (by first | assumption | omega) (by first | assumption | omega)) dX5_recordRow_63 rfl gX5_recordRow_X5_copyState rfl rfl rfl (by decide +kernel) ⟨by decide, by decide⟩ rfl (jLe.pos [1, 3, 0, 2, 4, 5, 6, 7, 8, 9, 10] rfl rfl) (Nat.le_of_ble_eq_true rfl) ⟨Nat.zero_le _, Nat.zero_le _⟩ (fun v_ w_ hp_ => ?_)
          obtain ⟨rfl, rfl⟩ := hp_
          refine j_conv (ws' := mV Y h q z sp (zCpy z p2 0 (220 * (st - 1))) (st - 1) ke ik tx ln sn se dn up fa lo to tm so) (jLe.pos [2, 0, 3, 1, 4, 5, 6, 7, 8, 9, 10] rfl rfl) ?_
          show J x 0 0 (mV Y h q z sp (zCpy z p2 0 (220 * (st - 1))) (st - 1) ke ik tx ln sn se dn up fa lo to tm so) 66 [(0, .ref h), (1, .ref (q 0)), (2, .int (jI i))] []
          refine j_aload_n G 0 dX5_recordRow_66 rfl ?_
          refine j_dup G dX5_recordRow_67 rfl ?_
          refine j_get (q := 3) (C := RX5) (T := TX5) (N := 17) (v := .int (jI (st - 1))) G 0 hinX5 dX5_recordRow_68 rfl rfl (by decide) (by decide +kernel) rfl ?_
          refine j_iconst G dX5_recordRow_71 (v := 1) rfl ?_
          refine j_iadd G dX5_recordRow_72 ?_
          refine j_put (q := 3) (C := RX5) (T := TX5) (N := 17) (ws' := mV Y h q z sp (zCpy z p2 0 (220 * (st - 1))) ((st - 1) + 1) ke ik tx ln sn se dn up fa lo to tm so) G 0 hinX5 tyX5 tyX5_ok nmX5 dX5_recordRow_73 rfl rfl (by decide) (by decide +kernel) rfl rfl rfl rfl (Nat.le_of_ble_eq_true rfl) rfl ?_
          exact j_retv G dX5_recordRow_76 (by first | (rw [show paP st pa z = zCpy z pa 0 (220 * st) from if_neg c5, show hUp st = st + 1 from if_pos (by omega)]; exact jLe.rf _) | (rw [show hUp st = st - 1 + 1 from by unfold hUp; rw [if_neg (by omega)]; omega]; exact (mV_zp (fun _ _ _ => rfl) (rec_full c5 (show i = 660 by omega) hp)).le)) kr
        · refine j_aload_n G 0 dX5_recordRow_17 rfl ?_
          refine j_get (q := 2) (C := RX5) (T := TX5) (N := 17) (v := .ref (q 2)) G 0 hinX5 dX5_recordRow_18 rfl rfl (by decide) (by decide +kernel) rfl ?_
          refine j_iload_n G 2 dX5_recordRow_21 rfl ?_
          refine j_aload_n G 0 dX5_recordRow_22 rfl ?_
          refine j_get (q := 2) (C := RX5) (T := TX5) (N := 17) (v := .ref (q 2)) G 0 hinX5 dX5_recordRow_23 rfl rfl (by decide) (by decide +kernel) rfl ?_
          refine j_iload_n G 2 dX5_recordRow_26 rfl ?_
          refine j_sipush G dX5_recordRow_27 (v := 220) rfl ?_
          refine j_iadd G dX5_recordRow_30 ?_
          refine j_iald (v := p2 (i + 220)) G 3 dX5_recordRow_31 rfl (by omega) rfl ?_
          refine j_iast (ws' := mV Y h q z sp (upZ p2 i (p2 (i + 220))) st ke ik tx ln sn se dn up fa lo to tm so) G 3 dX5_recordRow_32 rfl (by omega) rfl ?_
          refine j_iinc (w := i + 1) (lv' := [(2, .int (jI (i + 1))), (0, .ref h), (1, .ref (q 0))]) G 2 dX5_recordRow_33 rfl rfl (by decide) rfl ?_
          refine j_goto (tgt := 10) G dX5_recordRow_36 (by decide) ?_
          refine j_lv [1, 2, 0] (lv' := [(0, .ref h), (1, .ref (q 0)), (2, .int (jI (i + 1)))]) rfl ?_
          exact ih10 (i + 1) (upZ p2 i (p2 (i + 220))) (by omega) (by exact drop_step hi.1 hp) (by omega)
    refine j_lv [1, 2, 0] (lv' := [(0, .ref h), (1, .ref (q 0)), (2, .int (jI 0))]) rfl ?_
    exact lp10 (Int.toNat ((660 - 0) + 1)) 0 pa (by omega) (by intro j h0; rw [if_neg (by omega)]) (by omega)

set_option maxHeartbeats 4000000 in
set_option maxRecDepth 100000 in
theorem c_X5_recordRowS (l : Launch) (D : va_G) (Y : Nat → ClassId) (h : Nat) (q : Nat → Nat) (z : Int → Int) (sp : Int → Int) (pa : Int → Int) (st : Int) (ke : Int → Int) (ik : Int) (tx : Int → Int) (ln : Int) (sn : Int) (se : Int) (dn : Int → Int) (up : Int → Int) (fa : Int → Int) (lo : Int → Int) (to : Int → Int) (tm : Int) (so : Int) (hst : 0 ≤ st ∧ st ≤ 4) : jM l yX5_recordRow wsX5_recordRow { frames := 1, cells := 0, slots := 0, locals := 24 } D Y [.ref h, .ref (q 1)] (mV Y h q z sp pa st ke ik tx ln sn se dn up fa lo to tm so) (fun v_ w_ => v_ = none ∧ w_ = (mV Y h q z sp (paP st pa sp) (hUp st) ke ik tx ln sn se dn up fa lo to tm so)) 0 0 := by
  refine jM_of (cc := cX5_recordRow) (maxL := 3) (ret := none) (by decide) rfl (Nat.le_of_ble_eq_true rfl) (fun v w' h => Or.inl ⟨rfl, h.1⟩) ?_
  intro x G kr0
  have kr := kr0 _ _ ⟨rfl, rfl⟩
  have G : jG x l D Y cX5_recordRow RX5 wsX5_recordRow 3 ({ frames := 1, cells := 0, slots := 0, locals := 24 } : Room) none "recordRow" := G
  have hinX5 : ∀ w ∈ wsX50, w ∈ wsX5_recordRow := fun _ h => List.mem_cons_of_mem _ (List.mem_append_right _ h)
  show J x 0 0 (mV Y h q z sp pa st ke ik tx ln sn se dn up fa lo to tm so) 0 [(0, .ref h), (1, .ref (q 1))] []
  refine j_aload_n G 0 dX5_recordRow_0 rfl ?_
  refine j_get (q := 3) (C := RX5) (T := TX5) (N := 17) (v := .int (jI st)) G 0 hinX5 dX5_recordRow_1 rfl rfl (by decide) (by decide +kernel) rfl ?_
  refine j_iconst G dX5_recordRow_4 (v := 4) rfl ?_
  refine j_icmp_ne (tgt := 49) G dX5_recordRow_5 (by decide) (by omega) (by omega) (fun c5 => ?_) (fun c5 => ?_)
  · refine j_aload_n G 1 dX5_recordRow_49 rfl ?_
    refine j_iconst G dX5_recordRow_50 (v := 0) rfl ?_
    refine j_aload_n G 0 dX5_recordRow_51 rfl ?_
    refine j_get (q := 2) (C := RX5) (T := TX5) (N := 17) (v := .ref (q 2)) G 0 hinX5 dX5_recordRow_52 rfl rfl (by decide) (by decide +kernel) rfl ?_
    refine j_sipush G dX5_recordRow_55 (v := 220) rfl ?_
    refine j_aload_n G 0 dX5_recordRow_58 rfl ?_
    refine j_get (q := 3) (C := RX5) (T := TX5) (N := 17) (v := .int (jI st)) G 0 hinX5 dX5_recordRow_59 rfl rfl (by decide) (by decide +kernel) rfl ?_
    refine j_imul G dX5_recordRow_62 ?_
    refine j_callS (nA := 4) (As := [.ref (q 1), .int (jI 0), .ref (q 2), .int (jI (220 * st))]) (st := []) (wc := ([aN Y (q 1) 220 sp] ++ ([aN Y (q 2) 880 pa]))) (wr := [ob h 5 [.ref (q 0), .ref (q 1), .ref (q 2), .int (jI st), .ref (q 3), .int (jI ik), .ref (q 4), .int (jI ln), .int (jI sn), .int (jI se), .ref (q 5), .ref (q 6), .ref (q 7), .ref (q 8), .ref (q 9), .int (jI tm), .int (jI so)], aN Y (q 0) 220 z, aN Y (q 3) 220 ke, aN Y (q 4) 60 tx, aN Y (q 5) 64 dn, aN Y (q 6) 64 up, aN Y (q 7) 64 fa, aN Y (q 8) 64 lo, aN Y (q 9) 93 to]) G (c_X5_copyState l D Y (q 1) 220 sp (q 2) 880 pa 0 (220 * st) (by first | assumption | omega) (by first | assumption | omega)) dX5_recordRow_63 rfl gX5_recordRow_X5_copyState rfl rfl rfl (by decide +kernel) ⟨by decide, by decide⟩ rfl (jLe.pos [2, 3, 0, 1, 4, 5, 6, 7, 8, 9, 10] rfl rfl) (Nat.le_of_ble_eq_true rfl) ⟨Nat.zero_le _, Nat.zero_le _⟩ (fun v_ w_ hp_ => ?_)
    obtain ⟨rfl, rfl⟩ := hp_
    refine j_conv (ws' := mV Y h q z sp (zCpy sp pa 0 (220 * st)) st ke ik tx ln sn se dn up fa lo to tm so) (jLe.pos [2, 3, 0, 1, 4, 5, 6, 7, 8, 9, 10] rfl rfl) ?_
    show J x 0 0 (mV Y h q z sp (zCpy sp pa 0 (220 * st)) st ke ik tx ln sn se dn up fa lo to tm so) 66 [(0, .ref h), (1, .ref (q 1))] []
    refine j_aload_n G 0 dX5_recordRow_66 rfl ?_
    refine j_dup G dX5_recordRow_67 rfl ?_
    refine j_get (q := 3) (C := RX5) (T := TX5) (N := 17) (v := .int (jI st)) G 0 hinX5 dX5_recordRow_68 rfl rfl (by decide) (by decide +kernel) rfl ?_
    refine j_iconst G dX5_recordRow_71 (v := 1) rfl ?_
    refine j_iadd G dX5_recordRow_72 ?_
    refine j_put (q := 3) (C := RX5) (T := TX5) (N := 17) (ws' := mV Y h q z sp (zCpy sp pa 0 (220 * st)) (st + 1) ke ik tx ln sn se dn up fa lo to tm so) G 0 hinX5 tyX5 tyX5_ok nmX5 dX5_recordRow_73 rfl rfl (by decide) (by decide +kernel) rfl rfl rfl rfl (Nat.le_of_ble_eq_true rfl) rfl ?_
    exact j_retv G dX5_recordRow_76 (by first | (rw [show paP st pa sp = zCpy sp pa 0 (220 * st) from if_neg c5, show hUp st = st + 1 from if_pos (by omega)]; exact jLe.rf _) | (rw [show hUp st = st - 1 + 1 from by unfold hUp; rw [if_neg (by omega)]; omega]; exact (mV_zp (fun _ _ _ => rfl) (rec_full c5 (show i = 660 by omega) hp)).le)) kr
  · refine j_iconst G dX5_recordRow_8 (v := 0) rfl ?_
    refine j_istore_n (lv' := [(2, .int (jI 0)), (0, .ref h), (1, .ref (q 1))]) G dX5_recordRow_9 (by decide) rfl ?_
    have lp10 : ∀ (n_ : Nat) (i : Int) (p2 : Int → Int), (0 ≤ i ∧ i ≤ 660) → (∀ j : Int, 0 ≤ j → p2 j = if j < i then pa (j + 220) else pa j) → (660 - i) < (n_ : Int) → J x 0 0 (mV Y h q z sp p2 st ke ik tx ln sn se dn up fa lo to tm so) 10 [(0, .ref h), (1, .ref (q 1)), (2, .int (jI i))] [] := by
      intro n_
      induction n_ with
      | zero =>
        intro i p2 hi hp hm_
        exact absurd hm_ (by omega)
      | succ n_ ih10 =>
        intro i p2 hi hp hm_
        refine j_iload_n G 2 dX5_recordRow_10 rfl ?_
        refine j_sipush G dX5_recordRow_11 (v := 660) rfl ?_
        refine j_icmp_ge (tgt := 39) G dX5_recordRow_14 (by decide) (by omega) (by omega) (fun c14 => ?_) (fun c14 => ?_)
        · refine j_aload_n G 0 dX5_recordRow_39 rfl ?_
          refine j_dup G dX5_recordRow_40 rfl ?_
          refine j_get (q := 3) (C := RX5) (T := TX5) (N := 17) (v := .int (jI st)) G 0 hinX5 dX5_recordRow_41 rfl rfl (by decide) (by decide +kernel) rfl ?_
          refine j_iconst G dX5_recordRow_44 (v := 1) rfl ?_
          refine j_isub G dX5_recordRow_45 ?_
          refine j_put (q := 3) (C := RX5) (T := TX5) (N := 17) (ws' := mV Y h q z sp p2 (st - 1) ke ik tx ln sn se dn up fa lo to tm so) G 0 hinX5 tyX5 tyX5_ok nmX5 dX5_recordRow_46 rfl rfl (by decide) (by decide +kernel) rfl rfl rfl rfl (Nat.le_of_ble_eq_true rfl) rfl ?_
          refine j_aload_n G 1 dX5_recordRow_49 rfl ?_
          refine j_iconst G dX5_recordRow_50 (v := 0) rfl ?_
          refine j_aload_n G 0 dX5_recordRow_51 rfl ?_
          refine j_get (q := 2) (C := RX5) (T := TX5) (N := 17) (v := .ref (q 2)) G 0 hinX5 dX5_recordRow_52 rfl rfl (by decide) (by decide +kernel) rfl ?_
          refine j_sipush G dX5_recordRow_55 (v := 220) rfl ?_
          refine j_aload_n G 0 dX5_recordRow_58 rfl ?_
          refine j_get (q := 3) (C := RX5) (T := TX5) (N := 17) (v := .int (jI (st - 1))) G 0 hinX5 dX5_recordRow_59 rfl rfl (by decide) (by decide +kernel) rfl ?_
          refine j_imul G dX5_recordRow_62 ?_
          refine j_callS (nA := 4) (As := [.ref (q 1), .int (jI 0), .ref (q 2), .int (jI (220 * (st - 1)))]) (st := []) (wc := ([aN Y (q 1) 220 sp] ++ ([aN Y (q 2) 880 p2]))) (wr := [ob h 5 [.ref (q 0), .ref (q 1), .ref (q 2), .int (jI (st - 1)), .ref (q 3), .int (jI ik), .ref (q 4), .int (jI ln), .int (jI sn), .int (jI se), .ref (q 5), .ref (q 6), .ref (q 7), .ref (q 8), .ref (q 9), .int (jI tm), .int (jI so)], aN Y (q 0) 220 z, aN Y (q 3) 220 ke, aN Y (q 4) 60 tx, aN Y (q 5) 64 dn, aN Y (q 6) 64 up, aN Y (q 7) 64 fa, aN Y (q 8) 64 lo, aN Y (q 9) 93 to]) G (c_X5_copyState l D Y (q 1) 220 sp (q 2) 880 p2 0 (220 * (st - 1)) (by first | assumption | omega) (by first | assumption | omega)) dX5_recordRow_63 rfl gX5_recordRow_X5_copyState rfl rfl rfl (by decide +kernel) ⟨by decide, by decide⟩ rfl (jLe.pos [2, 3, 0, 1, 4, 5, 6, 7, 8, 9, 10] rfl rfl) (Nat.le_of_ble_eq_true rfl) ⟨Nat.zero_le _, Nat.zero_le _⟩ (fun v_ w_ hp_ => ?_)
          obtain ⟨rfl, rfl⟩ := hp_
          refine j_conv (ws' := mV Y h q z sp (zCpy sp p2 0 (220 * (st - 1))) (st - 1) ke ik tx ln sn se dn up fa lo to tm so) (jLe.pos [2, 3, 0, 1, 4, 5, 6, 7, 8, 9, 10] rfl rfl) ?_
          show J x 0 0 (mV Y h q z sp (zCpy sp p2 0 (220 * (st - 1))) (st - 1) ke ik tx ln sn se dn up fa lo to tm so) 66 [(0, .ref h), (1, .ref (q 1)), (2, .int (jI i))] []
          refine j_aload_n G 0 dX5_recordRow_66 rfl ?_
          refine j_dup G dX5_recordRow_67 rfl ?_
          refine j_get (q := 3) (C := RX5) (T := TX5) (N := 17) (v := .int (jI (st - 1))) G 0 hinX5 dX5_recordRow_68 rfl rfl (by decide) (by decide +kernel) rfl ?_
          refine j_iconst G dX5_recordRow_71 (v := 1) rfl ?_
          refine j_iadd G dX5_recordRow_72 ?_
          refine j_put (q := 3) (C := RX5) (T := TX5) (N := 17) (ws' := mV Y h q z sp (zCpy sp p2 0 (220 * (st - 1))) ((st - 1) + 1) ke ik tx ln sn se dn up fa lo to tm so) G 0 hinX5 tyX5 tyX5_ok nmX5 dX5_recordRow_73 rfl rfl (by decide) (by decide +kernel) rfl rfl rfl rfl (Nat.le_of_ble_eq_true rfl) rfl ?_
          exact j_retv G dX5_recordRow_76 (by first | (rw [show paP st pa sp = zCpy sp pa 0 (220 * st) from if_neg c5, show hUp st = st + 1 from if_pos (by omega)]; exact jLe.rf _) | (rw [show hUp st = st - 1 + 1 from by unfold hUp; rw [if_neg (by omega)]; omega]; exact (mV_zp (fun _ _ _ => rfl) (rec_full c5 (show i = 660 by omega) hp)).le)) kr
        · refine j_aload_n G 0 dX5_recordRow_17 rfl ?_
          refine j_get (q := 2) (C := RX5) (T := TX5) (N := 17) (v := .ref (q 2)) G 0 hinX5 dX5_recordRow_18 rfl rfl (by decide) (by decide +kernel) rfl ?_
          refine j_iload_n G 2 dX5_recordRow_21 rfl ?_
          refine j_aload_n G 0 dX5_recordRow_22 rfl ?_
          refine j_get (q := 2) (C := RX5) (T := TX5) (N := 17) (v := .ref (q 2)) G 0 hinX5 dX5_recordRow_23 rfl rfl (by decide) (by decide +kernel) rfl ?_
          refine j_iload_n G 2 dX5_recordRow_26 rfl ?_
          refine j_sipush G dX5_recordRow_27 (v := 220) rfl ?_
          refine j_iadd G dX5_recordRow_30 ?_
          refine j_iald (v := p2 (i + 220)) G 3 dX5_recordRow_31 rfl (by omega) rfl ?_
          refine j_iast (ws' := mV Y h q z sp (upZ p2 i (p2 (i + 220))) st ke ik tx ln sn se dn up fa lo to tm so) G 3 dX5_recordRow_32 rfl (by omega) rfl ?_
          refine j_iinc (w := i + 1) (lv' := [(2, .int (jI (i + 1))), (0, .ref h), (1, .ref (q 1))]) G 2 dX5_recordRow_33 rfl rfl (by decide) rfl ?_
          refine j_goto (tgt := 10) G dX5_recordRow_36 (by decide) ?_
          refine j_lv [1, 2, 0] (lv' := [(0, .ref h), (1, .ref (q 1)), (2, .int (jI (i + 1)))]) rfl ?_
          exact ih10 (i + 1) (upZ p2 i (p2 (i + 220))) (by omega) (by exact drop_step hi.1 hp) (by omega)
    refine j_lv [1, 2, 0] (lv' := [(0, .ref h), (1, .ref (q 1)), (2, .int (jI 0))]) rfl ?_
    exact lp10 (Int.toNat ((660 - 0) + 1)) 0 pa (by omega) (by intro j h0; rw [if_neg (by omega)]) (by omega)

set_option maxHeartbeats 4000000 in
set_option maxRecDepth 100000 in
theorem c_X5_record (l : Launch) (D : va_G) (Y : Nat → ClassId) (h : Nat) (q : Nat → Nat) (z : Int → Int) (sp : Int → Int) (pa : Int → Int) (st : Int) (ke : Int → Int) (ik : Int) (tx : Int → Int) (ln : Int) (sn : Int) (se : Int) (dn : Int → Int) (up : Int → Int) (fa : Int → Int) (lo : Int → Int) (to : Int → Int) (tm : Int) (so : Int) (hst : 0 ≤ st ∧ st ≤ 4) : jM l yX5_record wsX5_record { frames := 2, cells := 0, slots := 0, locals := 46 } D Y [.ref h] (mV Y h q z sp pa st ke ik tx ln sn se dn up fa lo to tm so) (fun v_ w_ => v_ = none ∧ w_ = (mV Y h q z sp (paP st pa z) (hUp st) ke ik tx ln sn se dn up fa lo to tm so)) 0 0 := by
  refine jM_of (cc := cX5_record) (maxL := 1) (ret := none) (by decide) rfl (Nat.le_of_ble_eq_true rfl) (fun v w' h => Or.inl ⟨rfl, h.1⟩) ?_
  intro x G kr0
  have kr := kr0 _ _ ⟨rfl, rfl⟩
  have G : jG x l D Y cX5_record RX5 wsX5_record 1 ({ frames := 2, cells := 0, slots := 0, locals := 46 } : Room) none "record" := G
  have hinX5 : ∀ w ∈ wsX50, w ∈ wsX5_record := fun _ h => List.mem_cons_of_mem _ (List.mem_append_right _ h)
  show J x 0 0 (mV Y h q z sp pa st ke ik tx ln sn se dn up fa lo to tm so) 0 [(0, .ref h)] []
  refine j_aload_n G 0 dX5_record_0 rfl ?_
  refine j_aload_n G 0 dX5_record_1 rfl ?_
  refine j_get (q := 0) (C := RX5) (T := TX5) (N := 17) (v := .ref (q 0)) G 0 hinX5 dX5_record_2 rfl rfl (by decide) (by decide +kernel) rfl ?_
  refine j_callV (nA := 1) (As := [.ref (q 0)]) (st := []) (wc := (mV Y h q z sp pa st ke ik tx ln sn se dn up fa lo to tm so)) (wr := []) G (c_X5_recordRow l D Y h q z sp pa st ke ik tx ln sn se dn up fa lo to tm so (by first | assumption | omega)) dX5_record_5 rfl gX5_record_X5_recordRow rfl rfl rfl (by decide +kernel) ⟨by decide, by decide⟩ rfl 0 rfl rfl rfl (jLe.nil (jLe.rf _)) (Nat.le_of_ble_eq_true rfl) ⟨Nat.zero_le _, Nat.zero_le _⟩ (fun v_ w_ hp_ => ?_)
  obtain ⟨rfl, rfl⟩ := hp_
  show J x 0 0 (mV Y h q z sp (paP st pa z) (hUp st) ke ik tx ln sn se dn up fa lo to tm so) 8 [(0, .ref h)] []
  exact j_retv G dX5_record_8 (jLe.rf _) kr

set_option maxHeartbeats 4000000 in
set_option maxRecDepth 100000 in
theorem c_X5_undo (l : Launch) (D : va_G) (Y : Nat → ClassId) (h : Nat) (q : Nat → Nat) (z : Int → Int) (sp : Int → Int) (pa : Int → Int) (st : Int) (ke : Int → Int) (ik : Int) (tx : Int → Int) (ln : Int) (sn : Int) (se : Int) (dn : Int → Int) (up : Int → Int) (fa : Int → Int) (lo : Int → Int) (to : Int → Int) (tm : Int) (so : Int) (hst : 0 ≤ st ∧ st ≤ 4) : jM l yX5_undo wsX5_undo { frames := 1, cells := 0, slots := 0, locals := 24 } D Y [.ref h] (mV Y h q z sp pa st ke ik tx ln sn se dn up fa lo to tm so) (fun v_ w_ => v_ = some (.int (jI (if st = 0 then -5 else st - 1))) ∧ w_ = (mV Y h q (if st = 0 then z else zCpy pa z (220 * (st - 1)) 0) sp pa (hDn st) ke ik tx ln sn se dn up fa lo to tm so)) 0 0 := by
  refine jM_of (cc := cX5_undo) (maxL := 1) (ret := (some .int)) (by decide) rfl (Nat.le_of_ble_eq_true rfl) (fun v w' h => Or.inr (Or.inl ⟨_, _, rfl, h.1, rfl⟩)) ?_
  intro x G kr0
  have kr := kr0 _ _ ⟨rfl, rfl⟩
  have G : jG x l D Y cX5_undo RX5 wsX5_undo 1 ({ frames := 1, cells := 0, slots := 0, locals := 24 } : Room) (some .int) "undo" := G
  have hinX5 : ∀ w ∈ wsX50, w ∈ wsX5_undo := fun _ h => List.mem_cons_of_mem _ (List.mem_append_right _ h)
  show J x 0 0 (mV Y h q z sp pa st ke ik tx ln sn se dn up fa lo to tm so) 0 [(0, .ref h)] []
  refine j_aload_n G 0 dX5_undo_0 rfl ?_
  refine j_get (q := 3) (C := RX5) (T := TX5) (N := 17) (v := .int (jI st)) G 0 hinX5 dX5_undo_1 rfl rfl (by decide) (by decide +kernel) rfl ?_
  refine j_if_ne (tgt := 10) G dX5_undo_4 (by decide) (by omega) (fun c4 => ?_) (fun c4 => ?_)
  · refine j_aload_n G 0 dX5_undo_10 rfl ?_
    refine j_dup G dX5_undo_11 rfl ?_
    refine j_get (q := 3) (C := RX5) (T := TX5) (N := 17) (v := .int (jI st)) G 0 hinX5 dX5_undo_12 rfl rfl (by decide) (by decide +kernel) rfl ?_
    refine j_iconst G dX5_undo_15 (v := 1) rfl ?_
    refine j_isub G dX5_undo_16 ?_
    refine j_put (q := 3) (C := RX5) (T := TX5) (N := 17) (ws' := mV Y h q z sp pa (st - 1) ke ik tx ln sn se dn up fa lo to tm so) G 0 hinX5 tyX5 tyX5_ok nmX5 dX5_undo_17 rfl rfl (by decide) (by decide +kernel) rfl rfl rfl rfl (Nat.le_of_ble_eq_true rfl) rfl ?_
    refine j_aload_n G 0 dX5_undo_20 rfl ?_
    refine j_get (q := 2) (C := RX5) (T := TX5) (N := 17) (v := .ref (q 2)) G 0 hinX5 dX5_undo_21 rfl rfl (by decide) (by decide +kernel) rfl ?_
    refine j_sipush G dX5_undo_24 (v := 220) rfl ?_
    refine j_aload_n G 0 dX5_undo_27 rfl ?_
    refine j_get (q := 3) (C := RX5) (T := TX5) (N := 17) (v := .int (jI (st - 1))) G 0 hinX5 dX5_undo_28 rfl rfl (by decide) (by decide +kernel) rfl ?_
    refine j_imul G dX5_undo_31 ?_
    refine j_aload_n G 0 dX5_undo_32 rfl ?_
    refine j_get (q := 0) (C := RX5) (T := TX5) (N := 17) (v := .ref (q 0)) G 0 hinX5 dX5_undo_33 rfl rfl (by decide) (by decide +kernel) rfl ?_
    refine j_iconst G dX5_undo_36 (v := 0) rfl ?_
    refine j_callS (nA := 4) (As := [.ref (q 2), .int (jI (220 * (st - 1))), .ref (q 0), .int (jI 0)]) (st := []) (wc := ([aN Y (q 2) 880 pa] ++ ([aN Y (q 0) 220 z]))) (wr := [ob h 5 [.ref (q 0), .ref (q 1), .ref (q 2), .int (jI (st - 1)), .ref (q 3), .int (jI ik), .ref (q 4), .int (jI ln), .int (jI sn), .int (jI se), .ref (q 5), .ref (q 6), .ref (q 7), .ref (q 8), .ref (q 9), .int (jI tm), .int (jI so)], aN Y (q 1) 220 sp, aN Y (q 3) 220 ke, aN Y (q 4) 60 tx, aN Y (q 5) 64 dn, aN Y (q 6) 64 up, aN Y (q 7) 64 fa, aN Y (q 8) 64 lo, aN Y (q 9) 93 to]) G (c_X5_copyState l D Y (q 2) 880 pa (q 0) 220 z (220 * (st - 1)) 0 (by first | assumption | omega) (by first | assumption | omega)) dX5_undo_37 rfl gX5_undo_X5_copyState rfl rfl rfl (by decide +kernel) ⟨by decide, by decide⟩ rfl (jLe.pos [3, 1, 0, 2, 4, 5, 6, 7, 8, 9, 10] rfl rfl) (Nat.le_of_ble_eq_true rfl) ⟨Nat.zero_le _, Nat.zero_le _⟩ (fun v_ w_ hp_ => ?_)
    obtain ⟨rfl, rfl⟩ := hp_
    refine j_conv (ws' := mV Y h q (zCpy pa z (220 * (st - 1)) 0) sp pa (st - 1) ke ik tx ln sn se dn up fa lo to tm so) (jLe.pos [2, 1, 3, 0, 4, 5, 6, 7, 8, 9, 10] rfl rfl) ?_
    show J x 0 0 (mV Y h q (zCpy pa z (220 * (st - 1)) 0) sp pa (st - 1) ke ik tx ln sn se dn up fa lo to tm so) 40 [(0, .ref h)] []
    refine j_aload_n G 0 dX5_undo_40 rfl ?_
    refine j_get (q := 3) (C := RX5) (T := TX5) (N := 17) (v := .int (jI (st - 1))) G 0 hinX5 dX5_undo_41 rfl rfl (by decide) (by decide +kernel) rfl ?_
    exact j_reti G dX5_undo_44 (by rw [if_neg (by omega)]) (by rw [if_neg (by omega), show hDn st = st - 1 from if_neg (by omega)]; exact jLe.rf _) kr
  · refine j_bipush G dX5_undo_7 (v := (-5)) rfl ?_
    exact j_reti G dX5_undo_9 (by rw [if_pos (by omega)]) (by rw [if_pos (by omega), show hDn st = st from by unfold hDn; split <;> omega]; exact jLe.rf _) kr

set_option maxHeartbeats 4000000 in
set_option maxRecDepth 100000 in
theorem c_X5_keep (l : Launch) (D : va_G) (Y : Nat → ClassId) (h : Nat) (q : Nat → Nat) (z : Int → Int) (sp : Int → Int) (pa : Int → Int) (st : Int) (ke : Int → Int) (ik : Int) (tx : Int → Int) (ln : Int) (sn : Int) (se : Int) (dn : Int → Int) (up : Int → Int) (fa : Int → Int) (lo : Int → Int) (to : Int → Int) (tm : Int) (so : Int)  : jM l yX5_keep wsX5_keep { frames := 1, cells := 0, slots := 0, locals := 24 } D Y [.ref h] (mV Y h q z sp pa st ke ik tx ln sn se dn up fa lo to tm so) (fun v_ w_ => v_ = some (.int (jI (z 3))) ∧ w_ = (mV Y h q z sp pa st (zCpy z ke 0 0) 1 tx ln sn se dn up fa lo to tm so)) 0 0 := by
  refine jM_of (cc := cX5_keep) (maxL := 1) (ret := (some .int)) (by decide) rfl (Nat.le_of_ble_eq_true rfl) (fun v w' h => Or.inr (Or.inl ⟨_, _, rfl, h.1, rfl⟩)) ?_
  intro x G kr0
  have kr := kr0 _ _ ⟨rfl, rfl⟩
  have G : jG x l D Y cX5_keep RX5 wsX5_keep 1 ({ frames := 1, cells := 0, slots := 0, locals := 24 } : Room) (some .int) "keep" := G
  have hinX5 : ∀ w ∈ wsX50, w ∈ wsX5_keep := fun _ h => List.mem_cons_of_mem _ (List.mem_append_right _ h)
  show J x 0 0 (mV Y h q z sp pa st ke ik tx ln sn se dn up fa lo to tm so) 0 [(0, .ref h)] []
  refine j_aload_n G 0 dX5_keep_0 rfl ?_
  refine j_get (q := 0) (C := RX5) (T := TX5) (N := 17) (v := .ref (q 0)) G 0 hinX5 dX5_keep_1 rfl rfl (by decide) (by decide +kernel) rfl ?_
  refine j_iconst G dX5_keep_4 (v := 0) rfl ?_
  refine j_aload_n G 0 dX5_keep_5 rfl ?_
  refine j_get (q := 4) (C := RX5) (T := TX5) (N := 17) (v := .ref (q 3)) G 0 hinX5 dX5_keep_6 rfl rfl (by decide) (by decide +kernel) rfl ?_
  refine j_iconst G dX5_keep_9 (v := 0) rfl ?_
  refine j_callS (nA := 4) (As := [.ref (q 0), .int (jI 0), .ref (q 3), .int (jI 0)]) (st := []) (wc := ([aN Y (q 0) 220 z] ++ ([aN Y (q 3) 220 ke]))) (wr := [ob h 5 [.ref (q 0), .ref (q 1), .ref (q 2), .int (jI st), .ref (q 3), .int (jI ik), .ref (q 4), .int (jI ln), .int (jI sn), .int (jI se), .ref (q 5), .ref (q 6), .ref (q 7), .ref (q 8), .ref (q 9), .int (jI tm), .int (jI so)], aN Y (q 1) 220 sp, aN Y (q 2) 880 pa, aN Y (q 4) 60 tx, aN Y (q 5) 64 dn, aN Y (q 6) 64 up, aN Y (q 7) 64 fa, aN Y (q 8) 64 lo, aN Y (q 9) 93 to]) G (c_X5_copyState l D Y (q 0) 220 z (q 3) 220 ke 0 0 (by first | assumption | omega) (by first | assumption | omega)) dX5_keep_10 rfl gX5_keep_X5_copyState rfl rfl rfl (by decide +kernel) ⟨by decide, by decide⟩ rfl (jLe.pos [1, 4, 0, 2, 3, 5, 6, 7, 8, 9, 10] rfl rfl) (Nat.le_of_ble_eq_true rfl) ⟨Nat.zero_le _, Nat.zero_le _⟩ (fun v_ w_ hp_ => ?_)
  obtain ⟨rfl, rfl⟩ := hp_
  refine j_conv (ws' := mV Y h q z sp pa st (zCpy z ke 0 0) ik tx ln sn se dn up fa lo to tm so) (jLe.pos [2, 0, 3, 4, 1, 5, 6, 7, 8, 9, 10] rfl rfl) ?_
  show J x 0 0 (mV Y h q z sp pa st (zCpy z ke 0 0) ik tx ln sn se dn up fa lo to tm so) 13 [(0, .ref h)] []
  refine j_aload_n G 0 dX5_keep_13 rfl ?_
  refine j_iconst G dX5_keep_14 (v := 1) rfl ?_
  refine j_put (q := 5) (C := RX5) (T := TX5) (N := 17) (ws' := mV Y h q z sp pa st (zCpy z ke 0 0) 1 tx ln sn se dn up fa lo to tm so) G 0 hinX5 tyX5 tyX5_ok nmX5 dX5_keep_15 rfl rfl (by decide) (by decide +kernel) rfl rfl (jI_z (by omega)) (by rfl) (Nat.le_of_ble_eq_true rfl) rfl ?_
  refine j_aload_n G 0 dX5_keep_18 rfl ?_
  refine j_get (q := 0) (C := RX5) (T := TX5) (N := 17) (v := .ref (q 0)) G 0 hinX5 dX5_keep_19 rfl rfl (by decide) (by decide +kernel) rfl ?_
  refine j_iconst G dX5_keep_22 (v := 3) rfl ?_
  refine j_iald (v := z 3) G 1 dX5_keep_23 rfl (by omega) rfl ?_
  exact j_reti G dX5_keep_24 (by first | rfl | omega | exact ite_T (by omega) | exact ite_F (by omega)) (jLe.rf _) kr

set_option maxHeartbeats 4000000 in
set_option maxRecDepth 100000 in
theorem c_X5_restore (l : Launch) (D : va_G) (Y : Nat → ClassId) (h : Nat) (q : Nat → Nat) (z : Int → Int) (sp : Int → Int) (pa : Int → Int) (st : Int) (ke : Int → Int) (ik : Int) (tx : Int → Int) (ln : Int) (sn : Int) (se : Int) (dn : Int → Int) (up : Int → Int) (fa : Int → Int) (lo : Int → Int) (to : Int → Int) (tm : Int) (so : Int) (hst : 0 ≤ st ∧ st ≤ 4) (hik : ik = 0 ∨ ik = 1) : jM l yX5_restore wsX5_restore { frames := 3, cells := 0, slots := 0, locals := 66 } D Y [.ref h] (mV Y h q z sp pa st ke ik tx ln sn se dn up fa lo to tm so) (fun v_ w_ => v_ = some (.int (jI (if ik = 0 then -5 else ke 3))) ∧ w_ = (mV Y h q (if ik = 0 then z else zCpy ke z 0 0) sp (if ik = 0 then pa else paP st pa z) (if ik = 0 then st else hUp st) ke ik tx ln sn se dn up fa lo to tm so)) 0 0 := by
  refine jM_of (cc := cX5_restore) (maxL := 1) (ret := (some .int)) (by decide) rfl (Nat.le_of_ble_eq_true rfl) (fun v w' h => Or.inr (Or.inl ⟨_, _, rfl, h.1, rfl⟩)) ?_
  intro x G kr0
  have kr := kr0 _ _ ⟨rfl, rfl⟩
  have G : jG x l D Y cX5_restore RX5 wsX5_restore 1 ({ frames := 3, cells := 0, slots := 0, locals := 66 } : Room) (some .int) "restore" := G
  have hinX5 : ∀ w ∈ wsX50, w ∈ wsX5_restore := fun _ h => List.mem_cons_of_mem _ (List.mem_append_right _ h)
  show J x 0 0 (mV Y h q z sp pa st ke ik tx ln sn se dn up fa lo to tm so) 0 [(0, .ref h)] []
  refine j_aload_n G 0 dX5_restore_0 rfl ?_
  refine j_get (q := 5) (C := RX5) (T := TX5) (N := 17) (v := .int (jI ik)) G 0 hinX5 dX5_restore_1 rfl rfl (by decide) (by decide +kernel) rfl ?_
  refine j_if_ne (tgt := 10) G dX5_restore_4 (by decide) (by omega) (fun c4 => ?_) (fun c4 => ?_)
  · refine j_aload_n G 0 dX5_restore_10 rfl ?_
    refine j_callV (nA := 0) (As := []) (st := []) (wc := (mV Y h q z sp pa st ke ik tx ln sn se dn up fa lo to tm so)) (wr := []) G (c_X5_record l D Y h q z sp pa st ke ik tx ln sn se dn up fa lo to tm so (by first | assumption | omega)) dX5_restore_11 rfl gX5_restore_X5_record rfl rfl rfl (by decide +kernel) ⟨by decide, by decide⟩ rfl 0 rfl rfl rfl (jLe.nil (jLe.rf _)) (Nat.le_of_ble_eq_true rfl) ⟨Nat.zero_le _, Nat.zero_le _⟩ (fun v_ w_ hp_ => ?_)
    obtain ⟨rfl, rfl⟩ := hp_
    show J x 0 0 (mV Y h q z sp (paP st pa z) (hUp st) ke ik tx ln sn se dn up fa lo to tm so) 14 [(0, .ref h)] []
    refine j_aload_n G 0 dX5_restore_14 rfl ?_
    refine j_get (q := 4) (C := RX5) (T := TX5) (N := 17) (v := .ref (q 3)) G 0 hinX5 dX5_restore_15 rfl rfl (by decide) (by decide +kernel) rfl ?_
    refine j_iconst G dX5_restore_18 (v := 0) rfl ?_
    refine j_aload_n G 0 dX5_restore_19 rfl ?_
    refine j_get (q := 0) (C := RX5) (T := TX5) (N := 17) (v := .ref (q 0)) G 0 hinX5 dX5_restore_20 rfl rfl (by decide) (by decide +kernel) rfl ?_
    refine j_iconst G dX5_restore_23 (v := 0) rfl ?_
    refine j_callS (nA := 4) (As := [.ref (q 3), .int (jI 0), .ref (q 0), .int (jI 0)]) (st := []) (wc := ([aN Y (q 3) 220 ke] ++ ([aN Y (q 0) 220 z]))) (wr := [ob h 5 [.ref (q 0), .ref (q 1), .ref (q 2), .int (jI (hUp st)), .ref (q 3), .int (jI ik), .ref (q 4), .int (jI ln), .int (jI sn), .int (jI se), .ref (q 5), .ref (q 6), .ref (q 7), .ref (q 8), .ref (q 9), .int (jI tm), .int (jI so)], aN Y (q 1) 220 sp, aN Y (q 2) 880 (paP st pa z), aN Y (q 4) 60 tx, aN Y (q 5) 64 dn, aN Y (q 6) 64 up, aN Y (q 7) 64 fa, aN Y (q 8) 64 lo, aN Y (q 9) 93 to]) G (c_X5_copyState l D Y (q 3) 220 ke (q 0) 220 z 0 0 (by first | assumption | omega) (by first | assumption | omega)) dX5_restore_24 rfl gX5_restore_X5_copyState rfl rfl rfl (by decide +kernel) ⟨by decide, by decide⟩ rfl (jLe.pos [4, 1, 0, 2, 3, 5, 6, 7, 8, 9, 10] rfl rfl) (Nat.le_of_ble_eq_true rfl) ⟨Nat.zero_le _, Nat.zero_le _⟩ (fun v_ w_ hp_ => ?_)
    obtain ⟨rfl, rfl⟩ := hp_
    refine j_conv (ws' := mV Y h q (zCpy ke z 0 0) sp (paP st pa z) (hUp st) ke ik tx ln sn se dn up fa lo to tm so) (jLe.pos [2, 1, 3, 4, 0, 5, 6, 7, 8, 9, 10] rfl rfl) ?_
    show J x 0 0 (mV Y h q (zCpy ke z 0 0) sp (paP st pa z) (hUp st) ke ik tx ln sn se dn up fa lo to tm so) 27 [(0, .ref h)] []
    refine j_aload_n G 0 dX5_restore_27 rfl ?_
    refine j_get (q := 0) (C := RX5) (T := TX5) (N := 17) (v := .ref (q 0)) G 0 hinX5 dX5_restore_28 rfl rfl (by decide) (by decide +kernel) rfl ?_
    refine j_iconst G dX5_restore_31 (v := 3) rfl ?_
    refine j_iald (v := (zCpy ke z 0 0) 3) G 1 dX5_restore_32 rfl (by omega) rfl ?_
    exact j_reti G dX5_restore_33 (by rw [if_neg (by omega)]; rfl) (by rw [if_neg (by omega), if_neg (by omega), if_neg (by omega)]; exact jLe.rf _) kr
  · refine j_bipush G dX5_restore_7 (v := (-5)) rfl ?_
    exact j_reti G dX5_restore_9 (by rw [if_pos (by omega)]) (by rw [if_pos (by omega), if_pos (by omega), if_pos (by omega)]; exact jLe.rf _) kr

set_option maxHeartbeats 4000000 in
set_option maxRecDepth 100000 in
theorem c_X5_isOpen (l : Launch) (D : va_G) (Y : Nat → ClassId) (h : Nat) (q : Nat → Nat) (z : Int → Int) (sp : Int → Int) (pa : Int → Int) (st : Int) (ke : Int → Int) (ik : Int) (tx : Int → Int) (ln : Int) (sn : Int) (se : Int) (dn : Int → Int) (up : Int → Int) (fa : Int → Int) (lo : Int → Int) (to : Int → Int) (tm : Int) (so : Int) (p : Int) (hp : 0 ≤ p ∧ p < 64) (ht8 : ∀ r : Int, 0 ≤ r → r < 8 → -2147483648 ≤ z (7 + r) ∧ z (7 + r) < 2147483648) : jM l yX5_isOpen wsX5_isOpen { frames := 0, cells := 0, slots := 0, locals := 0 } D Y [.ref h, .int (jI p)] (mV Y h q z sp pa st ke ik tx ln sn se dn up fa lo to tm so) (fun v_ w_ => v_ = some (.int (jI (if z (7 + p / 8) = -5 ∨ z (7 + p / 8) = p % 8 then 1 else 0))) ∧ w_ = (mV Y h q z sp pa st ke ik tx ln sn se dn up fa lo to tm so)) 0 0 := by
  refine jM_of (cc := cX5_isOpen) (maxL := 3) (ret := (some .boolean)) (by decide) rfl (Nat.le_of_ble_eq_true rfl) (fun v w' h => Or.inr (Or.inl ⟨_, _, rfl, h.1, jI_z (ite_01 _)⟩)) ?_
  intro x G kr0
  have kr := kr0 _ _ ⟨rfl, rfl⟩
  have G : jG x l D Y cX5_isOpen RX5 wsX5_isOpen 3 ({ frames := 0, cells := 0, slots := 0, locals := 0 } : Room) (some .boolean) "isOpen" := G
  have hinX5 : ∀ w ∈ wsX50, w ∈ wsX5_isOpen := fun _ h => List.mem_cons_of_mem _ (List.mem_append_right _ h)
  show J x 0 0 (mV Y h q z sp pa st ke ik tx ln sn se dn up fa lo to tm so) 0 [(0, .ref h), (1, .int (jI p))] []
  refine j_aload_n G 0 dX5_isOpen_0 rfl ?_
  refine j_get (q := 0) (C := RX5) (T := TX5) (N := 17) (v := .ref (q 0)) G 0 hinX5 dX5_isOpen_1 rfl rfl (by decide) (by decide +kernel) rfl ?_
  refine j_bipush G dX5_isOpen_4 (v := 7) rfl ?_
  refine j_iload_n G 1 dX5_isOpen_6 rfl ?_
  refine j_bipush G dX5_isOpen_7 (v := 8) rfl ?_
  refine j_idiv G dX5_isOpen_9 (by omega) (by omega) ?_
  refine j_iadd G dX5_isOpen_10 ?_
  refine j_iald (v := z (7 + (p / 8))) G 1 dX5_isOpen_11 rfl (by omega) rfl ?_
  have f12 := ht8 (p / 8) (by omega) (by omega)
  refine j_istore_n (lv' := [(2, .int (jI (z (7 + (p / 8))))), (0, .ref h), (1, .int (jI p))]) G dX5_isOpen_12 (by decide) rfl ?_
  refine j_iload_n G 0 dX5_isOpen_13 rfl ?_
  refine j_bipush G dX5_isOpen_14 (v := (-5)) rfl ?_
  refine j_icmp_eq (tgt := 27) G dX5_isOpen_16 (by decide) (by omega) (by omega) (fun c16 => ?_) (fun c16 => ?_)
  · refine j_iconst G dX5_isOpen_27 (v := 1) rfl ?_
    refine j_goto (tgt := 32) G dX5_isOpen_28 (by decide) ?_
    exact j_reti G dX5_isOpen_32 (by first | rfl | omega | exact ite_T (by omega) | exact ite_F (by omega)) (jLe.rf _) kr
  · refine j_iload_n G 0 dX5_isOpen_19 rfl ?_
    refine j_iload_n G 2 dX5_isOpen_20 rfl ?_
    refine j_bipush G dX5_isOpen_21 (v := 8) rfl ?_
    refine j_irem G dX5_isOpen_23 (by omega) (by omega) ?_
    refine j_icmp_ne (tgt := 31) G dX5_isOpen_24 (by decide) (by omega) (by omega) (fun c24 => ?_) (fun c24 => ?_)
    · refine j_iconst G dX5_isOpen_31 (v := 0) rfl ?_
      exact j_reti G dX5_isOpen_32 (by first | rfl | omega | exact ite_T (by omega) | exact ite_F (by omega)) (jLe.rf _) kr
    · refine j_iconst G dX5_isOpen_27 (v := 1) rfl ?_
      refine j_goto (tgt := 32) G dX5_isOpen_28 (by decide) ?_
      exact j_reti G dX5_isOpen_32 (by first | rfl | omega | exact ite_T (by omega) | exact ite_F (by omega)) (jLe.rf _) kr

set_option maxHeartbeats 4000000 in
set_option maxRecDepth 100000 in
theorem c_X5_beside (l : Launch) (D : va_G) (Y : Nat → ClassId) (a : Nat) (f : Int → Int) (p : Int) (hp : 0 ≤ p ∧ p < 64) : jM l yX5_beside wsX5_beside { frames := 0, cells := 0, slots := 0, locals := 0 } D Y [.ref a, .int (jI p)] ([aN Y a 64 f]) (fun v_ w_ => v_ = some (.int (jI (pAr f p))) ∧ w_ = ([aN Y a 64 f])) 0 0 := by
  refine jM_of (cc := cX5_beside) (maxL := 3) (ret := (some .int)) (by decide) rfl (Nat.le_of_ble_eq_true rfl) (fun v w' h => Or.inr (Or.inl ⟨_, _, rfl, h.1, rfl⟩)) ?_
  intro x G kr0
  have kr := kr0 _ _ ⟨rfl, rfl⟩
  have G : jG x l D Y cX5_beside RX5 wsX5_beside 3 ({ frames := 0, cells := 0, slots := 0, locals := 0 } : Room) (some .int) "beside" := G
  show J x 0 0 ([aN Y a 64 f]) 0 [(0, .ref a), (1, .int (jI p))] []
  refine j_iload_n G 1 dX5_beside_0 rfl ?_
  refine j_bipush G dX5_beside_1 (v := 8) rfl ?_
  refine j_irem G dX5_beside_3 (by omega) (by omega) ?_
  refine j_istore_n (lv' := [(2, .int (jI (p % 8))), (0, .ref a), (1, .int (jI p))]) G dX5_beside_4 (by decide) rfl ?_
  refine j_aload_n G 1 dX5_beside_5 rfl ?_
  refine j_iload_n G 2 dX5_beside_6 rfl ?_
  refine j_iald (v := f p) G 0 dX5_beside_7 rfl (by omega) rfl ?_
  refine j_iload_n G 0 dX5_beside_8 rfl ?_
  refine j_if_le (tgt := 20) G dX5_beside_9 (by decide) (by omega) (fun c9 => ?_) (fun c9 => ?_)
  · refine j_iconst G dX5_beside_20 (v := 0) rfl ?_
    refine j_iadd G dX5_beside_21 ?_
    refine j_iload_n G 0 dX5_beside_22 rfl ?_
    refine j_bipush G dX5_beside_23 (v := 7) rfl ?_
    refine j_icmp_ge (tgt := 36) G dX5_beside_25 (by decide) (by omega) (by omega) (fun c25 => ?_) (fun c25 => ?_)
    · refine j_iconst G dX5_beside_36 (v := 0) rfl ?_
      refine j_iadd G dX5_beside_37 ?_
      exact j_reti G dX5_beside_38 (by simp only [pAr]; (repeat' split) <;> omega) (jLe.rf _) kr
    · refine j_aload_n G 1 dX5_beside_28 rfl ?_
      refine j_iload_n G 2 dX5_beside_29 rfl ?_
      refine j_iconst G dX5_beside_30 (v := 1) rfl ?_
      refine j_iadd G dX5_beside_31 ?_
      refine j_iald (v := f (p + 1)) G 0 dX5_beside_32 rfl (by omega) rfl ?_
      refine j_goto (tgt := 37) G dX5_beside_33 (by decide) ?_
      refine j_iadd G dX5_beside_37 ?_
      exact j_reti G dX5_beside_38 (by simp only [pAr]; (repeat' split) <;> omega) (jLe.rf _) kr
  · refine j_aload_n G 1 dX5_beside_12 rfl ?_
    refine j_iload_n G 2 dX5_beside_13 rfl ?_
    refine j_iconst G dX5_beside_14 (v := 1) rfl ?_
    refine j_isub G dX5_beside_15 ?_
    refine j_iald (v := f (p - 1)) G 0 dX5_beside_16 rfl (by omega) rfl ?_
    refine j_goto (tgt := 21) G dX5_beside_17 (by decide) ?_
    refine j_iadd G dX5_beside_21 ?_
    refine j_iload_n G 0 dX5_beside_22 rfl ?_
    refine j_bipush G dX5_beside_23 (v := 7) rfl ?_
    refine j_icmp_ge (tgt := 36) G dX5_beside_25 (by decide) (by omega) (by omega) (fun c25 => ?_) (fun c25 => ?_)
    · refine j_iconst G dX5_beside_36 (v := 0) rfl ?_
      refine j_iadd G dX5_beside_37 ?_
      exact j_reti G dX5_beside_38 (by simp only [pAr]; (repeat' split) <;> omega) (jLe.rf _) kr
    · refine j_aload_n G 1 dX5_beside_28 rfl ?_
      refine j_iload_n G 2 dX5_beside_29 rfl ?_
      refine j_iconst G dX5_beside_30 (v := 1) rfl ?_
      refine j_iadd G dX5_beside_31 ?_
      refine j_iald (v := f (p + 1)) G 0 dX5_beside_32 rfl (by omega) rfl ?_
      refine j_goto (tgt := 37) G dX5_beside_33 (by decide) ?_
      refine j_iadd G dX5_beside_37 ?_
      exact j_reti G dX5_beside_38 (by simp only [pAr]; (repeat' split) <;> omega) (jLe.rf _) kr

set_option maxHeartbeats 4000000 in
set_option maxRecDepth 100000 in
theorem c_X5_countPaths (l : Launch) (D : va_G) (Y : Nat → ClassId) (h : Nat) (q : Nat → Nat) (z : Int → Int) (sp : Int → Int) (pa : Int → Int) (st : Int) (ke : Int → Int) (ik : Int) (tx : Int → Int) (ln : Int) (sn : Int) (se : Int) (dn : Int → Int) (up : Int → Int) (fa : Int → Int) (lo : Int → Int) (to : Int → Int) (tm : Int) (so : Int) (ht8 : ∀ r : Int, 0 ≤ r → r < 8 → -2147483648 ≤ z (7 + r) ∧ z (7 + r) < 2147483648) : jM l yX5_countPaths wsX5_countPaths { frames := 1, cells := 0, slots := 0, locals := 22 } D Y [.ref h] (mV Y h q z sp pa st ke ik tx ln sn se dn up fa lo to tm so) (fun v_ w_ => v_ = none ∧ w_ = (mV Y h q z sp pa st ke ik tx ln sn se (pAb (tZ z)) (pBe (tZ z)) fa lo to tm so)) 0 0 := by
  refine jM_of (cc := cX5_countPaths) (maxL := 2) (ret := none) (by decide) rfl (Nat.le_of_ble_eq_true rfl) (fun v w' h => Or.inl ⟨rfl, h.1⟩) ?_
  intro x G kr0
  have kr := kr0 _ _ ⟨rfl, rfl⟩
  have G : jG x l D Y cX5_countPaths RX5 wsX5_countPaths 2 ({ frames := 1, cells := 0, slots := 0, locals := 22 } : Room) none "countPaths" := G
  have hinX5 : ∀ w ∈ wsX50, w ∈ wsX5_countPaths := fun _ h => List.mem_cons_of_mem _ (List.mem_append_right _ h)
  show J x 0 0 (mV Y h q z sp pa st ke ik tx ln sn se dn up fa lo to tm so) 0 [(0, .ref h)] []
  refine j_iconst G dX5_countPaths_0 (v := 0) rfl ?_
  refine j_istore_n (lv' := [(1, .int (jI 0)), (0, .ref h)]) G dX5_countPaths_1 (by decide) rfl ?_
  have lp2 : ∀ (n_ : Nat) (i : Int) (f : Int → Int), (0 ≤ i ∧ i ≤ 64) → (∀ j : Int, 0 ≤ j → j < i → f j = pAb (tZ z) j) → (64 - i) < (n_ : Int) → J x 0 0 (mV Y h q z sp pa st ke ik tx ln sn se f up fa lo to tm so) 2 [(0, .ref h), (1, .int (jI i))] [] := by
    intro n_
    induction n_ with
    | zero =>
      intro i f hi hf hm_
      exact absurd hm_ (by omega)
    | succ n_ ih2 =>
      intro i f hi hf hm_
      refine j_iload_n G 1 dX5_countPaths_2 rfl ?_
      refine j_bipush G dX5_countPaths_3 (v := 64) rfl ?_
      refine j_icmp_ge (tgt := 53) G dX5_countPaths_5 (by decide) (by omega) (by omega) (fun c5 => ?_) (fun c5 => ?_)
      · refine j_bipush G dX5_countPaths_53 (v := 63) rfl ?_
        refine j_istore_n (lv' := [(1, .int (jI 63)), (0, .ref h)]) G dX5_countPaths_55 (by decide) rfl ?_
        have lp56 : ∀ (n_ : Nat) (i : Int) (g : Int → Int), (-1 ≤ i ∧ i ≤ 63) → (∀ j : Int, i < j → j < 64 → g j = pBe (tZ z) j) → (i + 1) < (n_ : Int) → J x 0 0 (mV Y h q z sp pa st ke ik tx ln sn se f g fa lo to tm so) 56 [(0, .ref h), (1, .int (jI i))] [] := by
          intro n_
          induction n_ with
          | zero =>
            intro i g hi hg hm_
            exact absurd hm_ (by omega)
          | succ n_ ih56 =>
            intro i g hi hg hm_
            refine j_iload_n G 1 dX5_countPaths_56 rfl ?_
            refine j_if_lt (tgt := 105) G dX5_countPaths_57 (by decide) (by omega) (fun c57 => ?_) (fun c57 => ?_)
            · exact j_retv G dX5_countPaths_105 ((mV_du (fun j h0 h1 => hf j h0 (by omega)) (fun j h0 h1 => hg j (by omega) (by omega))).le) kr
            · refine j_aload_n G 0 dX5_countPaths_60 rfl ?_
              refine j_get (q := 11) (C := RX5) (T := TX5) (N := 17) (v := .ref (q 6)) G 0 hinX5 dX5_countPaths_61 rfl rfl (by decide) (by decide +kernel) rfl ?_
              refine j_iload_n G 1 dX5_countPaths_64 rfl ?_
              refine j_aload_n G 0 dX5_countPaths_65 rfl ?_
              refine j_iload_n G 1 dX5_countPaths_66 rfl ?_
              refine j_callV (nA := 1) (As := [.int (jI i)]) (st := [.int (jI i), .ref (q 6)]) (wc := (mV Y h q z sp pa st ke ik tx ln sn se f g fa lo to tm so)) (wr := []) G (c_X5_isOpen l D Y h q z sp pa st ke ik tx ln sn se f g fa lo to tm so i (by first | assumption | omega) (by first | assumption | exact hI.tR)) dX5_countPaths_67 rfl gX5_countPaths_X5_isOpen rfl rfl rfl (by decide +kernel) ⟨by decide, by decide⟩ rfl 0 rfl rfl rfl (jLe.nil (jLe.rf _)) (Nat.le_of_ble_eq_true rfl) ⟨Nat.zero_le _, Nat.zero_le _⟩ (fun v_ w_ hp_ => ?_)
              obtain ⟨rfl, rfl⟩ := hp_
              show J x 0 0 (mV Y h q z sp pa st ke ik tx ln sn se f g fa lo to tm so) 70 [(0, .ref h), (1, .int (jI i))] [.int (jI (if z (7 + i / 8) = -5 ∨ z (7 + i / 8) = i % 8 then 1 else 0)), .int (jI i), .ref (q 6)]
              refine j_ifz_ne (tgt := 77) G dX5_countPaths_70 (by decide) (fun c70 => ?_) (fun c70 => ?_)
              · refine j_iload_n G 1 dX5_countPaths_77 rfl ?_
                refine j_bipush G dX5_countPaths_78 (v := 56) rfl ?_
                refine j_icmp_lt (tgt := 87) G dX5_countPaths_80 (by decide) (by omega) (by omega) (fun c80 => ?_) (fun c80 => ?_)
                · refine j_aload_n G 0 dX5_countPaths_87 rfl ?_
                  refine j_get (q := 11) (C := RX5) (T := TX5) (N := 17) (v := .ref (q 6)) G 0 hinX5 dX5_countPaths_88 rfl rfl (by decide) (by decide +kernel) rfl ?_
                  refine j_iload_n G 1 dX5_countPaths_91 rfl ?_
                  refine j_bipush G dX5_countPaths_92 (v := 8) rfl ?_
                  refine j_iadd G dX5_countPaths_94 ?_
                  refine j_callS (nA := 2) (As := [.ref (q 6), .int (jI (i + 8))]) (st := [.int (jI i), .ref (q 6)]) (wc := ([aN Y (q 6) 64 g])) (wr := [ob h 5 [.ref (q 0), .ref (q 1), .ref (q 2), .int (jI st), .ref (q 3), .int (jI ik), .ref (q 4), .int (jI ln), .int (jI sn), .int (jI se), .ref (q 5), .ref (q 6), .ref (q 7), .ref (q 8), .ref (q 9), .int (jI tm), .int (jI so)], aN Y (q 0) 220 z, aN Y (q 1) 220 sp, aN Y (q 2) 880 pa, aN Y (q 3) 220 ke, aN Y (q 4) 60 tx, aN Y (q 5) 64 f, aN Y (q 7) 64 fa, aN Y (q 8) 64 lo, aN Y (q 9) 93 to]) G (c_X5_beside l D Y (q 6) g (i + 8) (by first | assumption | omega)) dX5_countPaths_95 rfl gX5_countPaths_X5_beside rfl rfl rfl (by decide +kernel) ⟨by decide, by decide⟩ rfl (jLe.pos [7, 0, 1, 2, 3, 4, 5, 6, 8, 9, 10] rfl rfl) (Nat.le_of_ble_eq_true rfl) ⟨Nat.zero_le _, Nat.zero_le _⟩ (fun v_ w_ hp_ => ?_)
                  obtain ⟨rfl, rfl⟩ := hp_
                  refine j_conv (ws' := mV Y h q z sp pa st ke ik tx ln sn se f g fa lo to tm so) (jLe.pos [1, 2, 3, 4, 5, 6, 7, 0, 8, 9, 10] rfl rfl) ?_
                  show J x 0 0 (mV Y h q z sp pa st ke ik tx ln sn se f g fa lo to tm so) 98 [(0, .ref h), (1, .int (jI i))] [.int (jI (pAr g (i + 8))), .int (jI i), .ref (q 6)]
                  refine j_iast (ws' := mV Y h q z sp pa st ke ik tx ln sn se f (upZ g i (pAr g (i + 8))) fa lo to tm so) G 7 dX5_countPaths_98 rfl (by omega) rfl ?_
                  refine j_iinc (w := i + (-1)) (lv' := [(1, .int (jI (i + (-1)))), (0, .ref h)]) G 1 dX5_countPaths_99 rfl rfl (by decide) rfl ?_
                  refine j_goto (tgt := 56) G dX5_countPaths_102 (by decide) ?_
                  refine j_lv [1, 0] (lv' := [(0, .ref h), (1, .int (jI (i + (-1))))]) rfl ?_
                  exact ih56 (i + (-1)) (upZ g i (pAr g (i + 8))) (by omega) (by exact upZ_down hg (by first | exact (pBe_no (t := tZ z) (by omega) (by assumption)).symm | exact (pBe_1 (t := tZ z) (by omega) (by assumption)).symm | exact (pAr_congr (hg _ (by omega) (by omega)) (fun _ => hg _ (by omega) (by omega)) (fun _ => hg _ (by omega) (by omega))).trans (pBe_S (t := tZ z) (by omega) (by assumption)).symm)) (by omega)
                · refine j_iconst G dX5_countPaths_83 (v := 1) rfl ?_
                  refine j_goto (tgt := 98) G dX5_countPaths_84 (by decide) ?_
                  refine j_iast (ws' := mV Y h q z sp pa st ke ik tx ln sn se f (upZ g i 1) fa lo to tm so) G 7 dX5_countPaths_98 rfl (by omega) rfl ?_
                  refine j_iinc (w := i + (-1)) (lv' := [(1, .int (jI (i + (-1)))), (0, .ref h)]) G 1 dX5_countPaths_99 rfl rfl (by decide) rfl ?_
                  refine j_goto (tgt := 56) G dX5_countPaths_102 (by decide) ?_
                  refine j_lv [1, 0] (lv' := [(0, .ref h), (1, .int (jI (i + (-1))))]) rfl ?_
                  exact ih56 (i + (-1)) (upZ g i 1) (by omega) (by exact upZ_down hg (by first | exact (pBe_no (t := tZ z) (by omega) (by assumption)).symm | exact (pBe_1 (t := tZ z) (by omega) (by assumption)).symm | exact (pAr_congr (hg _ (by omega) (by omega)) (fun _ => hg _ (by omega) (by omega)) (fun _ => hg _ (by omega) (by omega))).trans (pBe_S (t := tZ z) (by omega) (by assumption)).symm)) (by omega)
              · refine j_iconst G dX5_countPaths_73 (v := 0) rfl ?_
                refine j_goto (tgt := 98) G dX5_countPaths_74 (by decide) ?_
                refine j_iast (ws' := mV Y h q z sp pa st ke ik tx ln sn se f (upZ g i 0) fa lo to tm so) G 7 dX5_countPaths_98 rfl (by omega) rfl ?_
                refine j_iinc (w := i + (-1)) (lv' := [(1, .int (jI (i + (-1)))), (0, .ref h)]) G 1 dX5_countPaths_99 rfl rfl (by decide) rfl ?_
                refine j_goto (tgt := 56) G dX5_countPaths_102 (by decide) ?_
                refine j_lv [1, 0] (lv' := [(0, .ref h), (1, .int (jI (i + (-1))))]) rfl ?_
                exact ih56 (i + (-1)) (upZ g i 0) (by omega) (by exact upZ_down hg (by first | exact (pBe_no (t := tZ z) (by omega) (by assumption)).symm | exact (pBe_1 (t := tZ z) (by omega) (by assumption)).symm | exact (pAr_congr (hg _ (by omega) (by omega)) (fun _ => hg _ (by omega) (by omega)) (fun _ => hg _ (by omega) (by omega))).trans (pBe_S (t := tZ z) (by omega) (by assumption)).symm)) (by omega)
        refine j_lv [1, 0] (lv' := [(0, .ref h), (1, .int (jI 63))]) rfl ?_
        exact lp56 (Int.toNat ((63 + 1) + 1)) 63 up (by omega) (by intro j h0 h1; omega) (by omega)
      · refine j_aload_n G 0 dX5_countPaths_8 rfl ?_
        refine j_get (q := 10) (C := RX5) (T := TX5) (N := 17) (v := .ref (q 5)) G 0 hinX5 dX5_countPaths_9 rfl rfl (by decide) (by decide +kernel) rfl ?_
        refine j_iload_n G 1 dX5_countPaths_12 rfl ?_
        refine j_aload_n G 0 dX5_countPaths_13 rfl ?_
        refine j_iload_n G 1 dX5_countPaths_14 rfl ?_
        refine j_callV (nA := 1) (As := [.int (jI i)]) (st := [.int (jI i), .ref (q 5)]) (wc := (mV Y h q z sp pa st ke ik tx ln sn se f up fa lo to tm so)) (wr := []) G (c_X5_isOpen l D Y h q z sp pa st ke ik tx ln sn se f up fa lo to tm so i (by first | assumption | omega) (by first | assumption | exact hI.tR)) dX5_countPaths_15 rfl gX5_countPaths_X5_isOpen rfl rfl rfl (by decide +kernel) ⟨by decide, by decide⟩ rfl 0 rfl rfl rfl (jLe.nil (jLe.rf _)) (Nat.le_of_ble_eq_true rfl) ⟨Nat.zero_le _, Nat.zero_le _⟩ (fun v_ w_ hp_ => ?_)
        obtain ⟨rfl, rfl⟩ := hp_
        show J x 0 0 (mV Y h q z sp pa st ke ik tx ln sn se f up fa lo to tm so) 18 [(0, .ref h), (1, .int (jI i))] [.int (jI (if z (7 + i / 8) = -5 ∨ z (7 + i / 8) = i % 8 then 1 else 0)), .int (jI i), .ref (q 5)]
        refine j_ifz_ne (tgt := 25) G dX5_countPaths_18 (by decide) (fun c18 => ?_) (fun c18 => ?_)
        · refine j_iload_n G 1 dX5_countPaths_25 rfl ?_
          refine j_bipush G dX5_countPaths_26 (v := 8) rfl ?_
          refine j_icmp_ge (tgt := 35) G dX5_countPaths_28 (by decide) (by omega) (by omega) (fun c28 => ?_) (fun c28 => ?_)
          · refine j_aload_n G 0 dX5_countPaths_35 rfl ?_
            refine j_get (q := 10) (C := RX5) (T := TX5) (N := 17) (v := .ref (q 5)) G 0 hinX5 dX5_countPaths_36 rfl rfl (by decide) (by decide +kernel) rfl ?_
            refine j_iload_n G 1 dX5_countPaths_39 rfl ?_
            refine j_bipush G dX5_countPaths_40 (v := 8) rfl ?_
            refine j_isub G dX5_countPaths_42 ?_
            refine j_callS (nA := 2) (As := [.ref (q 5), .int (jI (i - 8))]) (st := [.int (jI i), .ref (q 5)]) (wc := ([aN Y (q 5) 64 f])) (wr := [ob h 5 [.ref (q 0), .ref (q 1), .ref (q 2), .int (jI st), .ref (q 3), .int (jI ik), .ref (q 4), .int (jI ln), .int (jI sn), .int (jI se), .ref (q 5), .ref (q 6), .ref (q 7), .ref (q 8), .ref (q 9), .int (jI tm), .int (jI so)], aN Y (q 0) 220 z, aN Y (q 1) 220 sp, aN Y (q 2) 880 pa, aN Y (q 3) 220 ke, aN Y (q 4) 60 tx, aN Y (q 6) 64 up, aN Y (q 7) 64 fa, aN Y (q 8) 64 lo, aN Y (q 9) 93 to]) G (c_X5_beside l D Y (q 5) f (i - 8) (by first | assumption | omega)) dX5_countPaths_43 rfl gX5_countPaths_X5_beside rfl rfl rfl (by decide +kernel) ⟨by decide, by decide⟩ rfl (jLe.pos [6, 0, 1, 2, 3, 4, 5, 7, 8, 9, 10] rfl rfl) (Nat.le_of_ble_eq_true rfl) ⟨Nat.zero_le _, Nat.zero_le _⟩ (fun v_ w_ hp_ => ?_)
            obtain ⟨rfl, rfl⟩ := hp_
            refine j_conv (ws' := mV Y h q z sp pa st ke ik tx ln sn se f up fa lo to tm so) (jLe.pos [1, 2, 3, 4, 5, 6, 0, 7, 8, 9, 10] rfl rfl) ?_
            show J x 0 0 (mV Y h q z sp pa st ke ik tx ln sn se f up fa lo to tm so) 46 [(0, .ref h), (1, .int (jI i))] [.int (jI (pAr f (i - 8))), .int (jI i), .ref (q 5)]
            refine j_iast (ws' := mV Y h q z sp pa st ke ik tx ln sn se (upZ f i (pAr f (i - 8))) up fa lo to tm so) G 6 dX5_countPaths_46 rfl (by omega) rfl ?_
            refine j_iinc (w := i + 1) (lv' := [(1, .int (jI (i + 1))), (0, .ref h)]) G 1 dX5_countPaths_47 rfl rfl (by decide) rfl ?_
            refine j_goto (tgt := 2) G dX5_countPaths_50 (by decide) ?_
            refine j_lv [1, 0] (lv' := [(0, .ref h), (1, .int (jI (i + 1)))]) rfl ?_
            exact ih2 (i + 1) (upZ f i (pAr f (i - 8))) (by omega) (by exact upZ_step hf (by first | exact (pAb_no (t := tZ z) (by omega) (by assumption)).symm | exact (pAb_1 (t := tZ z) (by omega) (by assumption)).symm | exact (pAr_congr (hf _ (by omega) (by omega)) (fun _ => hf _ (by omega) (by omega)) (fun _ => hf _ (by omega) (by omega))).trans (pAb_S (t := tZ z) (by omega) (by assumption)).symm)) (by omega)
          · refine j_iconst G dX5_countPaths_31 (v := 1) rfl ?_
            refine j_goto (tgt := 46) G dX5_countPaths_32 (by decide) ?_
            refine j_iast (ws' := mV Y h q z sp pa st ke ik tx ln sn se (upZ f i 1) up fa lo to tm so) G 6 dX5_countPaths_46 rfl (by omega) rfl ?_
            refine j_iinc (w := i + 1) (lv' := [(1, .int (jI (i + 1))), (0, .ref h)]) G 1 dX5_countPaths_47 rfl rfl (by decide) rfl ?_
            refine j_goto (tgt := 2) G dX5_countPaths_50 (by decide) ?_
            refine j_lv [1, 0] (lv' := [(0, .ref h), (1, .int (jI (i + 1)))]) rfl ?_
            exact ih2 (i + 1) (upZ f i 1) (by omega) (by exact upZ_step hf (by first | exact (pAb_no (t := tZ z) (by omega) (by assumption)).symm | exact (pAb_1 (t := tZ z) (by omega) (by assumption)).symm | exact (pAr_congr (hf _ (by omega) (by omega)) (fun _ => hf _ (by omega) (by omega)) (fun _ => hf _ (by omega) (by omega))).trans (pAb_S (t := tZ z) (by omega) (by assumption)).symm)) (by omega)
        · refine j_iconst G dX5_countPaths_21 (v := 0) rfl ?_
          refine j_goto (tgt := 46) G dX5_countPaths_22 (by decide) ?_
          refine j_iast (ws' := mV Y h q z sp pa st ke ik tx ln sn se (upZ f i 0) up fa lo to tm so) G 6 dX5_countPaths_46 rfl (by omega) rfl ?_
          refine j_iinc (w := i + 1) (lv' := [(1, .int (jI (i + 1))), (0, .ref h)]) G 1 dX5_countPaths_47 rfl rfl (by decide) rfl ?_
          refine j_goto (tgt := 2) G dX5_countPaths_50 (by decide) ?_
          refine j_lv [1, 0] (lv' := [(0, .ref h), (1, .int (jI (i + 1)))]) rfl ?_
          exact ih2 (i + 1) (upZ f i 0) (by omega) (by exact upZ_step hf (by first | exact (pAb_no (t := tZ z) (by omega) (by assumption)).symm | exact (pAb_1 (t := tZ z) (by omega) (by assumption)).symm | exact (pAr_congr (hf _ (by omega) (by omega)) (fun _ => hf _ (by omega) (by omega)) (fun _ => hf _ (by omega) (by omega))).trans (pAb_S (t := tZ z) (by omega) (by assumption)).symm)) (by omega)
  refine j_lv [1, 0] (lv' := [(0, .ref h), (1, .int (jI 0))]) rfl ?_
  exact lp2 (Int.toNat ((64 - 0) + 1)) 0 dn (by omega) (by intro j h0 h1; omega) (by omega)

set_option maxHeartbeats 4000000 in
set_option maxRecDepth 100000 in
theorem c_X5_allPaths (l : Launch) (D : va_G) (Y : Nat → ClassId) (h : Nat) (q : Nat → Nat) (z : Int → Int) (sp : Int → Int) (pa : Int → Int) (st : Int) (ke : Int → Int) (ik : Int) (tx : Int → Int) (ln : Int) (sn : Int) (se : Int) (fa : Int → Int) (lo : Int → Int) (to : Int → Int) (tm : Int) (so : Int)  : jM l yX5_allPaths wsX5_allPaths { frames := 0, cells := 0, slots := 0, locals := 0 } D Y [.ref h] (mV Y h q z sp pa st ke ik tx ln sn se (pAb (tZ z)) (pBe (tZ z)) fa lo to tm so) (fun v_ w_ => v_ = some (.int (jI (pAll (tZ z)))) ∧ w_ = (mV Y h q z sp pa st ke ik tx ln sn se (pAb (tZ z)) (pBe (tZ z)) fa lo to tm so)) 0 0 := by
  refine jM_of (cc := cX5_allPaths) (maxL := 3) (ret := (some .int)) (by decide) rfl (Nat.le_of_ble_eq_true rfl) (fun v w' h => Or.inr (Or.inl ⟨_, _, rfl, h.1, rfl⟩)) ?_
  intro x G kr0
  have kr := kr0 _ _ ⟨rfl, rfl⟩
  have G : jG x l D Y cX5_allPaths RX5 wsX5_allPaths 3 ({ frames := 0, cells := 0, slots := 0, locals := 0 } : Room) (some .int) "allPaths" := G
  have hinX5 : ∀ w ∈ wsX50, w ∈ wsX5_allPaths := fun _ h => List.mem_cons_of_mem _ (List.mem_append_right _ h)
  show J x 0 0 (mV Y h q z sp pa st ke ik tx ln sn se (pAb (tZ z)) (pBe (tZ z)) fa lo to tm so) 0 [(0, .ref h)] []
  refine j_iconst G dX5_allPaths_0 (v := 0) rfl ?_
  refine j_istore_n (lv' := [(1, .int (jI 0)), (0, .ref h)]) G dX5_allPaths_1 (by decide) rfl ?_
  refine j_iconst G dX5_allPaths_2 (v := 0) rfl ?_
  refine j_istore_n (lv' := [(2, .int (jI 0)), (1, .int (jI 0)), (0, .ref h)]) G dX5_allPaths_3 (by decide) rfl ?_
  have lp4 : ∀ (n_ : Nat) (i : Int) (s : Int), (0 ≤ i ∧ i ≤ 8) → (s = sumI i.toNat (pBe (tZ z))) → (8 - i) < (n_ : Int) → J x 0 0 (mV Y h q z sp pa st ke ik tx ln sn se (pAb (tZ z)) (pBe (tZ z)) fa lo to tm so) 4 [(0, .ref h), (1, .int (jI s)), (2, .int (jI i))] [] := by
    intro n_
    induction n_ with
    | zero =>
      intro i s hi hs hm_
      exact absurd hm_ (by omega)
    | succ n_ ih4 =>
      intro i s hi hs hm_
      refine j_iload_n G 2 dX5_allPaths_4 rfl ?_
      refine j_bipush G dX5_allPaths_5 (v := 8) rfl ?_
      refine j_icmp_ge (tgt := 25) G dX5_allPaths_7 (by decide) (by omega) (by omega) (fun c7 => ?_) (fun c7 => ?_)
      · refine j_iload_n G 1 dX5_allPaths_25 rfl ?_
        exact j_reti G dX5_allPaths_26 (by rw [hs, show i = 8 by omega]; rfl) (jLe.rf _) kr
      · refine j_iload_n G 1 dX5_allPaths_10 rfl ?_
        refine j_aload_n G 0 dX5_allPaths_11 rfl ?_
        refine j_get (q := 11) (C := RX5) (T := TX5) (N := 17) (v := .ref (q 6)) G 0 hinX5 dX5_allPaths_12 rfl rfl (by decide) (by decide +kernel) rfl ?_
        refine j_iload_n G 2 dX5_allPaths_15 rfl ?_
        refine j_iald (v := (pBe (tZ z)) i) G 7 dX5_allPaths_16 rfl (by omega) rfl ?_
        refine j_iadd G dX5_allPaths_17 ?_
        refine j_istore_n (lv' := [(1, .int (jI (s + ((pBe (tZ z)) i)))), (0, .ref h), (2, .int (jI i))]) G dX5_allPaths_18 (by decide) rfl ?_
        refine j_iinc (w := i + 1) (lv' := [(2, .int (jI (i + 1))), (1, .int (jI (s + ((pBe (tZ z)) i)))), (0, .ref h)]) G 2 dX5_allPaths_19 rfl rfl (by decide) rfl ?_
        refine j_goto (tgt := 4) G dX5_allPaths_22 (by decide) ?_
        refine j_lv [2, 1, 0] (lv' := [(0, .ref h), (1, .int (jI (s + ((pBe (tZ z)) i)))), (2, .int (jI (i + 1)))]) rfl ?_
        exact ih4 (i + 1) (s + ((pBe (tZ z)) i)) (by omega) (by rw [sumI_S hi.1, hs]) (by omega)
  refine j_lv [2, 1, 0] (lv' := [(0, .ref h), (1, .int (jI 0)), (2, .int (jI 0))]) rfl ?_
  exact lp4 (Int.toNat ((8 - 0) + 1)) 0 0 (by omega) (by rfl) (by omega)

set_option maxHeartbeats 4000000 in
set_option maxRecDepth 100000 in
theorem c_X5_paths (l : Launch) (D : va_G) (Y : Nat → ClassId) (h : Nat) (q : Nat → Nat) (z : Int → Int) (sp : Int → Int) (pa : Int → Int) (st : Int) (ke : Int → Int) (ik : Int) (tx : Int → Int) (ln : Int) (sn : Int) (se : Int) (dn : Int → Int) (up : Int → Int) (fa : Int → Int) (lo : Int → Int) (to : Int → Int) (tm : Int) (so : Int) (ht8 : ∀ r : Int, 0 ≤ r → r < 8 → -2147483648 ≤ z (7 + r) ∧ z (7 + r) < 2147483648) : jM l yX5_paths wsX5_paths { frames := 2, cells := 0, slots := 0, locals := 43 } D Y [.ref h] (mV Y h q z sp pa st ke ik tx ln sn se dn up fa lo to tm so) (fun v_ w_ => v_ = some (.int (jI (pAll (tZ z)))) ∧ w_ = (mV Y h q z sp pa st ke ik tx ln sn se (pAb (tZ z)) (pBe (tZ z)) fa lo to tm so)) 0 0 := by
  refine jM_of (cc := cX5_paths) (maxL := 1) (ret := (some .int)) (by decide) rfl (Nat.le_of_ble_eq_true rfl) (fun v w' h => Or.inr (Or.inl ⟨_, _, rfl, h.1, rfl⟩)) ?_
  intro x G kr0
  have kr := kr0 _ _ ⟨rfl, rfl⟩
  have G : jG x l D Y cX5_paths RX5 wsX5_paths 1 ({ frames := 2, cells := 0, slots := 0, locals := 43 } : Room) (some .int) "paths" := G
  show J x 0 0 (mV Y h q z sp pa st ke ik tx ln sn se dn up fa lo to tm so) 0 [(0, .ref h)] []
  refine j_aload_n G 0 dX5_paths_0 rfl ?_
  refine j_callV (nA := 0) (As := []) (st := []) (wc := (mV Y h q z sp pa st ke ik tx ln sn se dn up fa lo to tm so)) (wr := []) G (c_X5_countPaths l D Y h q z sp pa st ke ik tx ln sn se dn up fa lo to tm so (by first | assumption | exact hI.tR)) dX5_paths_1 rfl gX5_paths_X5_countPaths rfl rfl rfl (by decide +kernel) ⟨by decide, by decide⟩ rfl 0 rfl rfl rfl (jLe.nil (jLe.rf _)) (Nat.le_of_ble_eq_true rfl) ⟨Nat.zero_le _, Nat.zero_le _⟩ (fun v_ w_ hp_ => ?_)
  obtain ⟨rfl, rfl⟩ := hp_
  show J x 0 0 (mV Y h q z sp pa st ke ik tx ln sn se (pAb (tZ z)) (pBe (tZ z)) fa lo to tm so) 4 [(0, .ref h)] []
  refine j_aload_n G 0 dX5_paths_4 rfl ?_
  refine j_callV (nA := 0) (As := []) (st := []) (wc := (mV Y h q z sp pa st ke ik tx ln sn se (pAb (tZ z)) (pBe (tZ z)) fa lo to tm so)) (wr := []) G (c_X5_allPaths l D Y h q z sp pa st ke ik tx ln sn se fa lo to tm so ) dX5_paths_5 rfl gX5_paths_X5_allPaths rfl rfl rfl (by decide +kernel) ⟨by decide, by decide⟩ rfl 0 rfl rfl rfl (jLe.nil (jLe.rf _)) (Nat.le_of_ble_eq_true rfl) ⟨Nat.zero_le _, Nat.zero_le _⟩ (fun v_ w_ hp_ => ?_)
  obtain ⟨rfl, rfl⟩ := hp_
  show J x 0 0 (mV Y h q z sp pa st ke ik tx ln sn se (pAb (tZ z)) (pBe (tZ z)) fa lo to tm so) 8 [(0, .ref h)] [.int (jI (pAll (tZ z)))]
  exact j_reti G dX5_paths_8 (by first | rfl | omega | exact ite_T (by omega) | exact ite_F (by omega)) (jLe.rf _) kr

set_option maxHeartbeats 4000000 in
set_option maxRecDepth 100000 in
theorem c_X5_hits (l : Launch) (D : va_G) (Y : Nat → ClassId) (h : Nat) (q : Nat → Nat) (z : Int → Int) (sp : Int → Int) (pa : Int → Int) (st : Int) (ke : Int → Int) (ik : Int) (tx : Int → Int) (ln : Int) (sn : Int) (se : Int) (fa : Int → Int) (lo : Int → Int) (to : Int → Int) (tm : Int) (so : Int) (p : Int) (hp : 0 ≤ p ∧ p < 64) (hs1 : 0 ≤ z 1 ∧ z 1 ≤ 2) : jM l yX5_hits wsX5_hits { frames := 1, cells := 0, slots := 0, locals := 22 } D Y [.ref h, .int (jI p)] (mV Y h q z sp pa st ke ik tx ln sn se (pAb (tZ z)) (pBe (tZ z)) fa lo to tm so) (fun v_ w_ => v_ = some (.int (jI (zHi z (tZ z) p))) ∧ w_ = (mV Y h q z sp pa st ke ik tx ln sn se (pAb (tZ z)) (pBe (tZ z)) fa lo to tm so)) 0 0 := by
  refine jM_of (cc := cX5_hits) (maxL := 5) (ret := (some .int)) (by decide) rfl (Nat.le_of_ble_eq_true rfl) (fun v w' h => Or.inr (Or.inl ⟨_, _, rfl, h.1, rfl⟩)) ?_
  intro x G kr0
  have kr := kr0 _ _ ⟨rfl, rfl⟩
  have G : jG x l D Y cX5_hits RX5 wsX5_hits 5 ({ frames := 1, cells := 0, slots := 0, locals := 22 } : Room) (some .int) "hits" := G
  have hinX5 : ∀ w ∈ wsX50, w ∈ wsX5_hits := fun _ h => List.mem_cons_of_mem _ (List.mem_append_right _ h)
  show J x 0 0 (mV Y h q z sp pa st ke ik tx ln sn se (pAb (tZ z)) (pBe (tZ z)) fa lo to tm so) 0 [(0, .ref h), (1, .int (jI p))] []
  refine j_iconst G dX5_hits_0 (v := 0) rfl ?_
  refine j_istore_n (lv' := [(2, .int (jI 0)), (0, .ref h), (1, .int (jI p))]) G dX5_hits_1 (by decide) rfl ?_
  refine j_iconst G dX5_hits_2 (v := 0) rfl ?_
  refine j_istore_n (lv' := [(3, .int (jI 0)), (2, .int (jI 0)), (0, .ref h), (1, .int (jI p))]) G dX5_hits_3 (by decide) rfl ?_
  have lp4 : ∀ (n_ : Nat) (i : Int) (s : Int), (0 ≤ i ∧ i ≤ 8) → (s = sumI i.toNat (fun c => if -(z 1) ≤ c - p % 8 ∧ c - p % 8 ≤ z 1 then pAb (tZ z) (p / 8 * 8 + c) * pBe (tZ z) (p / 8 * 8 + c) else 0)) → (8 - i) < (n_ : Int) → J x 0 0 (mV Y h q z sp pa st ke ik tx ln sn se (pAb (tZ z)) (pBe (tZ z)) fa lo to tm so) 4 [(0, .ref h), (1, .int (jI p)), (2, .int (jI s)), (3, .int (jI i))] [] := by
    intro n_
    induction n_ with
    | zero =>
      intro i s hi hs hm_
      exact absurd hm_ (by omega)
    | succ n_ ih4 =>
      intro i s hi hs hm_
      refine j_iload_n G 3 dX5_hits_4 rfl ?_
      refine j_bipush G dX5_hits_5 (v := 8) rfl ?_
      refine j_icmp_ge (tgt := 74) G dX5_hits_7 (by decide) (by omega) (by omega) (fun c7 => ?_) (fun c7 => ?_)
      · refine j_iload_n G 2 dX5_hits_74 rfl ?_
        exact j_reti G dX5_hits_75 (by rw [hs, show i = 8 by omega]; rfl) (jLe.rf _) kr
      · refine j_iload_n G 1 dX5_hits_10 rfl ?_
        refine j_bipush G dX5_hits_11 (v := 8) rfl ?_
        refine j_idiv G dX5_hits_13 (by omega) (by omega) ?_
        refine j_bipush G dX5_hits_14 (v := 8) rfl ?_
        refine j_imul G dX5_hits_16 ?_
        refine j_iload_n G 3 dX5_hits_17 rfl ?_
        refine j_iadd G dX5_hits_18 ?_
        refine j_istore (lv' := [(4, .int (jI (((p / 8) * 8) + i))), (0, .ref h), (1, .int (jI p)), (2, .int (jI s)), (3, .int (jI i))]) G dX5_hits_19 (by decide) rfl ?_
        refine j_iload_n G 3 dX5_hits_21 rfl ?_
        refine j_iload_n G 4 dX5_hits_22 rfl ?_
        refine j_iload_n G 2 dX5_hits_23 rfl ?_
        refine j_bipush G dX5_hits_24 (v := 8) rfl ?_
        refine j_irem G dX5_hits_26 (by omega) (by omega) ?_
        refine j_isub G dX5_hits_27 ?_
        refine j_aload_n G 1 dX5_hits_28 rfl ?_
        refine j_get (q := 0) (C := RX5) (T := TX5) (N := 17) (v := .ref (q 0)) G 0 hinX5 dX5_hits_29 rfl rfl (by decide) (by decide +kernel) rfl ?_
        refine j_iconst G dX5_hits_32 (v := 1) rfl ?_
        refine j_iald (v := z 1) G 1 dX5_hits_33 rfl (by omega) rfl ?_
        refine j_ineg G dX5_hits_34 ?_
        refine j_aload_n G 1 dX5_hits_35 rfl ?_
        refine j_get (q := 0) (C := RX5) (T := TX5) (N := 17) (v := .ref (q 0)) G 0 hinX5 dX5_hits_36 rfl rfl (by decide) (by decide +kernel) rfl ?_
        refine j_iconst G dX5_hits_39 (v := 1) rfl ?_
        refine j_iald (v := z 1) G 1 dX5_hits_40 rfl (by omega) rfl ?_
        refine j_callS (nA := 3) (As := [.int (jI (i - (p % 8))), .int (jI (-(z 1))), .int (jI (z 1))]) (st := [.int (jI s)]) (wc := []) (wr := (mV Y h q z sp pa st ke ik tx ln sn se (pAb (tZ z)) (pBe (tZ z)) fa lo to tm so)) G (c_X5_in l D Y (i - (p % 8)) (-(z 1)) (z 1) (by first | assumption | omega) (by first | assumption | omega) (by first | assumption | omega)) dX5_hits_41 rfl gX5_hits_X5_in rfl rfl rfl (by decide +kernel) ⟨by decide, by decide⟩ rfl (jLe.rf _) (Nat.le_of_ble_eq_true rfl) ⟨Nat.zero_le _, Nat.zero_le _⟩ (fun v_ w_ hp_ => ?_)
        obtain ⟨rfl, rfl⟩ := hp_
        show J x 0 0 (mV Y h q z sp pa st ke ik tx ln sn se (pAb (tZ z)) (pBe (tZ z)) fa lo to tm so) 44 [(4, .int (jI (((p / 8) * 8) + i))), (0, .ref h), (1, .int (jI p)), (2, .int (jI s)), (3, .int (jI i))] [.int (jI (if (-(z 1)) ≤ (i - (p % 8)) ∧ (i - (p % 8)) ≤ (z 1) then 1 else 0)), .int (jI s)]
        refine j_ifz_eq (tgt := 65) G dX5_hits_44 (by decide) (fun c44 => ?_) (fun c44 => ?_)
        · refine j_iconst G dX5_hits_65 (v := 0) rfl ?_
          refine j_iadd G dX5_hits_66 ?_
          refine j_istore_n (lv' := [(2, .int (jI (s + 0))), (4, .int (jI (((p / 8) * 8) + i))), (0, .ref h), (1, .int (jI p)), (3, .int (jI i))]) G dX5_hits_67 (by decide) rfl ?_
          refine j_iinc (w := i + 1) (lv' := [(3, .int (jI (i + 1))), (2, .int (jI (s + 0))), (4, .int (jI (((p / 8) * 8) + i))), (0, .ref h), (1, .int (jI p))]) G 4 dX5_hits_68 rfl rfl (by decide) rfl ?_
          refine j_goto (tgt := 4) G dX5_hits_71 (by decide) ?_
          refine j_lv [3, 4, 1, 0] (lv' := [(0, .ref h), (1, .int (jI p)), (2, .int (jI (s + 0))), (3, .int (jI (i + 1)))]) rfl ?_
          exact ih4 (i + 1) (s + 0) (by omega) (by rw [sumI_S hi.1, hs]; first | rw [if_pos (by omega)] | rw [if_neg (by omega)] | (rw [if_neg (by omega)]; omega)) (by omega)
        · refine j_aload_n G 1 dX5_hits_47 rfl ?_
          refine j_get (q := 10) (C := RX5) (T := TX5) (N := 17) (v := .ref (q 5)) G 0 hinX5 dX5_hits_48 rfl rfl (by decide) (by decide +kernel) rfl ?_
          refine j_iload G 0 dX5_hits_51 rfl ?_
          refine j_iald (v := (pAb (tZ z)) (((p / 8) * 8) + i)) G 6 dX5_hits_53 rfl (by omega) rfl ?_
          refine j_aload_n G 1 dX5_hits_54 rfl ?_
          refine j_get (q := 11) (C := RX5) (T := TX5) (N := 17) (v := .ref (q 6)) G 0 hinX5 dX5_hits_55 rfl rfl (by decide) (by decide +kernel) rfl ?_
          refine j_iload G 0 dX5_hits_58 rfl ?_
          refine j_iald (v := (pBe (tZ z)) (((p / 8) * 8) + i)) G 7 dX5_hits_60 rfl (by omega) rfl ?_
          refine j_imul G dX5_hits_61 ?_
          refine j_goto (tgt := 66) G dX5_hits_62 (by decide) ?_
          refine j_iadd G dX5_hits_66 ?_
          refine j_istore_n (lv' := [(2, .int (jI (s + (((pAb (tZ z)) (((p / 8) * 8) + i)) * ((pBe (tZ z)) (((p / 8) * 8) + i)))))), (4, .int (jI (((p / 8) * 8) + i))), (0, .ref h), (1, .int (jI p)), (3, .int (jI i))]) G dX5_hits_67 (by decide) rfl ?_
          refine j_iinc (w := i + 1) (lv' := [(3, .int (jI (i + 1))), (2, .int (jI (s + (((pAb (tZ z)) (((p / 8) * 8) + i)) * ((pBe (tZ z)) (((p / 8) * 8) + i)))))), (4, .int (jI (((p / 8) * 8) + i))), (0, .ref h), (1, .int (jI p))]) G 4 dX5_hits_68 rfl rfl (by decide) rfl ?_
          refine j_goto (tgt := 4) G dX5_hits_71 (by decide) ?_
          refine j_lv [3, 4, 1, 0] (lv' := [(0, .ref h), (1, .int (jI p)), (2, .int (jI (s + (((pAb (tZ z)) (((p / 8) * 8) + i)) * ((pBe (tZ z)) (((p / 8) * 8) + i)))))), (3, .int (jI (i + 1)))]) rfl ?_
          exact ih4 (i + 1) (s + (((pAb (tZ z)) (((p / 8) * 8) + i)) * ((pBe (tZ z)) (((p / 8) * 8) + i)))) (by omega) (by rw [sumI_S hi.1, hs]; first | rw [if_pos (by omega)] | rw [if_neg (by omega)] | (rw [if_neg (by omega)]; omega)) (by omega)
  refine j_lv [2, 3, 1, 0] (lv' := [(0, .ref h), (1, .int (jI p)), (2, .int (jI 0)), (3, .int (jI 0))]) rfl ?_
  exact lp4 (Int.toNat ((8 - 0) + 1)) 0 0 (by omega) (by rfl) (by omega)

set_option maxHeartbeats 4000000 in
set_option maxRecDepth 100000 in
theorem c_X5_standsToLose (l : Launch) (D : va_G) (Y : Nat → ClassId) (h : Nat) (q : Nat → Nat) (z : Int → Int) (sp : Int → Int) (pa : Int → Int) (st : Int) (ke : Int → Int) (ik : Int) (tx : Int → Int) (ln : Int) (sn : Int) (se : Int) (fa : Int → Int) (lo : Int → Int) (to : Int → Int) (tm : Int) (so : Int) (p : Int) (hI : Inv z) (hp : 0 ≤ p ∧ p < 64) : jM l yX5_standsToLose wsX5_standsToLose { frames := 2, cells := 0, slots := 0, locals := 46 } D Y [.ref h, .int (jI p)] (mV Y h q z sp pa st ke ik tx ln sn se (pAb (tZ z)) (pBe (tZ z)) fa lo to tm so) (fun v_ w_ => v_ = some (.int (jI (zLo z (tZ z) p))) ∧ w_ = (mV Y h q z sp pa st ke ik tx ln sn se (pAb (tZ z)) (pBe (tZ z)) fa lo to tm so)) 0 0 := by
  refine jM_of (cc := cX5_standsToLose) (maxL := 2) (ret := (some .int)) (by decide) rfl (Nat.le_of_ble_eq_true rfl) (fun v w' h => Or.inr (Or.inl ⟨_, _, rfl, h.1, rfl⟩)) ?_
  intro x G kr0
  have kr := kr0 _ _ ⟨rfl, rfl⟩
  have G : jG x l D Y cX5_standsToLose RX5 wsX5_standsToLose 2 ({ frames := 2, cells := 0, slots := 0, locals := 46 } : Room) (some .int) "standsToLose" := G
  have hinX5 : ∀ w ∈ wsX50, w ∈ wsX5_standsToLose := fun _ h => List.mem_cons_of_mem _ (List.mem_append_right _ h)
  have f0 := pAll_b (tZ z)
  have f00 := hI.pa
  have f1 := hI.wo p hp.1 hp.2
  have f2 := zLo_m (tZ z) hI hp
  have f3 : 0 ≤ zHi z (tZ z) p ∧ zHi z (tZ z) p ≤ 17496 := pHi_b (tZ z) (z 1) hp
  have f4 := zLo_b (tZ z) hI hI.pa hp
  have f5 : zLo z (tZ z) p = z (28 + p) * zHi z (tZ z) p / pAll (tZ z) := rfl
  show J x 0 0 (mV Y h q z sp pa st ke ik tx ln sn se (pAb (tZ z)) (pBe (tZ z)) fa lo to tm so) 0 [(0, .ref h), (1, .int (jI p))] []
  refine j_aload_n G 0 dX5_standsToLose_0 rfl ?_
  refine j_get (q := 0) (C := RX5) (T := TX5) (N := 17) (v := .ref (q 0)) G 0 hinX5 dX5_standsToLose_1 rfl rfl (by decide) (by decide +kernel) rfl ?_
  refine j_bipush G dX5_standsToLose_4 (v := 28) rfl ?_
  refine j_iload_n G 1 dX5_standsToLose_6 rfl ?_
  refine j_iadd G dX5_standsToLose_7 ?_
  refine j_iald (v := z (28 + p)) G 1 dX5_standsToLose_8 rfl (by omega) rfl ?_
  refine j_i2l G dX5_standsToLose_9 (by omega) ?_
  refine j_aload_n G 0 dX5_standsToLose_10 rfl ?_
  refine j_iload_n G 1 dX5_standsToLose_11 rfl ?_
  refine j_callV (nA := 1) (As := [.int (jI p)]) (st := [.long (jL (z (28 + p)))]) (wc := (mV Y h q z sp pa st ke ik tx ln sn se (pAb (tZ z)) (pBe (tZ z)) fa lo to tm so)) (wr := []) G (c_X5_hits l D Y h q z sp pa st ke ik tx ln sn se fa lo to tm so p (by first | assumption | omega) (by first | assumption | exact hI.s1)) dX5_standsToLose_12 rfl gX5_standsToLose_X5_hits rfl rfl rfl (by decide +kernel) ⟨by decide, by decide⟩ rfl 0 rfl rfl rfl (jLe.nil (jLe.rf _)) (Nat.le_of_ble_eq_true rfl) ⟨Nat.zero_le _, Nat.zero_le _⟩ (fun v_ w_ hp_ => ?_)
  obtain ⟨rfl, rfl⟩ := hp_
  show J x 0 0 (mV Y h q z sp pa st ke ik tx ln sn se (pAb (tZ z)) (pBe (tZ z)) fa lo to tm so) 15 [(0, .ref h), (1, .int (jI p))] [.int (jI (zHi z (tZ z) p)), .long (jL (z (28 + p)))]
  refine j_i2l G dX5_standsToLose_15 (by omega) ?_
  refine j_lmul G dX5_standsToLose_16 ?_
  refine j_aload_n G 0 dX5_standsToLose_17 rfl ?_
  refine j_callV (nA := 0) (As := []) (st := [.long (jL ((z (28 + p)) * (zHi z (tZ z) p)))]) (wc := (mV Y h q z sp pa st ke ik tx ln sn se (pAb (tZ z)) (pBe (tZ z)) fa lo to tm so)) (wr := []) G (c_X5_allPaths l D Y h q z sp pa st ke ik tx ln sn se fa lo to tm so ) dX5_standsToLose_18 rfl gX5_standsToLose_X5_allPaths rfl rfl rfl (by decide +kernel) ⟨by decide, by decide⟩ rfl 0 rfl rfl rfl (jLe.nil (jLe.rf _)) (Nat.le_of_ble_eq_true rfl) ⟨Nat.zero_le _, Nat.zero_le _⟩ (fun v_ w_ hp_ => ?_)
  obtain ⟨rfl, rfl⟩ := hp_
  show J x 0 0 (mV Y h q z sp pa st ke ik tx ln sn se (pAb (tZ z)) (pBe (tZ z)) fa lo to tm so) 21 [(0, .ref h), (1, .int (jI p))] [.int (jI (pAll (tZ z))), .long (jL ((z (28 + p)) * (zHi z (tZ z) p)))]
  refine j_i2l G dX5_standsToLose_21 (by omega) ?_
  refine j_ldiv G dX5_standsToLose_22 (by omega) (by omega) ?_
  refine j_l2i G dX5_standsToLose_23 (by omega) ?_
  exact j_reti G dX5_standsToLose_24 (by rfl) (jLe.rf _) kr

set_option maxHeartbeats 4000000 in
set_option maxRecDepth 100000 in
theorem c_X5_enters (l : Launch) (D : va_G) (Y : Nat → ClassId) (h : Nat) (q : Nat → Nat) (z : Int → Int) (sp : Int → Int) (pa : Int → Int) (st : Int) (ke : Int → Int) (ik : Int) (tx : Int → Int) (ln : Int) (sn : Int) (se : Int) (dn : Int → Int) (up : Int → Int) (fa : Int → Int) (lo : Int → Int) (to : Int → Int) (tm : Int) (so : Int) (p : Int) (hI : Inv z) (hp : 0 ≤ p ∧ p < 64) : jM l yX5_enters wsX5_enters { frames := 0, cells := 0, slots := 0, locals := 0 } D Y [.ref h, .int (jI p)] (mV Y h q z sp pa st ke ik tx ln sn se dn up fa lo to tm so) (fun v_ w_ => v_ = some (.int (jI (1 + z 92 / 3))) ∧ w_ = (mV Y h q z sp pa st ke ik tx ln sn se dn up fa lo to tm so)) 0 0 := by
  refine jM_of (cc := cX5_enters) (maxL := 2) (ret := (some .int)) (by decide) rfl (Nat.le_of_ble_eq_true rfl) (fun v w' h => Or.inr (Or.inl ⟨_, _, rfl, h.1, rfl⟩)) ?_
  intro x G kr0
  have kr := kr0 _ _ ⟨rfl, rfl⟩
  have G : jG x l D Y cX5_enters RX5 wsX5_enters 2 ({ frames := 0, cells := 0, slots := 0, locals := 0 } : Room) (some .int) "enters" := G
  have hinX5 : ∀ w ∈ wsX50, w ∈ wsX5_enters := fun _ h => List.mem_cons_of_mem _ (List.mem_append_right _ h)
  have f0 := hI.mp p hp.1 hp.2
  have f1 := hI.mu
  show J x 0 0 (mV Y h q z sp pa st ke ik tx ln sn se dn up fa lo to tm so) 0 [(0, .ref h), (1, .int (jI p))] []
  refine j_iconst G dX5_enters_0 (v := 1) rfl ?_
  refine j_aload_n G 0 dX5_enters_1 rfl ?_
  refine j_get (q := 0) (C := RX5) (T := TX5) (N := 17) (v := .ref (q 0)) G 0 hinX5 dX5_enters_2 rfl rfl (by decide) (by decide +kernel) rfl ?_
  refine j_bipush G dX5_enters_5 (v := 92) rfl ?_
  refine j_iload_n G 1 dX5_enters_7 rfl ?_
  refine j_iadd G dX5_enters_8 ?_
  refine j_iald (v := z (92 + p)) G 1 dX5_enters_9 rfl (by omega) rfl ?_
  refine j_iconst G dX5_enters_10 (v := 3) rfl ?_
  refine j_idiv G dX5_enters_11 (by omega) (by omega) ?_
  refine j_iadd G dX5_enters_12 ?_
  exact j_reti G dX5_enters_13 (by rw [f0]) (jLe.rf _) kr

set_option maxHeartbeats 4000000 in
set_option maxRecDepth 100000 in
theorem c_X5_nearer (l : Launch) (D : va_G) (Y : Nat → ClassId) (h : Nat) (q : Nat → Nat) (z : Int → Int) (sp : Int → Int) (pa : Int → Int) (st : Int) (ke : Int → Int) (ik : Int) (tx : Int → Int) (ln : Int) (sn : Int) (se : Int) (dn : Int → Int) (up : Int → Int) (fa : Int → Int) (lo : Int → Int) (to : Int → Int) (tm : Int) (so : Int) (p : Int) (p2 : Int) (hI : Inv z) (hp : 0 ≤ p ∧ p < 64) (hp2 : 0 ≤ p2 ∧ p2 < 64) (hf1 : 0 ≤ fa p ∧ fa p ≤ 100000) (hf2 : 0 ≤ fa p2 ∧ fa p2 ≤ 100000) : jM l yX5_nearer wsX5_nearer { frames := 1, cells := 0, slots := 0, locals := 21 } D Y [.ref h, .int (jI p), .int (jI p2)] (mV Y h q z sp pa st ke ik tx ln sn se dn up fa lo to tm so) (fun v_ w_ => v_ = some (.int (jI (if fa p2 + (1 + z 92 / 3) < fa p then 1 else 0))) ∧ w_ = (mV Y h q z sp pa st ke ik tx ln sn se dn up (if fa p2 + (1 + z 92 / 3) < fa p then upZ fa p (fa p2 + (1 + z 92 / 3)) else fa) lo to tm so)) 0 0 := by
  refine jM_of (cc := cX5_nearer) (maxL := 5) (ret := (some .boolean)) (by decide) rfl (Nat.le_of_ble_eq_true rfl) (fun v w' h => Or.inr (Or.inl ⟨_, _, rfl, h.1, jI_z (ite_01 _)⟩)) ?_
  intro x G kr0
  have kr := kr0 _ _ ⟨rfl, rfl⟩
  have G : jG x l D Y cX5_nearer RX5 wsX5_nearer 5 ({ frames := 1, cells := 0, slots := 0, locals := 21 } : Room) (some .boolean) "nearer" := G
  have hinX5 : ∀ w ∈ wsX50, w ∈ wsX5_nearer := fun _ h => List.mem_cons_of_mem _ (List.mem_append_right _ h)
  have f1 := hI.mu
  show J x 0 0 (mV Y h q z sp pa st ke ik tx ln sn se dn up fa lo to tm so) 0 [(0, .ref h), (1, .int (jI p)), (2, .int (jI p2))] []
  refine j_aload_n G 0 dX5_nearer_0 rfl ?_
  refine j_get (q := 12) (C := RX5) (T := TX5) (N := 17) (v := .ref (q 7)) G 0 hinX5 dX5_nearer_1 rfl rfl (by decide) (by decide +kernel) rfl ?_
  refine j_iload_n G 2 dX5_nearer_4 rfl ?_
  refine j_iald (v := fa p2) G 8 dX5_nearer_5 rfl (by omega) rfl ?_
  refine j_aload_n G 0 dX5_nearer_6 rfl ?_
  refine j_iload_n G 1 dX5_nearer_7 rfl ?_
  refine j_callV (nA := 1) (As := [.int (jI p)]) (st := [.int (jI (fa p2))]) (wc := (mV Y h q z sp pa st ke ik tx ln sn se dn up fa lo to tm so)) (wr := []) G (c_X5_enters l D Y h q z sp pa st ke ik tx ln sn se dn up fa lo to tm so p (by first | assumption | omega) (by first | assumption | omega)) dX5_nearer_8 rfl gX5_nearer_X5_enters rfl rfl rfl (by decide +kernel) ⟨by decide, by decide⟩ rfl 0 rfl rfl rfl (jLe.nil (jLe.rf _)) (Nat.le_of_ble_eq_true rfl) ⟨Nat.zero_le _, Nat.zero_le _⟩ (fun v_ w_ hp_ => ?_)
  obtain ⟨rfl, rfl⟩ := hp_
  show J x 0 0 (mV Y h q z sp pa st ke ik tx ln sn se dn up fa lo to tm so) 11 [(0, .ref h), (1, .int (jI p)), (2, .int (jI p2))] [.int (jI (1 + z 92 / 3)), .int (jI (fa p2))]
  refine j_iadd G dX5_nearer_11 ?_
  refine j_istore_n (lv' := [(3, .int (jI ((fa p2) + (1 + z 92 / 3)))), (0, .ref h), (1, .int (jI p)), (2, .int (jI p2))]) G dX5_nearer_12 (by decide) rfl ?_
  refine j_iload_n G 0 dX5_nearer_13 rfl ?_
  refine j_aload_n G 1 dX5_nearer_14 rfl ?_
  refine j_get (q := 12) (C := RX5) (T := TX5) (N := 17) (v := .ref (q 7)) G 0 hinX5 dX5_nearer_15 rfl rfl (by decide) (by decide +kernel) rfl ?_
  refine j_iload_n G 2 dX5_nearer_18 rfl ?_
  refine j_iald (v := fa p) G 8 dX5_nearer_19 rfl (by omega) rfl ?_
  refine j_icmp_ge (tgt := 27) G dX5_nearer_20 (by decide) (by omega) (by omega) (fun c20 => ?_) (fun c20 => ?_)
  · refine j_iconst G dX5_nearer_27 (v := 0) rfl ?_
    refine j_istore (lv' := [(4, .int (jI 0)), (3, .int (jI ((fa p2) + (1 + z 92 / 3)))), (0, .ref h), (1, .int (jI p)), (2, .int (jI p2))]) G dX5_nearer_28 (by decide) rfl ?_
    refine j_aload_n G 2 dX5_nearer_30 rfl ?_
    refine j_get (q := 12) (C := RX5) (T := TX5) (N := 17) (v := .ref (q 7)) G 0 hinX5 dX5_nearer_31 rfl rfl (by decide) (by decide +kernel) rfl ?_
    refine j_iload_n G 3 dX5_nearer_34 rfl ?_
    refine j_iload G 0 dX5_nearer_35 rfl ?_
    refine j_if_eq (tgt := 44) G dX5_nearer_37 (by decide) (by omega) (fun c37 => ?_) (fun c37 => absurd c37 (by omega))
    refine j_aload_n G 2 dX5_nearer_44 rfl ?_
    refine j_get (q := 12) (C := RX5) (T := TX5) (N := 17) (v := .ref (q 7)) G 0 hinX5 dX5_nearer_45 rfl rfl (by decide) (by decide +kernel) rfl ?_
    refine j_iload_n G 3 dX5_nearer_48 rfl ?_
    refine j_iald (v := fa p) G 8 dX5_nearer_49 rfl (by omega) rfl ?_
    refine j_iast (ws' := mV Y h q z sp pa st ke ik tx ln sn se dn up (upZ fa p (fa p)) lo to tm so) G 8 dX5_nearer_50 rfl (by omega) rfl ?_
    refine j_iload G 0 dX5_nearer_51 rfl ?_
    exact j_reti G dX5_nearer_53 (by first | exact (if_pos (by omega)).symm | exact (if_neg (by omega)).symm) (by first | (rw [if_pos (by omega)]; exact jLe.rf _) | (rw [if_neg (by omega)]; exact (mV_fa (fun j h0 h1 => by unfold upZ; split <;> first | rfl | (rename_i e; rw [e]))).le)) kr
  · refine j_iconst G dX5_nearer_23 (v := 1) rfl ?_
    refine j_goto (tgt := 28) G dX5_nearer_24 (by decide) ?_
    refine j_istore (lv' := [(4, .int (jI 1)), (3, .int (jI ((fa p2) + (1 + z 92 / 3)))), (0, .ref h), (1, .int (jI p)), (2, .int (jI p2))]) G dX5_nearer_28 (by decide) rfl ?_
    refine j_aload_n G 2 dX5_nearer_30 rfl ?_
    refine j_get (q := 12) (C := RX5) (T := TX5) (N := 17) (v := .ref (q 7)) G 0 hinX5 dX5_nearer_31 rfl rfl (by decide) (by decide +kernel) rfl ?_
    refine j_iload_n G 3 dX5_nearer_34 rfl ?_
    refine j_iload G 0 dX5_nearer_35 rfl ?_
    refine j_if_eq (tgt := 44) G dX5_nearer_37 (by decide) (by omega) (fun c37 => absurd c37 (by omega)) (fun c37 => ?_)
    refine j_iload_n G 1 dX5_nearer_40 rfl ?_
    refine j_goto (tgt := 50) G dX5_nearer_41 (by decide) ?_
    refine j_iast (ws' := mV Y h q z sp pa st ke ik tx ln sn se dn up (upZ fa p ((fa p2) + (1 + z 92 / 3))) lo to tm so) G 8 dX5_nearer_50 rfl (by omega) rfl ?_
    refine j_iload G 0 dX5_nearer_51 rfl ?_
    exact j_reti G dX5_nearer_53 (by first | exact (if_pos (by omega)).symm | exact (if_neg (by omega)).symm) (by first | (rw [if_pos (by omega)]; exact jLe.rf _) | (rw [if_neg (by omega)]; exact (mV_fa (fun j h0 h1 => by unfold upZ; split <;> first | rfl | (rename_i e; rw [e]))).le)) kr

set_option maxHeartbeats 4000000 in
set_option maxRecDepth 100000 in
theorem c_X5_getsNearer (l : Launch) (D : va_G) (Y : Nat → ClassId) (h : Nat) (q : Nat → Nat) (z : Int → Int) (sp : Int → Int) (pa : Int → Int) (st : Int) (ke : Int → Int) (ik : Int) (tx : Int → Int) (ln : Int) (sn : Int) (se : Int) (dn : Int → Int) (up : Int → Int) (fa : Int → Int) (lo : Int → Int) (to : Int → Int) (tm : Int) (so : Int) (p : Int) (f0 : Int) (hI : Inv z) (hp : 0 ≤ p ∧ p < 64) (hf : 0 ≤ f0 ∧ f0 < 64) (hN : Near z f0 fa) : jM l yX5_getsNearer wsX5_getsNearer { frames := 2, cells := 0, slots := 0, locals := 45 } D Y [.ref h, .int (jI p)] (mV Y h q z sp pa st ke ik tx ln sn se dn up fa lo to tm so) (fun v_ w_ => ∃ (f2 : Int → Int) (s2 : Int), v_ = some (.int (jI (if ¬ s2 = 0 then 1 else 0))) ∧ w_ = (mV Y h q z sp pa st ke ik tx ln sn se dn up f2 lo to tm so) ∧ (Near z f0 f2 ∧ Seen z fa f2 s2 p [p + 8, p - 8, p + 1, p - 1])) 0 0 := by
  refine jM_of (cc := cX5_getsNearer) (maxL := 6) (ret := (some .boolean)) (by decide) rfl (Nat.le_of_ble_eq_true rfl) (fun v w' h => by obtain ⟨_, _, h⟩ := h; exact Or.inr (Or.inl ⟨_, _, rfl, h.1, jI_z (ite_01 _)⟩)) ?_
  intro x G kr0
  have G : jG x l D Y cX5_getsNearer RX5 wsX5_getsNearer 6 ({ frames := 2, cells := 0, slots := 0, locals := 45 } : Room) (some .boolean) "getsNearer" := G
  show J x 0 0 (mV Y h q z sp pa st ke ik tx ln sn se dn up fa lo to tm so) 0 [(0, .ref h), (1, .int (jI p))] []
  have lp24 : ∀ (a1 : Int) (g1 : Int → Int), (a1 = 0 ∨ a1 = 1) → (Near z f0 g1) → (Seen z fa g1 (a1) p [p - 1]) → J x 0 0 (mV Y h q z sp pa st ke ik tx ln sn se dn up g1 lo to tm so) 24 [(0, .ref h), (1, .int (jI p)), (2, .int (jI a1))] [] := by
    intro a1 g1 hb1 hN1 hS1
    have lp50 : ∀ (a2 : Int) (g2 : Int → Int), (a2 = 0 ∨ a2 = 1) → (Near z f0 g2) → (Seen z fa g2 (a1 + a2) p [p + 1, p - 1]) → J x 0 0 (mV Y h q z sp pa st ke ik tx ln sn se dn up g2 lo to tm so) 50 [(0, .ref h), (1, .int (jI p)), (2, .int (jI a1)), (3, .int (jI a2))] [] := by
      intro a2 g2 hb2 hN2 hS2
      have lp75 : ∀ (a3 : Int) (g3 : Int → Int), (a3 = 0 ∨ a3 = 1) → (Near z f0 g3) → (Seen z fa g3 (a1 + a2 + a3) p [p - 8, p + 1, p - 1]) → J x 0 0 (mV Y h q z sp pa st ke ik tx ln sn se dn up g3 lo to tm so) 75 [(0, .ref h), (1, .int (jI p)), (2, .int (jI a1)), (3, .int (jI a2)), (4, .int (jI a3))] [] := by
        intro a3 g3 hb3 hN3 hS3
        have lp100 : ∀ (a4 : Int) (g4 : Int → Int), (a4 = 0 ∨ a4 = 1) → (Near z f0 g4) → (Seen z fa g4 (a1 + a2 + a3 + a4) p [p + 8, p - 8, p + 1, p - 1]) → J x 0 0 (mV Y h q z sp pa st ke ik tx ln sn se dn up g4 lo to tm so) 100 [(0, .ref h), (1, .int (jI p)), (2, .int (jI a1)), (3, .int (jI a2)), (4, .int (jI a3)), (5, .int (jI a4))] [] := by
          intro a4 g4 hb4 hN4 hS4
          have k1 := hS1.1
          have k2 := hS2.1
          have k3 := hS3.1
          have k4 := hS4.1
          refine j_iload_n G 2 dX5_getsNearer_100 rfl ?_
          refine j_if_ne (tgt := 118) G dX5_getsNearer_101 (by decide) (by omega) (fun c101 => ?_) (fun c101 => ?_)
          · refine j_iconst G dX5_getsNearer_118 (v := 1) rfl ?_
            refine j_goto (tgt := 123) G dX5_getsNearer_119 (by decide) ?_
            exact j_reti G dX5_getsNearer_123 (by first | rfl | omega | exact ite_T (by omega) | exact ite_F (by omega)) (jLe.rf _) (kr0 _ _ ⟨g4, a1 + a2 + a3 + a4, rfl, rfl, ⟨hN4, hS4⟩⟩)
          · refine j_iload_n G 3 dX5_getsNearer_104 rfl ?_
            refine j_if_ne (tgt := 118) G dX5_getsNearer_105 (by decide) (by omega) (fun c105 => ?_) (fun c105 => ?_)
            · refine j_iconst G dX5_getsNearer_118 (v := 1) rfl ?_
              refine j_goto (tgt := 123) G dX5_getsNearer_119 (by decide) ?_
              exact j_reti G dX5_getsNearer_123 (by first | rfl | omega | exact ite_T (by omega) | exact ite_F (by omega)) (jLe.rf _) (kr0 _ _ ⟨g4, a1 + a2 + a3 + a4, rfl, rfl, ⟨hN4, hS4⟩⟩)
            · refine j_iload G 4 dX5_getsNearer_108 rfl ?_
              refine j_if_ne (tgt := 118) G dX5_getsNearer_110 (by decide) (by omega) (fun c110 => ?_) (fun c110 => ?_)
              · refine j_iconst G dX5_getsNearer_118 (v := 1) rfl ?_
                refine j_goto (tgt := 123) G dX5_getsNearer_119 (by decide) ?_
                exact j_reti G dX5_getsNearer_123 (by first | rfl | omega | exact ite_T (by omega) | exact ite_F (by omega)) (jLe.rf _) (kr0 _ _ ⟨g4, a1 + a2 + a3 + a4, rfl, rfl, ⟨hN4, hS4⟩⟩)
              · refine j_iload G 5 dX5_getsNearer_113 rfl ?_
                refine j_if_eq (tgt := 122) G dX5_getsNearer_115 (by decide) (by omega) (fun c115 => ?_) (fun c115 => ?_)
                · refine j_iconst G dX5_getsNearer_122 (v := 0) rfl ?_
                  exact j_reti G dX5_getsNearer_123 (by first | rfl | omega | exact ite_T (by omega) | exact ite_F (by omega)) (jLe.rf _) (kr0 _ _ ⟨g4, a1 + a2 + a3 + a4, rfl, rfl, ⟨hN4, hS4⟩⟩)
                · refine j_iconst G dX5_getsNearer_118 (v := 1) rfl ?_
                  refine j_goto (tgt := 123) G dX5_getsNearer_119 (by decide) ?_
                  exact j_reti G dX5_getsNearer_123 (by first | rfl | omega | exact ite_T (by omega) | exact ite_F (by omega)) (jLe.rf _) (kr0 _ _ ⟨g4, a1 + a2 + a3 + a4, rfl, rfl, ⟨hN4, hS4⟩⟩)
        refine j_iload_n G 1 dX5_getsNearer_75 rfl ?_
        refine j_bipush G dX5_getsNearer_76 (v := 56) rfl ?_
        refine j_icmp_ge (tgt := 97) G dX5_getsNearer_78 (by decide) (by omega) (by omega) (fun c78 => ?_) (fun c78 => ?_)
        · refine j_iconst G dX5_getsNearer_97 (v := 0) rfl ?_
          refine j_istore (lv' := [(5, .int (jI 0)), (0, .ref h), (1, .int (jI p)), (2, .int (jI a1)), (3, .int (jI a2)), (4, .int (jI a3))]) G dX5_getsNearer_98 (by decide) rfl ?_
          refine j_lv [1, 2, 3, 4, 5, 0] (lv' := [(0, .ref h), (1, .int (jI p)), (2, .int (jI a1)), (3, .int (jI a2)), (4, .int (jI a3)), (5, .int (jI 0))]) rfl ?_
          exact lp100 0 g3 (by omega) (by first | exact hN3 | (rw [if_pos c90]; exact (Near.step hI.mu hf hp (show nb p (p + 8) by unfold nb; omega) hN3 c90).1) | (rw [if_neg c90]; exact hN3)) (by first | exact Seen.no (s := a1 + a2 + a3) (q := p + 8) hS3 (by unfold nb; omega) | (rw [if_pos c90]; exact Seen.cut (s := a1 + a2 + a3) (q := p + 8) hS3 (Near.step hI.mu hf hp (show nb p (p + 8) by unfold nb; omega) hN3 c90).2) | (rw [if_neg c90]; exact Seen.keep (s := a1 + a2 + a3) (q := p + 8) hS3 hp (show nb p (p + 8) by unfold nb; omega) c90))
        · refine j_aload_n G 0 dX5_getsNearer_81 rfl ?_
          refine j_iload_n G 1 dX5_getsNearer_82 rfl ?_
          refine j_iload_n G 1 dX5_getsNearer_83 rfl ?_
          refine j_bipush G dX5_getsNearer_84 (v := 8) rfl ?_
          refine j_iadd G dX5_getsNearer_86 ?_
          refine j_callV (nA := 2) (As := [.int (jI p), .int (jI (p + 8))]) (st := []) (wc := (mV Y h q z sp pa st ke ik tx ln sn se dn up g3 lo to tm so)) (wr := []) G (c_X5_nearer l D Y h q z sp pa st ke ik tx ln sn se dn up g3 lo to tm so p (p + 8) (by first | assumption | omega) (by first | assumption | omega) (by first | assumption | omega) (by have e1 := hN3.1 p hp.1 hp.2; have e2 := zW2_b hI.mu hf hp; omega) (by have e1 := hN3.1 (p + 8) (by omega) (by omega); have e2 := zW2_b hI.mu hf (p := p + 8) (by omega); omega)) dX5_getsNearer_87 rfl gX5_getsNearer_X5_nearer rfl rfl rfl (by decide +kernel) ⟨by decide, by decide⟩ rfl 0 rfl rfl rfl (jLe.nil (jLe.rf _)) (Nat.le_of_ble_eq_true rfl) ⟨Nat.zero_le _, Nat.zero_le _⟩ (fun v_ w_ hp_ => ?_)
          obtain ⟨rfl, rfl⟩ := hp_
          show J x 0 0 (mV Y h q z sp pa st ke ik tx ln sn se dn up (if g3 (p + 8) + (1 + z 92 / 3) < g3 p then upZ g3 p (g3 (p + 8) + (1 + z 92 / 3)) else g3) lo to tm so) 90 [(0, .ref h), (1, .int (jI p)), (2, .int (jI a1)), (3, .int (jI a2)), (4, .int (jI a3))] [.int (jI (if g3 (p + 8) + (1 + z 92 / 3) < g3 p then 1 else 0))]
          refine j_ifz_eq (tgt := 97) G dX5_getsNearer_90 (by decide) (fun c90 => ?_) (fun c90 => ?_)
          · refine j_iconst G dX5_getsNearer_97 (v := 0) rfl ?_
            refine j_istore (lv' := [(5, .int (jI 0)), (0, .ref h), (1, .int (jI p)), (2, .int (jI a1)), (3, .int (jI a2)), (4, .int (jI a3))]) G dX5_getsNearer_98 (by decide) rfl ?_
            refine j_lv [1, 2, 3, 4, 5, 0] (lv' := [(0, .ref h), (1, .int (jI p)), (2, .int (jI a1)), (3, .int (jI a2)), (4, .int (jI a3)), (5, .int (jI 0))]) rfl ?_
            exact lp100 0 (if g3 (p + 8) + (1 + z 92 / 3) < g3 p then upZ g3 p (g3 (p + 8) + (1 + z 92 / 3)) else g3) (by omega) (by first | exact hN3 | (rw [if_pos c90]; exact (Near.step hI.mu hf hp (show nb p (p + 8) by unfold nb; omega) hN3 c90).1) | (rw [if_neg c90]; exact hN3)) (by first | exact Seen.no (s := a1 + a2 + a3) (q := p + 8) hS3 (by unfold nb; omega) | (rw [if_pos c90]; exact Seen.cut (s := a1 + a2 + a3) (q := p + 8) hS3 (Near.step hI.mu hf hp (show nb p (p + 8) by unfold nb; omega) hN3 c90).2) | (rw [if_neg c90]; exact Seen.keep (s := a1 + a2 + a3) (q := p + 8) hS3 hp (show nb p (p + 8) by unfold nb; omega) c90))
          · refine j_iconst G dX5_getsNearer_93 (v := 1) rfl ?_
            refine j_goto (tgt := 98) G dX5_getsNearer_94 (by decide) ?_
            refine j_istore (lv' := [(5, .int (jI 1)), (0, .ref h), (1, .int (jI p)), (2, .int (jI a1)), (3, .int (jI a2)), (4, .int (jI a3))]) G dX5_getsNearer_98 (by decide) rfl ?_
            refine j_lv [1, 2, 3, 4, 5, 0] (lv' := [(0, .ref h), (1, .int (jI p)), (2, .int (jI a1)), (3, .int (jI a2)), (4, .int (jI a3)), (5, .int (jI 1))]) rfl ?_
            exact lp100 1 (if g3 (p + 8) + (1 + z 92 / 3) < g3 p then upZ g3 p (g3 (p + 8) + (1 + z 92 / 3)) else g3) (by omega) (by first | exact hN3 | (rw [if_pos c90]; exact (Near.step hI.mu hf hp (show nb p (p + 8) by unfold nb; omega) hN3 c90).1) | (rw [if_neg c90]; exact hN3)) (by first | exact Seen.no (s := a1 + a2 + a3) (q := p + 8) hS3 (by unfold nb; omega) | (rw [if_pos c90]; exact Seen.cut (s := a1 + a2 + a3) (q := p + 8) hS3 (Near.step hI.mu hf hp (show nb p (p + 8) by unfold nb; omega) hN3 c90).2) | (rw [if_neg c90]; exact Seen.keep (s := a1 + a2 + a3) (q := p + 8) hS3 hp (show nb p (p + 8) by unfold nb; omega) c90))
      refine j_iload_n G 1 dX5_getsNearer_50 rfl ?_
      refine j_bipush G dX5_getsNearer_51 (v := 8) rfl ?_
      refine j_icmp_lt (tgt := 72) G dX5_getsNearer_53 (by decide) (by omega) (by omega) (fun c53 => ?_) (fun c53 => ?_)
      · refine j_iconst G dX5_getsNearer_72 (v := 0) rfl ?_
        refine j_istore (lv' := [(4, .int (jI 0)), (0, .ref h), (1, .int (jI p)), (2, .int (jI a1)), (3, .int (jI a2))]) G dX5_getsNearer_73 (by decide) rfl ?_
        refine j_lv [1, 2, 3, 4, 0] (lv' := [(0, .ref h), (1, .int (jI p)), (2, .int (jI a1)), (3, .int (jI a2)), (4, .int (jI 0))]) rfl ?_
        exact lp75 0 g2 (by omega) (by first | exact hN2 | (rw [if_pos c65]; exact (Near.step hI.mu hf hp (show nb p (p - 8) by unfold nb; omega) hN2 c65).1) | (rw [if_neg c65]; exact hN2)) (by first | exact Seen.no (s := a1 + a2) (q := p - 8) hS2 (by unfold nb; omega) | (rw [if_pos c65]; exact Seen.cut (s := a1 + a2) (q := p - 8) hS2 (Near.step hI.mu hf hp (show nb p (p - 8) by unfold nb; omega) hN2 c65).2) | (rw [if_neg c65]; exact Seen.keep (s := a1 + a2) (q := p - 8) hS2 hp (show nb p (p - 8) by unfold nb; omega) c65))
      · refine j_aload_n G 0 dX5_getsNearer_56 rfl ?_
        refine j_iload_n G 1 dX5_getsNearer_57 rfl ?_
        refine j_iload_n G 1 dX5_getsNearer_58 rfl ?_
        refine j_bipush G dX5_getsNearer_59 (v := 8) rfl ?_
        refine j_isub G dX5_getsNearer_61 ?_
        refine j_callV (nA := 2) (As := [.int (jI p), .int (jI (p - 8))]) (st := []) (wc := (mV Y h q z sp pa st ke ik tx ln sn se dn up g2 lo to tm so)) (wr := []) G (c_X5_nearer l D Y h q z sp pa st ke ik tx ln sn se dn up g2 lo to tm so p (p - 8) (by first | assumption | omega) (by first | assumption | omega) (by first | assumption | omega) (by have e1 := hN2.1 p hp.1 hp.2; have e2 := zW2_b hI.mu hf hp; omega) (by have e1 := hN2.1 (p - 8) (by omega) (by omega); have e2 := zW2_b hI.mu hf (p := p - 8) (by omega); omega)) dX5_getsNearer_62 rfl gX5_getsNearer_X5_nearer rfl rfl rfl (by decide +kernel) ⟨by decide, by decide⟩ rfl 0 rfl rfl rfl (jLe.nil (jLe.rf _)) (Nat.le_of_ble_eq_true rfl) ⟨Nat.zero_le _, Nat.zero_le _⟩ (fun v_ w_ hp_ => ?_)
        obtain ⟨rfl, rfl⟩ := hp_
        show J x 0 0 (mV Y h q z sp pa st ke ik tx ln sn se dn up (if g2 (p - 8) + (1 + z 92 / 3) < g2 p then upZ g2 p (g2 (p - 8) + (1 + z 92 / 3)) else g2) lo to tm so) 65 [(0, .ref h), (1, .int (jI p)), (2, .int (jI a1)), (3, .int (jI a2))] [.int (jI (if g2 (p - 8) + (1 + z 92 / 3) < g2 p then 1 else 0))]
        refine j_ifz_eq (tgt := 72) G dX5_getsNearer_65 (by decide) (fun c65 => ?_) (fun c65 => ?_)
        · refine j_iconst G dX5_getsNearer_72 (v := 0) rfl ?_
          refine j_istore (lv' := [(4, .int (jI 0)), (0, .ref h), (1, .int (jI p)), (2, .int (jI a1)), (3, .int (jI a2))]) G dX5_getsNearer_73 (by decide) rfl ?_
          refine j_lv [1, 2, 3, 4, 0] (lv' := [(0, .ref h), (1, .int (jI p)), (2, .int (jI a1)), (3, .int (jI a2)), (4, .int (jI 0))]) rfl ?_
          exact lp75 0 (if g2 (p - 8) + (1 + z 92 / 3) < g2 p then upZ g2 p (g2 (p - 8) + (1 + z 92 / 3)) else g2) (by omega) (by first | exact hN2 | (rw [if_pos c65]; exact (Near.step hI.mu hf hp (show nb p (p - 8) by unfold nb; omega) hN2 c65).1) | (rw [if_neg c65]; exact hN2)) (by first | exact Seen.no (s := a1 + a2) (q := p - 8) hS2 (by unfold nb; omega) | (rw [if_pos c65]; exact Seen.cut (s := a1 + a2) (q := p - 8) hS2 (Near.step hI.mu hf hp (show nb p (p - 8) by unfold nb; omega) hN2 c65).2) | (rw [if_neg c65]; exact Seen.keep (s := a1 + a2) (q := p - 8) hS2 hp (show nb p (p - 8) by unfold nb; omega) c65))
        · refine j_iconst G dX5_getsNearer_68 (v := 1) rfl ?_
          refine j_goto (tgt := 73) G dX5_getsNearer_69 (by decide) ?_
          refine j_istore (lv' := [(4, .int (jI 1)), (0, .ref h), (1, .int (jI p)), (2, .int (jI a1)), (3, .int (jI a2))]) G dX5_getsNearer_73 (by decide) rfl ?_
          refine j_lv [1, 2, 3, 4, 0] (lv' := [(0, .ref h), (1, .int (jI p)), (2, .int (jI a1)), (3, .int (jI a2)), (4, .int (jI 1))]) rfl ?_
          exact lp75 1 (if g2 (p - 8) + (1 + z 92 / 3) < g2 p then upZ g2 p (g2 (p - 8) + (1 + z 92 / 3)) else g2) (by omega) (by first | exact hN2 | (rw [if_pos c65]; exact (Near.step hI.mu hf hp (show nb p (p - 8) by unfold nb; omega) hN2 c65).1) | (rw [if_neg c65]; exact hN2)) (by first | exact Seen.no (s := a1 + a2) (q := p - 8) hS2 (by unfold nb; omega) | (rw [if_pos c65]; exact Seen.cut (s := a1 + a2) (q := p - 8) hS2 (Near.step hI.mu hf hp (show nb p (p - 8) by unfold nb; omega) hN2 c65).2) | (rw [if_neg c65]; exact Seen.keep (s := a1 + a2) (q := p - 8) hS2 hp (show nb p (p - 8) by unfold nb; omega) c65))
    refine j_iload_n G 1 dX5_getsNearer_24 rfl ?_
    refine j_bipush G dX5_getsNearer_25 (v := 8) rfl ?_
    refine j_irem G dX5_getsNearer_27 (by omega) (by omega) ?_
    refine j_bipush G dX5_getsNearer_28 (v := 7) rfl ?_
    refine j_icmp_ge (tgt := 48) G dX5_getsNearer_30 (by decide) (by omega) (by omega) (fun c30 => ?_) (fun c30 => ?_)
    · refine j_iconst G dX5_getsNearer_48 (v := 0) rfl ?_
      refine j_istore_n (lv' := [(3, .int (jI 0)), (0, .ref h), (1, .int (jI p)), (2, .int (jI a1))]) G dX5_getsNearer_49 (by decide) rfl ?_
      refine j_lv [1, 2, 3, 0] (lv' := [(0, .ref h), (1, .int (jI p)), (2, .int (jI a1)), (3, .int (jI 0))]) rfl ?_
      exact lp50 0 g1 (by omega) (by first | exact hN1 | (rw [if_pos c41]; exact (Near.step hI.mu hf hp (show nb p (p + 1) by unfold nb; omega) hN1 c41).1) | (rw [if_neg c41]; exact hN1)) (by first | exact Seen.no (s := a1) (q := p + 1) hS1 (by unfold nb; omega) | (rw [if_pos c41]; exact Seen.cut (s := a1) (q := p + 1) hS1 (Near.step hI.mu hf hp (show nb p (p + 1) by unfold nb; omega) hN1 c41).2) | (rw [if_neg c41]; exact Seen.keep (s := a1) (q := p + 1) hS1 hp (show nb p (p + 1) by unfold nb; omega) c41))
    · refine j_aload_n G 0 dX5_getsNearer_33 rfl ?_
      refine j_iload_n G 1 dX5_getsNearer_34 rfl ?_
      refine j_iload_n G 1 dX5_getsNearer_35 rfl ?_
      refine j_iconst G dX5_getsNearer_36 (v := 1) rfl ?_
      refine j_iadd G dX5_getsNearer_37 ?_
      refine j_callV (nA := 2) (As := [.int (jI p), .int (jI (p + 1))]) (st := []) (wc := (mV Y h q z sp pa st ke ik tx ln sn se dn up g1 lo to tm so)) (wr := []) G (c_X5_nearer l D Y h q z sp pa st ke ik tx ln sn se dn up g1 lo to tm so p (p + 1) (by first | assumption | omega) (by first | assumption | omega) (by first | assumption | omega) (by have e1 := hN1.1 p hp.1 hp.2; have e2 := zW2_b hI.mu hf hp; omega) (by have e1 := hN1.1 (p + 1) (by omega) (by omega); have e2 := zW2_b hI.mu hf (p := p + 1) (by omega); omega)) dX5_getsNearer_38 rfl gX5_getsNearer_X5_nearer rfl rfl rfl (by decide +kernel) ⟨by decide, by decide⟩ rfl 0 rfl rfl rfl (jLe.nil (jLe.rf _)) (Nat.le_of_ble_eq_true rfl) ⟨Nat.zero_le _, Nat.zero_le _⟩ (fun v_ w_ hp_ => ?_)
      obtain ⟨rfl, rfl⟩ := hp_
      show J x 0 0 (mV Y h q z sp pa st ke ik tx ln sn se dn up (if g1 (p + 1) + (1 + z 92 / 3) < g1 p then upZ g1 p (g1 (p + 1) + (1 + z 92 / 3)) else g1) lo to tm so) 41 [(0, .ref h), (1, .int (jI p)), (2, .int (jI a1))] [.int (jI (if g1 (p + 1) + (1 + z 92 / 3) < g1 p then 1 else 0))]
      refine j_ifz_eq (tgt := 48) G dX5_getsNearer_41 (by decide) (fun c41 => ?_) (fun c41 => ?_)
      · refine j_iconst G dX5_getsNearer_48 (v := 0) rfl ?_
        refine j_istore_n (lv' := [(3, .int (jI 0)), (0, .ref h), (1, .int (jI p)), (2, .int (jI a1))]) G dX5_getsNearer_49 (by decide) rfl ?_
        refine j_lv [1, 2, 3, 0] (lv' := [(0, .ref h), (1, .int (jI p)), (2, .int (jI a1)), (3, .int (jI 0))]) rfl ?_
        exact lp50 0 (if g1 (p + 1) + (1 + z 92 / 3) < g1 p then upZ g1 p (g1 (p + 1) + (1 + z 92 / 3)) else g1) (by omega) (by first | exact hN1 | (rw [if_pos c41]; exact (Near.step hI.mu hf hp (show nb p (p + 1) by unfold nb; omega) hN1 c41).1) | (rw [if_neg c41]; exact hN1)) (by first | exact Seen.no (s := a1) (q := p + 1) hS1 (by unfold nb; omega) | (rw [if_pos c41]; exact Seen.cut (s := a1) (q := p + 1) hS1 (Near.step hI.mu hf hp (show nb p (p + 1) by unfold nb; omega) hN1 c41).2) | (rw [if_neg c41]; exact Seen.keep (s := a1) (q := p + 1) hS1 hp (show nb p (p + 1) by unfold nb; omega) c41))
      · refine j_iconst G dX5_getsNearer_44 (v := 1) rfl ?_
        refine j_goto (tgt := 49) G dX5_getsNearer_45 (by decide) ?_
        refine j_istore_n (lv' := [(3, .int (jI 1)), (0, .ref h), (1, .int (jI p)), (2, .int (jI a1))]) G dX5_getsNearer_49 (by decide) rfl ?_
        refine j_lv [1, 2, 3, 0] (lv' := [(0, .ref h), (1, .int (jI p)), (2, .int (jI a1)), (3, .int (jI 1))]) rfl ?_
        exact lp50 1 (if g1 (p + 1) + (1 + z 92 / 3) < g1 p then upZ g1 p (g1 (p + 1) + (1 + z 92 / 3)) else g1) (by omega) (by first | exact hN1 | (rw [if_pos c41]; exact (Near.step hI.mu hf hp (show nb p (p + 1) by unfold nb; omega) hN1 c41).1) | (rw [if_neg c41]; exact hN1)) (by first | exact Seen.no (s := a1) (q := p + 1) hS1 (by unfold nb; omega) | (rw [if_pos c41]; exact Seen.cut (s := a1) (q := p + 1) hS1 (Near.step hI.mu hf hp (show nb p (p + 1) by unfold nb; omega) hN1 c41).2) | (rw [if_neg c41]; exact Seen.keep (s := a1) (q := p + 1) hS1 hp (show nb p (p + 1) by unfold nb; omega) c41))
  refine j_iload_n G 1 dX5_getsNearer_0 rfl ?_
  refine j_bipush G dX5_getsNearer_1 (v := 8) rfl ?_
  refine j_irem G dX5_getsNearer_3 (by omega) (by omega) ?_
  refine j_if_le (tgt := 22) G dX5_getsNearer_4 (by decide) (by omega) (fun c4 => ?_) (fun c4 => ?_)
  · refine j_iconst G dX5_getsNearer_22 (v := 0) rfl ?_
    refine j_istore_n (lv' := [(2, .int (jI 0)), (0, .ref h), (1, .int (jI p))]) G dX5_getsNearer_23 (by decide) rfl ?_
    refine j_lv [1, 2, 0] (lv' := [(0, .ref h), (1, .int (jI p)), (2, .int (jI 0))]) rfl ?_
    exact lp24 0 fa (by omega) (by first | exact hN | (rw [if_pos c15]; exact (Near.step hI.mu hf hp (show nb p (p - 1) by unfold nb; omega) hN c15).1) | (rw [if_neg c15]; exact hN)) (by first | exact Seen.no (s := 0) (q := p - 1) (Seen.start z fa p) (by unfold nb; omega) | (rw [if_pos c15]; exact Seen.cut (s := 0) (q := p - 1) (Seen.start z fa p) (Near.step hI.mu hf hp (show nb p (p - 1) by unfold nb; omega) hN c15).2) | (rw [if_neg c15]; exact Seen.keep (s := 0) (q := p - 1) (Seen.start z fa p) hp (show nb p (p - 1) by unfold nb; omega) c15))
  · refine j_aload_n G 0 dX5_getsNearer_7 rfl ?_
    refine j_iload_n G 1 dX5_getsNearer_8 rfl ?_
    refine j_iload_n G 1 dX5_getsNearer_9 rfl ?_
    refine j_iconst G dX5_getsNearer_10 (v := 1) rfl ?_
    refine j_isub G dX5_getsNearer_11 ?_
    refine j_callV (nA := 2) (As := [.int (jI p), .int (jI (p - 1))]) (st := []) (wc := (mV Y h q z sp pa st ke ik tx ln sn se dn up fa lo to tm so)) (wr := []) G (c_X5_nearer l D Y h q z sp pa st ke ik tx ln sn se dn up fa lo to tm so p (p - 1) (by first | assumption | omega) (by first | assumption | omega) (by first | assumption | omega) (by have e1 := hN.1 p hp.1 hp.2; have e2 := zW2_b hI.mu hf hp; omega) (by have e1 := hN.1 (p - 1) (by omega) (by omega); have e2 := zW2_b hI.mu hf (p := p - 1) (by omega); omega)) dX5_getsNearer_12 rfl gX5_getsNearer_X5_nearer rfl rfl rfl (by decide +kernel) ⟨by decide, by decide⟩ rfl 0 rfl rfl rfl (jLe.nil (jLe.rf _)) (Nat.le_of_ble_eq_true rfl) ⟨Nat.zero_le _, Nat.zero_le _⟩ (fun v_ w_ hp_ => ?_)
    obtain ⟨rfl, rfl⟩ := hp_
    show J x 0 0 (mV Y h q z sp pa st ke ik tx ln sn se dn up (if fa (p - 1) + (1 + z 92 / 3) < fa p then upZ fa p (fa (p - 1) + (1 + z 92 / 3)) else fa) lo to tm so) 15 [(0, .ref h), (1, .int (jI p))] [.int (jI (if fa (p - 1) + (1 + z 92 / 3) < fa p then 1 else 0))]
    refine j_ifz_eq (tgt := 22) G dX5_getsNearer_15 (by decide) (fun c15 => ?_) (fun c15 => ?_)
    · refine j_iconst G dX5_getsNearer_22 (v := 0) rfl ?_
      refine j_istore_n (lv' := [(2, .int (jI 0)), (0, .ref h), (1, .int (jI p))]) G dX5_getsNearer_23 (by decide) rfl ?_
      refine j_lv [1, 2, 0] (lv' := [(0, .ref h), (1, .int (jI p)), (2, .int (jI 0))]) rfl ?_
      exact lp24 0 (if fa (p - 1) + (1 + z 92 / 3) < fa p then upZ fa p (fa (p - 1) + (1 + z 92 / 3)) else fa) (by omega) (by first | exact hN | (rw [if_pos c15]; exact (Near.step hI.mu hf hp (show nb p (p - 1) by unfold nb; omega) hN c15).1) | (rw [if_neg c15]; exact hN)) (by first | exact Seen.no (s := 0) (q := p - 1) (Seen.start z fa p) (by unfold nb; omega) | (rw [if_pos c15]; exact Seen.cut (s := 0) (q := p - 1) (Seen.start z fa p) (Near.step hI.mu hf hp (show nb p (p - 1) by unfold nb; omega) hN c15).2) | (rw [if_neg c15]; exact Seen.keep (s := 0) (q := p - 1) (Seen.start z fa p) hp (show nb p (p - 1) by unfold nb; omega) c15))
    · refine j_iconst G dX5_getsNearer_18 (v := 1) rfl ?_
      refine j_goto (tgt := 23) G dX5_getsNearer_19 (by decide) ?_
      refine j_istore_n (lv' := [(2, .int (jI 1)), (0, .ref h), (1, .int (jI p))]) G dX5_getsNearer_23 (by decide) rfl ?_
      refine j_lv [1, 2, 0] (lv' := [(0, .ref h), (1, .int (jI p)), (2, .int (jI 1))]) rfl ?_
      exact lp24 1 (if fa (p - 1) + (1 + z 92 / 3) < fa p then upZ fa p (fa (p - 1) + (1 + z 92 / 3)) else fa) (by omega) (by first | exact hN | (rw [if_pos c15]; exact (Near.step hI.mu hf hp (show nb p (p - 1) by unfold nb; omega) hN c15).1) | (rw [if_neg c15]; exact hN)) (by first | exact Seen.no (s := 0) (q := p - 1) (Seen.start z fa p) (by unfold nb; omega) | (rw [if_pos c15]; exact Seen.cut (s := 0) (q := p - 1) (Seen.start z fa p) (Near.step hI.mu hf hp (show nb p (p - 1) by unfold nb; omega) hN c15).2) | (rw [if_neg c15]; exact Seen.keep (s := 0) (q := p - 1) (Seen.start z fa p) hp (show nb p (p - 1) by unfold nb; omega) c15))
