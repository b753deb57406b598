set_option maxHeartbeats 4000000 in
set_option maxRecDepth 100000 in
theorem c_X5_sum (l : Launch) (D : va_G) (Y : Nat → ClassId) (h : Nat) (q : Nat → Nat) (z : Int → Int) (sp : Int → Int) (pa : Int → Int) (st : Int) (ke : Int → Int) (ik : Int) (tx : Int → Int) (ln : Int) (sn : Int) (se : Int) (dn : Int → Int) (up : Int → Int) (fa : Int → Int) (lo : Int → Int) (to : Int → Int) (tm : Int) (so : Int) (b : Int) (n : Int) (hb : 0 ≤ b) (hn : 0 ≤ n ∧ n ≤ 64) (hbn : b + n ≤ 220) : jM l yX5_sum wsX5_sum { frames := 0, cells := 0, slots := 0, locals := 0 } D Y [.ref h, .int (jI b), .int (jI n)] (mV Y h q z sp pa st ke ik tx ln sn se dn up fa lo to tm so) (fun v_ w_ => v_ = some (.int (jI (sumI (Int.toNat n) (fun j => z (b + j))))) ∧ w_ = (mV Y h q z sp pa st ke ik tx ln sn se dn up fa lo to tm so)) 0 0 := by
  refine jM_of (cc := cX5_sum) (maxL := 5) (ret := (some .int)) (by decide) rfl (Nat.le_of_ble_eq_true rfl) (fun v w' h => Or.inr (Or.inl ⟨_, _, rfl, h.1, rfl⟩)) ?_
  intro x G kr0
  have kr := kr0 _ _ ⟨rfl, rfl⟩
  have G : jG x l D Y cX5_sum RX5 wsX5_sum 5 ({ frames := 0, cells := 0, slots := 0, locals := 0 } : Room) (some .int) "sum" := G
  have hinX5 : ∀ w ∈ wsX50, w ∈ wsX5_sum := fun _ h => List.mem_cons_of_mem _ (List.mem_append_right _ h)
  show J x 0 0 (mV Y h q z sp pa st ke ik tx ln sn se dn up fa lo to tm so) 0 [(0, .ref h), (1, .int (jI b)), (2, .int (jI n))] []
  refine j_iconst G dX5_sum_0 (v := 0) rfl ?_
  refine j_istore_n (lv' := [(3, .int (jI 0)), (0, .ref h), (1, .int (jI b)), (2, .int (jI n))]) G dX5_sum_1 (by decide) rfl ?_
  refine j_iconst G dX5_sum_2 (v := 0) rfl ?_
  refine j_istore (lv' := [(4, .int (jI 0)), (3, .int (jI 0)), (0, .ref h), (1, .int (jI b)), (2, .int (jI n))]) G dX5_sum_3 (by decide) rfl ?_
  have lp5 : ∀ (n_ : Nat) (j : Int) (s : Int), (0 ≤ j ∧ j ≤ n) → (s = sumI j.toNat (fun j => z (b + j))) → (n - j) < (n_ : Int) → J x 0 0 (mV Y h q z sp pa st ke ik tx ln sn se dn up fa lo to tm so) 5 [(0, .ref h), (1, .int (jI b)), (2, .int (jI n)), (3, .int (jI s)), (4, .int (jI j))] [] := by
    intro n_
    induction n_ with
    | zero =>
      intro j s hj hs hm_
      exact absurd hm_ (by omega)
    | succ n_ ih5 =>
      intro j s hj hs hm_
      refine j_iload G 4 dX5_sum_5 rfl ?_
      refine j_iload_n G 2 dX5_sum_7 rfl ?_
      refine j_icmp_ge (tgt := 29) G dX5_sum_8 (by decide) (by omega) (by omega) (fun c8 => ?_) (fun c8 => ?_)
      · refine j_iload_n G 3 dX5_sum_29 rfl ?_
        exact j_reti G dX5_sum_30 (by rw [hs, show j = n by omega]) (jLe.rf _) kr
      · refine j_iload_n G 3 dX5_sum_11 rfl ?_
        refine j_aload_n G 0 dX5_sum_12 rfl ?_
        refine j_get (q := 0) (C := RX5) (T := TX5) (N := 17) (v := .ref (q 0)) G 0 hinX5 dX5_sum_13 rfl rfl (by decide) (by decide +kernel) rfl ?_
        refine j_iload_n G 1 dX5_sum_16 rfl ?_
        refine j_iload G 4 dX5_sum_17 rfl ?_
        refine j_iadd G dX5_sum_19 ?_
        refine j_iald (v := z (b + j)) G 1 dX5_sum_20 rfl (by omega) rfl ?_
        refine j_iadd G dX5_sum_21 ?_
        refine j_istore_n (lv' := [(3, .int (jI (s + (z (b + j))))), (0, .ref h), (1, .int (jI b)), (2, .int (jI n)), (4, .int (jI j))]) G dX5_sum_22 (by decide) rfl ?_
        refine j_iinc (w := j + 1) (lv' := [(4, .int (jI (j + 1))), (3, .int (jI (s + (z (b + j))))), (0, .ref h), (1, .int (jI b)), (2, .int (jI n))]) G 4 dX5_sum_23 rfl rfl (by decide) rfl ?_
        refine j_goto (tgt := 5) G dX5_sum_26 (by decide) ?_
        refine j_lv [2, 3, 4, 1, 0] (lv' := [(0, .ref h), (1, .int (jI b)), (2, .int (jI n)), (3, .int (jI (s + (z (b + j))))), (4, .int (jI (j + 1)))]) rfl ?_
        exact ih5 (j + 1) (s + (z (b + j))) (by omega) (by rw [sumI_S hj.1, hs]) (by omega)
  refine j_lv [2, 3, 4, 1, 0] (lv' := [(0, .ref h), (1, .int (jI b)), (2, .int (jI n)), (3, .int (jI 0)), (4, .int (jI 0))]) rfl ?_
  exact lp5 (Int.toNat ((n - 0) + 1)) 0 0 (by omega) (by rfl) (by omega)

set_option maxHeartbeats 4000000 in
set_option maxRecDepth 100000 in
theorem c_X5_plotsHit0 (l : Launch) (D : va_G) (Y : Nat → ClassId) (h : Nat) (q : Nat → Nat) (z : Int → Int) (sp : Int → Int) (pa : Int → Int) (st : Int) (ke : Int → Int) (ik : Int) (tx : Int → Int) (ln : Int) (sn : Int) (se : Int) (fa : Int → Int) (lo : Int → Int) (to : Int → Int) (tm : Int) (so : Int) (hI : Inv z) : jM l yX5_plotsHit wsX5_plotsHit { frames := 2, cells := 0, slots := 0, locals := 46 } D Y [.ref h, .int (jI 0)] (mV Y h q z sp pa st ke ik tx ln sn se (pAb (tZ z)) (pBe (tZ z)) fa lo to tm so) (fun v_ w_ => v_ = some (.int (jI (sumI 64 (fun p => if 0 < zHi z (tZ z) p then 1 else 0)))) ∧ w_ = (mV Y h q z sp pa st ke ik tx ln sn se (pAb (tZ z)) (pBe (tZ z)) fa lo to tm so)) 0 0 := by
  refine jM_of (cc := cX5_plotsHit) (maxL := 4) (ret := (some .int)) (by decide) rfl (Nat.le_of_ble_eq_true rfl) (fun v w' h => Or.inr (Or.inl ⟨_, _, rfl, h.1, rfl⟩)) ?_
  intro x G kr0
  have kr := kr0 _ _ ⟨rfl, rfl⟩
  have G : jG x l D Y cX5_plotsHit RX5 wsX5_plotsHit 4 ({ frames := 2, cells := 0, slots := 0, locals := 46 } : Room) (some .int) "plotsHit" := G
  show J x 0 0 (mV Y h q z sp pa st ke ik tx ln sn se (pAb (tZ z)) (pBe (tZ z)) fa lo to tm so) 0 [(0, .ref h), (1, .int (jI 0))] []
  refine j_iconst G dX5_plotsHit_0 (v := 0) rfl ?_
  refine j_istore_n (lv' := [(2, .int (jI 0)), (0, .ref h), (1, .int (jI 0))]) G dX5_plotsHit_1 (by decide) rfl ?_
  refine j_iconst G dX5_plotsHit_2 (v := 0) rfl ?_
  refine j_istore_n (lv' := [(3, .int (jI 0)), (2, .int (jI 0)), (0, .ref h), (1, .int (jI 0))]) G dX5_plotsHit_3 (by decide) rfl ?_
  have lp4 : ∀ (n_ : Nat) (i : Int) (s : Int), (0 ≤ i ∧ i ≤ 64) → (s = sumI i.toNat (fun p => if 0 < zHi z (tZ z) p then 1 else 0)) → (64 - i) < (n_ : Int) → J x 0 0 (mV Y h q z sp pa st ke ik tx ln sn se (pAb (tZ z)) (pBe (tZ z)) fa lo to tm so) 4 [(0, .ref h), (1, .int (jI 0)), (2, .int (jI s)), (3, .int (jI i))] [] := by
    intro n_
    induction n_ with
    | zero =>
      intro i s hi hs hm_
      exact absurd hm_ (by omega)
    | succ n_ ih4 =>
      intro i s hi hs hm_
      refine j_iload_n G 3 dX5_plotsHit_4 rfl ?_
      refine j_bipush G dX5_plotsHit_5 (v := 64) rfl ?_
      refine j_icmp_ge (tgt := 56) G dX5_plotsHit_7 (by decide) (by omega) (by omega) (fun c7 => ?_) (fun c7 => ?_)
      · refine j_iload_n G 2 dX5_plotsHit_56 rfl ?_
        exact j_reti G dX5_plotsHit_57 (by rw [hs, show i = 64 by omega]; rfl) (jLe.rf _) kr
      · have f10 : 0 ≤ zHi z (tZ z) i ∧ zHi z (tZ z) i ≤ 17496 := pHi_b (tZ z) (z 1) (p := i) (by omega)
        have f11 := pAll_b (tZ z)
        refine j_iload_n G 2 dX5_plotsHit_10 rfl ?_
        refine j_iload_n G 1 dX5_plotsHit_11 rfl ?_
        refine j_if_eq (tgt := 35) G dX5_plotsHit_12 (by decide) (by omega) (fun c12 => ?_) (fun c12 => absurd c12 (by omega))
        refine j_aload_n G 0 dX5_plotsHit_35 rfl ?_
        refine j_iload_n G 3 dX5_plotsHit_36 rfl ?_
        refine j_callV (nA := 1) (As := [.int (jI i)]) (st := [.int (jI s)]) (wc := (mV Y h q z sp pa st ke ik tx ln sn se (pAb (tZ z)) (pBe (tZ z)) fa lo to tm so)) (wr := []) G (c_X5_hits l D Y h q z sp pa st ke ik tx ln sn se fa lo to tm so i (by first | assumption | omega) (by first | assumption | exact hI.s1)) dX5_plotsHit_37 rfl gX5_plotsHit_X5_hits rfl rfl rfl (by decide +kernel) ⟨by decide, by decide⟩ rfl 0 rfl rfl rfl (jLe.nil (jLe.rf _)) (Nat.le_of_ble_eq_true rfl) ⟨Nat.zero_le _, Nat.zero_le _⟩ (fun v_ w_ hp_ => ?_)
        obtain ⟨rfl, rfl⟩ := hp_
        show J x 0 0 (mV Y h q z sp pa st ke ik tx ln sn se (pAb (tZ z)) (pBe (tZ z)) fa lo to tm so) 40 [(0, .ref h), (1, .int (jI 0)), (2, .int (jI s)), (3, .int (jI i))] [.int (jI (zHi z (tZ z) i)), .int (jI s)]
        refine j_if_le (tgt := 47) G dX5_plotsHit_40 (by decide) (by omega) (fun c40 => ?_) (fun c40 => ?_)
        · refine j_iconst G dX5_plotsHit_47 (v := 0) rfl ?_
          refine j_iadd G dX5_plotsHit_48 ?_
          refine j_istore_n (lv' := [(2, .int (jI (s + 0))), (0, .ref h), (1, .int (jI 0)), (3, .int (jI i))]) G dX5_plotsHit_49 (by decide) rfl ?_
          refine j_iinc (w := i + 1) (lv' := [(3, .int (jI (i + 1))), (2, .int (jI (s + 0))), (0, .ref h), (1, .int (jI 0))]) G 3 dX5_plotsHit_50 rfl rfl (by decide) rfl ?_
          refine j_goto (tgt := 4) G dX5_plotsHit_53 (by decide) ?_
          refine j_lv [2, 3, 1, 0] (lv' := [(0, .ref h), (1, .int (jI 0)), (2, .int (jI (s + 0))), (3, .int (jI (i + 1)))]) rfl ?_
          exact ih4 (i + 1) (s + 0) (by omega) (by rw [sumI_S hi.1, hs]; first | rw [if_pos (by omega)] | rw [if_neg (by omega)]) (by omega)
        · refine j_iconst G dX5_plotsHit_43 (v := 1) rfl ?_
          refine j_goto (tgt := 48) G dX5_plotsHit_44 (by decide) ?_
          refine j_iadd G dX5_plotsHit_48 ?_
          refine j_istore_n (lv' := [(2, .int (jI (s + 1))), (0, .ref h), (1, .int (jI 0)), (3, .int (jI i))]) G dX5_plotsHit_49 (by decide) rfl ?_
          refine j_iinc (w := i + 1) (lv' := [(3, .int (jI (i + 1))), (2, .int (jI (s + 1))), (0, .ref h), (1, .int (jI 0))]) G 3 dX5_plotsHit_50 rfl rfl (by decide) rfl ?_
          refine j_goto (tgt := 4) G dX5_plotsHit_53 (by decide) ?_
          refine j_lv [2, 3, 1, 0] (lv' := [(0, .ref h), (1, .int (jI 0)), (2, .int (jI (s + 1))), (3, .int (jI (i + 1)))]) rfl ?_
          exact ih4 (i + 1) (s + 1) (by omega) (by rw [sumI_S hi.1, hs]; first | rw [if_pos (by omega)] | rw [if_neg (by omega)]) (by omega)
  refine j_lv [2, 3, 1, 0] (lv' := [(0, .ref h), (1, .int (jI 0)), (2, .int (jI 0)), (3, .int (jI 0))]) rfl ?_
  exact lp4 (Int.toNat ((64 - 0) + 1)) 0 0 (by omega) (by rfl) (by omega)

set_option maxHeartbeats 4000000 in
set_option maxRecDepth 100000 in
theorem c_X5_plotsHit1 (l : Launch) (D : va_G) (Y : Nat → ClassId) (h : Nat) (q : Nat → Nat) (z : Int → Int) (sp : Int → Int) (pa : Int → Int) (st : Int) (ke : Int → Int) (ik : Int) (tx : Int → Int) (ln : Int) (sn : Int) (se : Int) (fa : Int → Int) (lo : Int → Int) (to : Int → Int) (tm : Int) (so : Int) (hI : Inv z) : jM l yX5_plotsHit wsX5_plotsHit { frames := 2, cells := 0, slots := 0, locals := 46 } D Y [.ref h, .int (jI 1)] (mV Y h q z sp pa st ke ik tx ln sn se (pAb (tZ z)) (pBe (tZ z)) fa lo to tm so) (fun v_ w_ => v_ = some (.int (jI (sumI 64 (fun p => if zHi z (tZ z) p = pAll (tZ z) then 1 else 0)))) ∧ w_ = (mV Y h q z sp pa st ke ik tx ln sn se (pAb (tZ z)) (pBe (tZ z)) fa lo to tm so)) 0 0 := by
  refine jM_of (cc := cX5_plotsHit) (maxL := 4) (ret := (some .int)) (by decide) rfl (Nat.le_of_ble_eq_true rfl) (fun v w' h => Or.inr (Or.inl ⟨_, _, rfl, h.1, rfl⟩)) ?_
  intro x G kr0
  have kr := kr0 _ _ ⟨rfl, rfl⟩
  have G : jG x l D Y cX5_plotsHit RX5 wsX5_plotsHit 4 ({ frames := 2, cells := 0, slots := 0, locals := 46 } : Room) (some .int) "plotsHit" := G
  show J x 0 0 (mV Y h q z sp pa st ke ik tx ln sn se (pAb (tZ z)) (pBe (tZ z)) fa lo to tm so) 0 [(0, .ref h), (1, .int (jI 1))] []
  refine j_iconst G dX5_plotsHit_0 (v := 0) rfl ?_
  refine j_istore_n (lv' := [(2, .int (jI 0)), (0, .ref h), (1, .int (jI 1))]) G dX5_plotsHit_1 (by decide) rfl ?_
  refine j_iconst G dX5_plotsHit_2 (v := 0) rfl ?_
  refine j_istore_n (lv' := [(3, .int (jI 0)), (2, .int (jI 0)), (0, .ref h), (1, .int (jI 1))]) G dX5_plotsHit_3 (by decide) rfl ?_
  have lp4 : ∀ (n_ : Nat) (i : Int) (s : Int), (0 ≤ i ∧ i ≤ 64) → (s = sumI i.toNat (fun p => if zHi z (tZ z) p = pAll (tZ z) then 1 else 0)) → (64 - i) < (n_ : Int) → J x 0 0 (mV Y h q z sp pa st ke ik tx ln sn se (pAb (tZ z)) (pBe (tZ z)) fa lo to tm so) 4 [(0, .ref h), (1, .int (jI 1)), (2, .int (jI s)), (3, .int (jI i))] [] := by
    intro n_
    induction n_ with
    | zero =>
      intro i s hi hs hm_
      exact absurd hm_ (by omega)
    | succ n_ ih4 =>
      intro i s hi hs hm_
      refine j_iload_n G 3 dX5_plotsHit_4 rfl ?_
      refine j_bipush G dX5_plotsHit_5 (v := 64) rfl ?_
      refine j_icmp_ge (tgt := 56) G dX5_plotsHit_7 (by decide) (by omega) (by omega) (fun c7 => ?_) (fun c7 => ?_)
      · refine j_iload_n G 2 dX5_plotsHit_56 rfl ?_
        exact j_reti G dX5_plotsHit_57 (by rw [hs, show i = 64 by omega]; rfl) (jLe.rf _) kr
      · have f10 : 0 ≤ zHi z (tZ z) i ∧ zHi z (tZ z) i ≤ 17496 := pHi_b (tZ z) (z 1) (p := i) (by omega)
        have f11 := pAll_b (tZ z)
        refine j_iload_n G 2 dX5_plotsHit_10 rfl ?_
        refine j_iload_n G 1 dX5_plotsHit_11 rfl ?_
        refine j_if_eq (tgt := 35) G dX5_plotsHit_12 (by decide) (by omega) (fun c12 => absurd c12 (by omega)) (fun c12 => ?_)
        refine j_aload_n G 0 dX5_plotsHit_15 rfl ?_
        refine j_iload_n G 3 dX5_plotsHit_16 rfl ?_
        refine j_callV (nA := 1) (As := [.int (jI i)]) (st := [.int (jI s)]) (wc := (mV Y h q z sp pa st ke ik tx ln sn se (pAb (tZ z)) (pBe (tZ z)) fa lo to tm so)) (wr := []) G (c_X5_hits l D Y h q z sp pa st ke ik tx ln sn se fa lo to tm so i (by first | assumption | omega) (by first | assumption | exact hI.s1)) dX5_plotsHit_17 rfl gX5_plotsHit_X5_hits rfl rfl rfl (by decide +kernel) ⟨by decide, by decide⟩ rfl 0 rfl rfl rfl (jLe.nil (jLe.rf _)) (Nat.le_of_ble_eq_true rfl) ⟨Nat.zero_le _, Nat.zero_le _⟩ (fun v_ w_ hp_ => ?_)
        obtain ⟨rfl, rfl⟩ := hp_
        show J x 0 0 (mV Y h q z sp pa st ke ik tx ln sn se (pAb (tZ z)) (pBe (tZ z)) fa lo to tm so) 20 [(0, .ref h), (1, .int (jI 1)), (2, .int (jI s)), (3, .int (jI i))] [.int (jI (zHi z (tZ z) i)), .int (jI s)]
        refine j_aload_n G 0 dX5_plotsHit_20 rfl ?_
        refine j_callV (nA := 0) (As := []) (st := [.int (jI (zHi z (tZ z) i)), .int (jI s)]) (wc := (mV Y h q z sp pa st ke ik tx ln sn se (pAb (tZ z)) (pBe (tZ z)) fa lo to tm so)) (wr := []) G (c_X5_allPaths l D Y h q z sp pa st ke ik tx ln sn se fa lo to tm so ) dX5_plotsHit_21 rfl gX5_plotsHit_X5_allPaths rfl rfl rfl (by decide +kernel) ⟨by decide, by decide⟩ rfl 0 rfl rfl rfl (jLe.nil (jLe.rf _)) (Nat.le_of_ble_eq_true rfl) ⟨Nat.zero_le _, Nat.zero_le _⟩ (fun v_ w_ hp_ => ?_)
        obtain ⟨rfl, rfl⟩ := hp_
        show J x 0 0 (mV Y h q z sp pa st ke ik tx ln sn se (pAb (tZ z)) (pBe (tZ z)) fa lo to tm so) 24 [(0, .ref h), (1, .int (jI 1)), (2, .int (jI s)), (3, .int (jI i))] [.int (jI (pAll (tZ z))), .int (jI (zHi z (tZ z) i)), .int (jI s)]
        refine j_icmp_ne (tgt := 31) G dX5_plotsHit_24 (by decide) (by omega) (by omega) (fun c24 => ?_) (fun c24 => ?_)
        · refine j_iconst G dX5_plotsHit_31 (v := 0) rfl ?_
          refine j_goto (tgt := 48) G dX5_plotsHit_32 (by decide) ?_
          refine j_iadd G dX5_plotsHit_48 ?_
          refine j_istore_n (lv' := [(2, .int (jI (s + 0))), (0, .ref h), (1, .int (jI 1)), (3, .int (jI i))]) G dX5_plotsHit_49 (by decide) rfl ?_
          refine j_iinc (w := i + 1) (lv' := [(3, .int (jI (i + 1))), (2, .int (jI (s + 0))), (0, .ref h), (1, .int (jI 1))]) G 3 dX5_plotsHit_50 rfl rfl (by decide) rfl ?_
          refine j_goto (tgt := 4) G dX5_plotsHit_53 (by decide) ?_
          refine j_lv [2, 3, 1, 0] (lv' := [(0, .ref h), (1, .int (jI 1)), (2, .int (jI (s + 0))), (3, .int (jI (i + 1)))]) rfl ?_
          exact ih4 (i + 1) (s + 0) (by omega) (by rw [sumI_S hi.1, hs]; first | rw [if_pos (by omega)] | rw [if_neg (by omega)]) (by omega)
        · refine j_iconst G dX5_plotsHit_27 (v := 1) rfl ?_
          refine j_goto (tgt := 48) G dX5_plotsHit_28 (by decide) ?_
          refine j_iadd G dX5_plotsHit_48 ?_
          refine j_istore_n (lv' := [(2, .int (jI (s + 1))), (0, .ref h), (1, .int (jI 1)), (3, .int (jI i))]) G dX5_plotsHit_49 (by decide) rfl ?_
          refine j_iinc (w := i + 1) (lv' := [(3, .int (jI (i + 1))), (2, .int (jI (s + 1))), (0, .ref h), (1, .int (jI 1))]) G 3 dX5_plotsHit_50 rfl rfl (by decide) rfl ?_
          refine j_goto (tgt := 4) G dX5_plotsHit_53 (by decide) ?_
          refine j_lv [2, 3, 1, 0] (lv' := [(0, .ref h), (1, .int (jI 1)), (2, .int (jI (s + 1))), (3, .int (jI (i + 1)))]) rfl ?_
          exact ih4 (i + 1) (s + 1) (by omega) (by rw [sumI_S hi.1, hs]; first | rw [if_pos (by omega)] | rw [if_neg (by omega)]) (by omega)
  refine j_lv [2, 3, 1, 0] (lv' := [(0, .ref h), (1, .int (jI 1)), (2, .int (jI 0)), (3, .int (jI 0))]) rfl ?_
  exact lp4 (Int.toNat ((64 - 0) + 1)) 0 0 (by omega) (by rfl) (by omega)

set_option maxHeartbeats 4000000 in
set_option maxRecDepth 100000 in
theorem c_X5_allToLose (l : Launch) (D : va_G) (Y : Nat → ClassId) (h : Nat) (q : Nat → Nat) (z : Int → Int) (sp : Int → Int) (pa : Int → Int) (st : Int) (ke : Int → Int) (ik : Int) (tx : Int → Int) (ln : Int) (sn : Int) (se : Int) (fa : Int → Int) (lo : Int → Int) (to : Int → Int) (tm : Int) (so : Int) (hI : Inv z) : jM l yX5_allToLose wsX5_allToLose { frames := 3, cells := 0, slots := 0, locals := 67 } D Y [.ref h] (mV Y h q z sp pa st ke ik tx ln sn se (pAb (tZ z)) (pBe (tZ z)) fa lo to tm so) (fun v_ w_ => v_ = some (.int (jI (sumI 64 (fun p => zLo z (tZ z) p)))) ∧ w_ = (mV Y h q z sp pa st ke ik tx ln sn se (pAb (tZ z)) (pBe (tZ z)) fa lo to tm so)) 0 0 := by
  refine jM_of (cc := cX5_allToLose) (maxL := 3) (ret := (some .int)) (by decide) rfl (Nat.le_of_ble_eq_true rfl) (fun v w' h => Or.inr (Or.inl ⟨_, _, rfl, h.1, rfl⟩)) ?_
  intro x G kr0
  have kr := kr0 _ _ ⟨rfl, rfl⟩
  have G : jG x l D Y cX5_allToLose RX5 wsX5_allToLose 3 ({ frames := 3, cells := 0, slots := 0, locals := 67 } : Room) (some .int) "allToLose" := G
  show J x 0 0 (mV Y h q z sp pa st ke ik tx ln sn se (pAb (tZ z)) (pBe (tZ z)) fa lo to tm so) 0 [(0, .ref h)] []
  refine j_iconst G dX5_allToLose_0 (v := 0) rfl ?_
  refine j_istore_n (lv' := [(1, .int (jI 0)), (0, .ref h)]) G dX5_allToLose_1 (by decide) rfl ?_
  refine j_iconst G dX5_allToLose_2 (v := 0) rfl ?_
  refine j_istore_n (lv' := [(2, .int (jI 0)), (1, .int (jI 0)), (0, .ref h)]) G dX5_allToLose_3 (by decide) rfl ?_
  have lp4 : ∀ (n_ : Nat) (i : Int) (s : Int), (0 ≤ i ∧ i ≤ 64) → (s = sumI i.toNat (fun p => zLo z (tZ z) p)) → (64 - i) < (n_ : Int) → J x 0 0 (mV Y h q z sp pa st ke ik tx ln sn se (pAb (tZ z)) (pBe (tZ z)) fa lo to tm so) 4 [(0, .ref h), (1, .int (jI s)), (2, .int (jI i))] [] := by
    intro n_
    induction n_ with
    | zero =>
      intro i s hi hs hm_
      exact absurd hm_ (by omega)
    | succ n_ ih4 =>
      intro i s hi hs hm_
      refine j_iload_n G 2 dX5_allToLose_4 rfl ?_
      refine j_bipush G dX5_allToLose_5 (v := 64) rfl ?_
      refine j_icmp_ge (tgt := 24) G dX5_allToLose_7 (by decide) (by omega) (by omega) (fun c7 => ?_) (fun c7 => ?_)
      · refine j_iload_n G 1 dX5_allToLose_24 rfl ?_
        exact j_reti G dX5_allToLose_25 (by rw [hs, show i = 64 by omega]; rfl) (jLe.rf _) kr
      · refine j_iload_n G 1 dX5_allToLose_10 rfl ?_
        refine j_aload_n G 0 dX5_allToLose_11 rfl ?_
        refine j_iload_n G 2 dX5_allToLose_12 rfl ?_
        refine j_callV (nA := 1) (As := [.int (jI i)]) (st := [.int (jI s)]) (wc := (mV Y h q z sp pa st ke ik tx ln sn se (pAb (tZ z)) (pBe (tZ z)) fa lo to tm so)) (wr := []) G (c_X5_standsToLose l D Y h q z sp pa st ke ik tx ln sn se fa lo to tm so i (by first | assumption | omega) (by first | assumption | omega)) dX5_allToLose_13 rfl gX5_allToLose_X5_standsToLose rfl rfl rfl (by decide +kernel) ⟨by decide, by decide⟩ rfl 0 rfl rfl rfl (jLe.nil (jLe.rf _)) (Nat.le_of_ble_eq_true rfl) ⟨Nat.zero_le _, Nat.zero_le _⟩ (fun v_ w_ hp_ => ?_)
        obtain ⟨rfl, rfl⟩ := hp_
        show J x 0 0 (mV Y h q z sp pa st ke ik tx ln sn se (pAb (tZ z)) (pBe (tZ z)) fa lo to tm so) 16 [(0, .ref h), (1, .int (jI s)), (2, .int (jI i))] [.int (jI (zLo z (tZ z) i)), .int (jI s)]
        refine j_iadd G dX5_allToLose_16 ?_
        refine j_istore_n (lv' := [(1, .int (jI (s + (zLo z (tZ z) i)))), (0, .ref h), (2, .int (jI i))]) G dX5_allToLose_17 (by decide) rfl ?_
        refine j_iinc (w := i + 1) (lv' := [(2, .int (jI (i + 1))), (1, .int (jI (s + (zLo z (tZ z) i)))), (0, .ref h)]) G 2 dX5_allToLose_18 rfl rfl (by decide) rfl ?_
        refine j_goto (tgt := 4) G dX5_allToLose_21 (by decide) ?_
        refine j_lv [2, 1, 0] (lv' := [(0, .ref h), (1, .int (jI (s + (zLo z (tZ z) i)))), (2, .int (jI (i + 1)))]) rfl ?_
        exact ih4 (i + 1) (s + (zLo z (tZ z) i)) (by omega) (by rw [sumI_S hi.1, hs]) (by omega)
  refine j_lv [2, 1, 0] (lv' := [(0, .ref h), (1, .int (jI 0)), (2, .int (jI 0))]) rfl ?_
  exact lp4 (Int.toNat ((64 - 0) + 1)) 0 0 (by omega) (by rfl) (by omega)

set_option maxHeartbeats 4000000 in
set_option maxRecDepth 100000 in
theorem c_X5_hints (l : Launch) (D : va_G) (Y : Nat → ClassId) (h : Nat) (q : Nat → Nat) (z : Int → Int) (sp : Int → Int) (pa : Int → Int) (st : Int) (ke : Int → Int) (ik : Int) (tx : Int → Int) (ln : Int) (sn : Int) (se : Int) (dn : Int → Int) (up : Int → Int) (fa : Int → Int) (lo : Int → Int) (to : Int → Int) (tm : Int) (so : Int) (hI : Inv z) : jM l yX5_hints wsX5_hints { frames := 0, cells := 0, slots := 0, locals := 0 } D Y [.ref h] (mV Y h q z sp pa st ke ik tx ln sn se dn up fa lo to tm so) (fun v_ w_ => v_ = some (.int (jI (sumI 8 (fun r => if ¬ z (7 + r) = -5 then 1 else 0)))) ∧ w_ = (mV Y h q z sp pa st ke ik tx ln sn se dn up fa lo to tm so)) 0 0 := by
  refine jM_of (cc := cX5_hints) (maxL := 3) (ret := (some .int)) (by decide) rfl (Nat.le_of_ble_eq_true rfl) (fun v w' h => Or.inr (Or.inl ⟨_, _, rfl, h.1, rfl⟩)) ?_
  intro x G kr0
  have kr := kr0 _ _ ⟨rfl, rfl⟩
  have G : jG x l D Y cX5_hints RX5 wsX5_hints 3 ({ frames := 0, cells := 0, slots := 0, locals := 0 } : Room) (some .int) "hints" := G
  have hinX5 : ∀ w ∈ wsX50, w ∈ wsX5_hints := fun _ h => List.mem_cons_of_mem _ (List.mem_append_right _ h)
  show J x 0 0 (mV Y h q z sp pa st ke ik tx ln sn se dn up fa lo to tm so) 0 [(0, .ref h)] []
  refine j_iconst G dX5_hints_0 (v := 0) rfl ?_
  refine j_istore_n (lv' := [(1, .int (jI 0)), (0, .ref h)]) G dX5_hints_1 (by decide) rfl ?_
  refine j_iconst G dX5_hints_2 (v := 0) rfl ?_
  refine j_istore_n (lv' := [(2, .int (jI 0)), (1, .int (jI 0)), (0, .ref h)]) G dX5_hints_3 (by decide) rfl ?_
  have lp4 : ∀ (n_ : Nat) (i : Int) (s : Int), (0 ≤ i ∧ i ≤ 8) → (s = sumI i.toNat (fun r => if ¬ z (7 + r) = -5 then 1 else 0)) → (8 - i) < (n_ : Int) → J x 0 0 (mV Y h q z sp pa st ke ik tx ln sn se dn up fa lo to tm so) 4 [(0, .ref h), (1, .int (jI s)), (2, .int (jI i))] [] := by
    intro n_
    induction n_ with
    | zero =>
      intro i s hi hs hm_
      exact absurd hm_ (by omega)
    | succ n_ ih4 =>
      intro i s hi hs hm_
      refine j_iload_n G 2 dX5_hints_4 rfl ?_
      refine j_bipush G dX5_hints_5 (v := 8) rfl ?_
      refine j_icmp_ge (tgt := 38) G dX5_hints_7 (by decide) (by omega) (by omega) (fun c7 => ?_) (fun c7 => ?_)
      · refine j_iload_n G 1 dX5_hints_38 rfl ?_
        exact j_reti G dX5_hints_39 (by rw [hs, show i = 8 by omega]; rfl) (jLe.rf _) kr
      · have f10 := hI.tR i (by omega) (by omega)
        refine j_iload_n G 1 dX5_hints_10 rfl ?_
        refine j_aload_n G 0 dX5_hints_11 rfl ?_
        refine j_get (q := 0) (C := RX5) (T := TX5) (N := 17) (v := .ref (q 0)) G 0 hinX5 dX5_hints_12 rfl rfl (by decide) (by decide +kernel) rfl ?_
        refine j_bipush G dX5_hints_15 (v := 7) rfl ?_
        refine j_iload_n G 2 dX5_hints_17 rfl ?_
        refine j_iadd G dX5_hints_18 ?_
        refine j_iald (v := z (7 + i)) G 1 dX5_hints_19 rfl (by omega) rfl ?_
        refine j_bipush G dX5_hints_20 (v := (-5)) rfl ?_
        refine j_icmp_ne (tgt := 29) G dX5_hints_22 (by decide) (by omega) (by omega) (fun c22 => ?_) (fun c22 => ?_)
        · refine j_iconst G dX5_hints_29 (v := 1) rfl ?_
          refine j_iadd G dX5_hints_30 ?_
          refine j_istore_n (lv' := [(1, .int (jI (s + 1))), (0, .ref h), (2, .int (jI i))]) G dX5_hints_31 (by decide) rfl ?_
          refine j_iinc (w := i + 1) (lv' := [(2, .int (jI (i + 1))), (1, .int (jI (s + 1))), (0, .ref h)]) G 2 dX5_hints_32 rfl rfl (by decide) rfl ?_
          refine j_goto (tgt := 4) G dX5_hints_35 (by decide) ?_
          refine j_lv [2, 1, 0] (lv' := [(0, .ref h), (1, .int (jI (s + 1))), (2, .int (jI (i + 1)))]) rfl ?_
          exact ih4 (i + 1) (s + 1) (by omega) (by rw [sumI_S hi.1, hs]; first | rw [if_pos (by omega)] | rw [if_neg (by omega)]) (by omega)
        · refine j_iconst G dX5_hints_25 (v := 0) rfl ?_
          refine j_goto (tgt := 30) G dX5_hints_26 (by decide) ?_
          refine j_iadd G dX5_hints_30 ?_
          refine j_istore_n (lv' := [(1, .int (jI (s + 0))), (0, .ref h), (2, .int (jI i))]) G dX5_hints_31 (by decide) rfl ?_
          refine j_iinc (w := i + 1) (lv' := [(2, .int (jI (i + 1))), (1, .int (jI (s + 0))), (0, .ref h)]) G 2 dX5_hints_32 rfl rfl (by decide) rfl ?_
          refine j_goto (tgt := 4) G dX5_hints_35 (by decide) ?_
          refine j_lv [2, 1, 0] (lv' := [(0, .ref h), (1, .int (jI (s + 0))), (2, .int (jI (i + 1)))]) rfl ?_
          exact ih4 (i + 1) (s + 0) (by omega) (by rw [sumI_S hi.1, hs]; first | rw [if_pos (by omega)] | rw [if_neg (by omega)]) (by omega)
  refine j_lv [2, 1, 0] (lv' := [(0, .ref h), (1, .int (jI 0)), (2, .int (jI 0))]) rfl ?_
  exact lp4 (Int.toNat ((8 - 0) + 1)) 0 0 (by omega) (by rfl) (by omega)

set_option maxHeartbeats 4000000 in
set_option maxRecDepth 100000 in
theorem c_X5_plot (l : Launch) (D : va_G) (Y : Nat → ClassId) (h : Nat) (q : Nat → Nat) (z : Int → Int) (sp : Int → Int) (pa : Int → Int) (st : Int) (ke : Int → Int) (ik : Int) (tx : Int → Int) (ln : Int) (sn : Int) (se : Int) (dn : Int → Int) (up : Int → Int) (fa : Int → Int) (lo : Int → Int) (to : Int → Int) (tm : Int) (so : Int) (p : Int) (w : Int) (hI : Inv z) (h_p : -2147483648 ≤ p ∧ p < 2147483648) (h_w : -2147483648 ≤ w ∧ w < 2147483648) : jM l yX5_plot wsX5_plot { frames := 3, cells := 0, slots := 0, locals := 67 } D Y [.ref h, .int (jI p), .int (jI w)] (mV Y h q z sp pa st ke ik tx ln sn se dn up fa lo to tm so) (fun v_ w_ => ∃ (d2 : Int → Int) (u2 : Int → Int), v_ = some (.int (jI (F_plot z p w))) ∧ w_ = (mV Y h q z sp pa st ke ik tx ln sn se d2 u2 fa lo to tm so)) 0 0 := by
  refine jM_of (cc := cX5_plot) (maxL := 3) (ret := (some .int)) (by decide) rfl (Nat.le_of_ble_eq_true rfl) (fun v w' h => by obtain ⟨_, _, h⟩ := h; exact Or.inr (Or.inl ⟨_, _, rfl, h.1, rfl⟩)) ?_
  intro x G kr0
  have G : jG x l D Y cX5_plot RX5 wsX5_plot 3 ({ frames := 3, cells := 0, slots := 0, locals := 67 } : Room) (some .int) "plot" := G
  have hinX5 : ∀ w ∈ wsX50, w ∈ wsX5_plot := fun _ h => List.mem_cons_of_mem _ (List.mem_append_right _ h)
  show J x 0 0 (mV Y h q z sp pa st ke ik tx ln sn se dn up fa lo to tm so) 0 [(0, .ref h), (1, .int (jI p)), (2, .int (jI w))] []
  refine j_iload_n G 1 dX5_plot_0 rfl ?_
  refine j_callS (nA := 1) (As := [.int (jI p)]) (st := []) (wc := []) (wr := (mV Y h q z sp pa st ke ik tx ln sn se dn up fa lo to tm so)) G (c_X5_isPlot l D Y p (by first | assumption | omega)) dX5_plot_1 rfl gX5_plot_X5_isPlot rfl rfl rfl (by decide +kernel) ⟨by decide, by decide⟩ rfl (jLe.rf _) (Nat.le_of_ble_eq_true rfl) ⟨Nat.zero_le _, Nat.zero_le _⟩ (fun v_ w_ hp_ => ?_)
  obtain ⟨rfl, rfl⟩ := hp_
  show J x 0 0 (mV Y h q z sp pa st ke ik tx ln sn se dn up fa lo to tm so) 4 [(0, .ref h), (1, .int (jI p)), (2, .int (jI w))] [.int (jI (if 0 ≤ p ∧ p ≤ 63 then 1 else 0))]
  refine j_ifz_ne (tgt := 9) G dX5_plot_4 (by decide) (fun c4 => ?_) (fun c4 => ?_)
  · have f9 := hI.mp p (by omega) (by omega)
    have f10 : 0 ≤ zHi z (tZ z) p ∧ zHi z (tZ z) p ≤ 17496 := pHi_b (tZ z) (z 1) (p := p) (by omega)
    have f11 := pAll_b (tZ z)
    refine j_aload_n G 0 dX5_plot_9 rfl ?_
    refine j_callV (nA := 0) (As := []) (st := []) (wc := (mV Y h q z sp pa st ke ik tx ln sn se dn up fa lo to tm so)) (wr := []) G (c_X5_countPaths l D Y h q z sp pa st ke ik tx ln sn se dn up fa lo to tm so (by first | assumption | exact hI.tR)) dX5_plot_10 rfl gX5_plot_X5_countPaths rfl rfl rfl (by decide +kernel) ⟨by decide, by decide⟩ rfl 0 rfl rfl rfl (jLe.nil (jLe.rf _)) (Nat.le_of_ble_eq_true rfl) ⟨Nat.zero_le _, Nat.zero_le _⟩ (fun v_ w_ hp_ => ?_)
    obtain ⟨rfl, rfl⟩ := hp_
    show J x 0 0 (mV Y h q z sp pa st ke ik tx ln sn se (pAb (tZ z)) (pBe (tZ z)) fa lo to tm so) 13 [(0, .ref h), (1, .int (jI p)), (2, .int (jI w))] []
    refine j_iload_n G 2 dX5_plot_13 rfl ?_
    rcases (show w = 0 ∨ w = 1 ∨ w = 2 ∨ w = 3 ∨ w = 4 ∨ w = 5 ∨ w = 6 ∨ (¬ w = 0 ∧ ¬ w = 1 ∧ ¬ w = 2 ∧ ¬ w = 3 ∧ ¬ w = 4 ∧ ¬ w = 5 ∧ ¬ w = 6) by omega) with s14 | s14 | s14 | s14 | s14 | s14 | s14 | s14
    · refine j_tblIn (tgt := 56) G 0 dX5_plot_14 (by omega) (by omega) (by omega) rfl (by decide) ?_
      refine j_aload_n G 0 dX5_plot_56 rfl ?_
      refine j_get (q := 0) (C := RX5) (T := TX5) (N := 17) (v := .ref (q 0)) G 0 hinX5 dX5_plot_57 rfl rfl (by decide) (by decide +kernel) rfl ?_
      refine j_bipush G dX5_plot_60 (v := 28) rfl ?_
      refine j_iload_n G 1 dX5_plot_62 rfl ?_
      refine j_iadd G dX5_plot_63 ?_
      refine j_iald (v := z (28 + p)) G 1 dX5_plot_64 rfl (by omega) rfl ?_
      exact j_reti G dX5_plot_65 (by unfold F_plot; (repeat' split) <;> first | rfl | omega) (jLe.rf _) (kr0 _ _ ⟨(pAb (tZ z)), (pBe (tZ z)), rfl, rfl⟩)
    · refine j_tblIn (tgt := 66) G 1 dX5_plot_14 (by omega) (by omega) (by omega) rfl (by decide) ?_
      refine j_aload_n G 0 dX5_plot_66 rfl ?_
      refine j_get (q := 0) (C := RX5) (T := TX5) (N := 17) (v := .ref (q 0)) G 0 hinX5 dX5_plot_67 rfl rfl (by decide) (by decide +kernel) rfl ?_
      refine j_bipush G dX5_plot_70 (v := 92) rfl ?_
      refine j_iload_n G 1 dX5_plot_72 rfl ?_
      refine j_iadd G dX5_plot_73 ?_
      refine j_iald (v := z (92 + p)) G 1 dX5_plot_74 rfl (by omega) rfl ?_
      exact j_reti G dX5_plot_75 (by unfold F_plot; (repeat' split) <;> first | rfl | omega) (jLe.rf _) (kr0 _ _ ⟨(pAb (tZ z)), (pBe (tZ z)), rfl, rfl⟩)
    · refine j_tblIn (tgt := 76) G 2 dX5_plot_14 (by omega) (by omega) (by omega) rfl (by decide) ?_
      refine j_aload_n G 0 dX5_plot_76 rfl ?_
      refine j_iload_n G 1 dX5_plot_77 rfl ?_
      refine j_callV (nA := 1) (As := [.int (jI p)]) (st := []) (wc := (mV Y h q z sp pa st ke ik tx ln sn se (pAb (tZ z)) (pBe (tZ z)) fa lo to tm so)) (wr := []) G (c_X5_hits l D Y h q z sp pa st ke ik tx ln sn se fa lo to tm so p (by first | assumption | omega) (by first | assumption | exact hI.s1)) dX5_plot_78 rfl gX5_plot_X5_hits rfl rfl rfl (by decide +kernel) ⟨by decide, by decide⟩ rfl 0 rfl rfl rfl (jLe.nil (jLe.rf _)) (Nat.le_of_ble_eq_true rfl) ⟨Nat.zero_le _, Nat.zero_le _⟩ (fun v_ w_ hp_ => ?_)
      obtain ⟨rfl, rfl⟩ := hp_
      show J x 0 0 (mV Y h q z sp pa st ke ik tx ln sn se (pAb (tZ z)) (pBe (tZ z)) fa lo to tm so) 81 [(0, .ref h), (1, .int (jI p)), (2, .int (jI w))] [.int (jI (zHi z (tZ z) p))]
      exact j_reti G dX5_plot_81 (by unfold F_plot; (repeat' split) <;> first | rfl | omega) (jLe.rf _) (kr0 _ _ ⟨(pAb (tZ z)), (pBe (tZ z)), rfl, rfl⟩)
    · refine j_tblIn (tgt := 82) G 3 dX5_plot_14 (by omega) (by omega) (by omega) rfl (by decide) ?_
      refine j_aload_n G 0 dX5_plot_82 rfl ?_
      refine j_iload_n G 1 dX5_plot_83 rfl ?_
      refine j_callV (nA := 1) (As := [.int (jI p)]) (st := []) (wc := (mV Y h q z sp pa st ke ik tx ln sn se (pAb (tZ z)) (pBe (tZ z)) fa lo to tm so)) (wr := []) G (c_X5_hits l D Y h q z sp pa st ke ik tx ln sn se fa lo to tm so p (by first | assumption | omega) (by first | assumption | exact hI.s1)) dX5_plot_84 rfl gX5_plot_X5_hits rfl rfl rfl (by decide +kernel) ⟨by decide, by decide⟩ rfl 0 rfl rfl rfl (jLe.nil (jLe.rf _)) (Nat.le_of_ble_eq_true rfl) ⟨Nat.zero_le _, Nat.zero_le _⟩ (fun v_ w_ hp_ => ?_)
      obtain ⟨rfl, rfl⟩ := hp_
      show J x 0 0 (mV Y h q z sp pa st ke ik tx ln sn se (pAb (tZ z)) (pBe (tZ z)) fa lo to tm so) 87 [(0, .ref h), (1, .int (jI p)), (2, .int (jI w))] [.int (jI (zHi z (tZ z) p))]
      refine j_if_le (tgt := 94) G dX5_plot_87 (by decide) (by omega) (fun c87 => ?_) (fun c87 => ?_)
      · refine j_iconst G dX5_plot_94 (v := 0) rfl ?_
        exact j_reti G dX5_plot_95 (by unfold F_plot; (repeat' split) <;> first | rfl | omega) (jLe.rf _) (kr0 _ _ ⟨(pAb (tZ z)), (pBe (tZ z)), rfl, rfl⟩)
      · refine j_iconst G dX5_plot_90 (v := 1) rfl ?_
        refine j_goto (tgt := 95) G dX5_plot_91 (by decide) ?_
        exact j_reti G dX5_plot_95 (by unfold F_plot; (repeat' split) <;> first | rfl | omega) (jLe.rf _) (kr0 _ _ ⟨(pAb (tZ z)), (pBe (tZ z)), rfl, rfl⟩)
    · refine j_tblIn (tgt := 96) G 4 dX5_plot_14 (by omega) (by omega) (by omega) rfl (by decide) ?_
      refine j_aload_n G 0 dX5_plot_96 rfl ?_
      refine j_iload_n G 1 dX5_plot_97 rfl ?_
      refine j_callV (nA := 1) (As := [.int (jI p)]) (st := []) (wc := (mV Y h q z sp pa st ke ik tx ln sn se (pAb (tZ z)) (pBe (tZ z)) fa lo to tm so)) (wr := []) G (c_X5_hits l D Y h q z sp pa st ke ik tx ln sn se fa lo to tm so p (by first | assumption | omega) (by first | assumption | exact hI.s1)) dX5_plot_98 rfl gX5_plot_X5_hits rfl rfl rfl (by decide +kernel) ⟨by decide, by decide⟩ rfl 0 rfl rfl rfl (jLe.nil (jLe.rf _)) (Nat.le_of_ble_eq_true rfl) ⟨Nat.zero_le _, Nat.zero_le _⟩ (fun v_ w_ hp_ => ?_)
      obtain ⟨rfl, rfl⟩ := hp_
      show J x 0 0 (mV Y h q z sp pa st ke ik tx ln sn se (pAb (tZ z)) (pBe (tZ z)) fa lo to tm so) 101 [(0, .ref h), (1, .int (jI p)), (2, .int (jI w))] [.int (jI (zHi z (tZ z) p))]
      refine j_aload_n G 0 dX5_plot_101 rfl ?_
      refine j_callV (nA := 0) (As := []) (st := [.int (jI (zHi z (tZ z) p))]) (wc := (mV Y h q z sp pa st ke ik tx ln sn se (pAb (tZ z)) (pBe (tZ z)) fa lo to tm so)) (wr := []) G (c_X5_allPaths l D Y h q z sp pa st ke ik tx ln sn se fa lo to tm so ) dX5_plot_102 rfl gX5_plot_X5_allPaths rfl rfl rfl (by decide +kernel) ⟨by decide, by decide⟩ rfl 0 rfl rfl rfl (jLe.nil (jLe.rf _)) (Nat.le_of_ble_eq_true rfl) ⟨Nat.zero_le _, Nat.zero_le _⟩ (fun v_ w_ hp_ => ?_)
      obtain ⟨rfl, rfl⟩ := hp_
      show J x 0 0 (mV Y h q z sp pa st ke ik tx ln sn se (pAb (tZ z)) (pBe (tZ z)) fa lo to tm so) 105 [(0, .ref h), (1, .int (jI p)), (2, .int (jI w))] [.int (jI (pAll (tZ z))), .int (jI (zHi z (tZ z) p))]
      refine j_icmp_ne (tgt := 112) G dX5_plot_105 (by decide) (by omega) (by omega) (fun c105 => ?_) (fun c105 => ?_)
      · refine j_iconst G dX5_plot_112 (v := 0) rfl ?_
        exact j_reti G dX5_plot_113 (by unfold F_plot; (repeat' split) <;> first | rfl | omega) (jLe.rf _) (kr0 _ _ ⟨(pAb (tZ z)), (pBe (tZ z)), rfl, rfl⟩)
      · refine j_iconst G dX5_plot_108 (v := 1) rfl ?_
        refine j_goto (tgt := 113) G dX5_plot_109 (by decide) ?_
        exact j_reti G dX5_plot_113 (by unfold F_plot; (repeat' split) <;> first | rfl | omega) (jLe.rf _) (kr0 _ _ ⟨(pAb (tZ z)), (pBe (tZ z)), rfl, rfl⟩)
    · refine j_tblIn (tgt := 114) G 5 dX5_plot_14 (by omega) (by omega) (by omega) rfl (by decide) ?_
      refine j_aload_n G 0 dX5_plot_114 rfl ?_
      refine j_iload_n G 1 dX5_plot_115 rfl ?_
      refine j_callV (nA := 1) (As := [.int (jI p)]) (st := []) (wc := (mV Y h q z sp pa st ke ik tx ln sn se (pAb (tZ z)) (pBe (tZ z)) fa lo to tm so)) (wr := []) G (c_X5_standsToLose l D Y h q z sp pa st ke ik tx ln sn se fa lo to tm so p (by first | assumption | omega) (by first | assumption | omega)) dX5_plot_116 rfl gX5_plot_X5_standsToLose rfl rfl rfl (by decide +kernel) ⟨by decide, by decide⟩ rfl 0 rfl rfl rfl (jLe.nil (jLe.rf _)) (Nat.le_of_ble_eq_true rfl) ⟨Nat.zero_le _, Nat.zero_le _⟩ (fun v_ w_ hp_ => ?_)
      obtain ⟨rfl, rfl⟩ := hp_
      show J x 0 0 (mV Y h q z sp pa st ke ik tx ln sn se (pAb (tZ z)) (pBe (tZ z)) fa lo to tm so) 119 [(0, .ref h), (1, .int (jI p)), (2, .int (jI w))] [.int (jI (zLo z (tZ z) p))]
      exact j_reti G dX5_plot_119 (by unfold F_plot; (repeat' split) <;> first | rfl | omega) (jLe.rf _) (kr0 _ _ ⟨(pAb (tZ z)), (pBe (tZ z)), rfl, rfl⟩)
    · refine j_tblIn (tgt := 120) G 6 dX5_plot_14 (by omega) (by omega) (by omega) rfl (by decide) ?_
      refine j_aload_n G 0 dX5_plot_120 rfl ?_
      refine j_get (q := 0) (C := RX5) (T := TX5) (N := 17) (v := .ref (q 0)) G 0 hinX5 dX5_plot_121 rfl rfl (by decide) (by decide +kernel) rfl ?_
      refine j_sipush G dX5_plot_124 (v := 156) rfl ?_
      refine j_iload_n G 1 dX5_plot_127 rfl ?_
      refine j_iadd G dX5_plot_128 ?_
      refine j_iald (v := z (156 + p)) G 1 dX5_plot_129 rfl (by omega) rfl ?_
      exact j_reti G dX5_plot_130 (by unfold F_plot; (repeat' split) <;> first | rfl | omega) (jLe.rf _) (kr0 _ _ ⟨(pAb (tZ z)), (pBe (tZ z)), rfl, rfl⟩)
    · refine j_tblOut (tgt := 131) G dX5_plot_14 (by omega) (by omega) (by decide) ?_
      refine j_bipush G dX5_plot_131 (v := (-2)) rfl ?_
      exact j_reti G dX5_plot_133 (by unfold F_plot; (repeat' split) <;> first | rfl | omega) (jLe.rf _) (kr0 _ _ ⟨(pAb (tZ z)), (pBe (tZ z)), rfl, rfl⟩)
  · refine j_iconst G dX5_plot_7 (v := (-1)) rfl ?_
    exact j_reti G dX5_plot_8 (by unfold F_plot; (repeat' split) <;> first | rfl | omega) (jLe.rf _) (kr0 _ _ ⟨dn, up, rfl, rfl⟩)

set_option maxHeartbeats 4000000 in
set_option maxRecDepth 100000 in
theorem c_X5_crew (l : Launch) (D : va_G) (Y : Nat → ClassId) (h : Nat) (q : Nat → Nat) (z : Int → Int) (sp : Int → Int) (pa : Int → Int) (st : Int) (ke : Int → Int) (ik : Int) (tx : Int → Int) (ln : Int) (sn : Int) (se : Int) (dn : Int → Int) (up : Int → Int) (fa : Int → Int) (lo : Int → Int) (to : Int → Int) (tm : Int) (so : Int) (k : Int) (w : Int) (h_k : -2147483648 ≤ k ∧ k < 2147483648) (h_w : -2147483648 ≤ w ∧ w < 2147483648) : jM l yX5_crew wsX5_crew { frames := 2, cells := 0, slots := 0, locals := 42 } D Y [.ref h, .int (jI k), .int (jI w)] (mV Y h q z sp pa st ke ik tx ln sn se dn up fa lo to tm so) (fun v_ w_ => v_ = some (.int (jI (F_crew z k w))) ∧ w_ = (mV Y h q z sp pa st ke ik tx ln sn se dn up fa lo to tm so)) 0 0 := by
  refine jM_of (cc := cX5_crew) (maxL := 3) (ret := (some .int)) (by decide) rfl (Nat.le_of_ble_eq_true rfl) (fun v w' h => Or.inr (Or.inl ⟨_, _, rfl, h.1, rfl⟩)) ?_
  intro x G kr0
  have kr := kr0 _ _ ⟨rfl, rfl⟩
  have G : jG x l D Y cX5_crew RX5 wsX5_crew 3 ({ frames := 2, cells := 0, slots := 0, locals := 42 } : Room) (some .int) "crew" := G
  show J x 0 0 (mV Y h q z sp pa st ke ik tx ln sn se dn up fa lo to tm so) 0 [(0, .ref h), (1, .int (jI k)), (2, .int (jI w))] []
  refine j_iload_n G 1 dX5_crew_0 rfl ?_
  refine j_callS (nA := 1) (As := [.int (jI k)]) (st := []) (wc := []) (wr := (mV Y h q z sp pa st ke ik tx ln sn se dn up fa lo to tm so)) G (c_X5_isCrew l D Y k (by first | assumption | omega)) dX5_crew_1 rfl gX5_crew_X5_isCrew rfl rfl rfl (by decide +kernel) ⟨by decide, by decide⟩ rfl (jLe.rf _) (Nat.le_of_ble_eq_true rfl) ⟨Nat.zero_le _, Nat.zero_le _⟩ (fun v_ w_ hp_ => ?_)
  obtain ⟨rfl, rfl⟩ := hp_
  show J x 0 0 (mV Y h q z sp pa st ke ik tx ln sn se dn up fa lo to tm so) 4 [(0, .ref h), (1, .int (jI k)), (2, .int (jI w))] [.int (jI (if 0 ≤ k ∧ k ≤ 2 then 1 else 0))]
  refine j_ifz_ne (tgt := 9) G dX5_crew_4 (by decide) (fun c4 => ?_) (fun c4 => ?_)
  · refine j_iload_n G 2 dX5_crew_9 rfl ?_
    refine j_iconst G dX5_crew_10 (v := 0) rfl ?_
    refine j_iconst G dX5_crew_11 (v := 3) rfl ?_
    refine j_callS (nA := 3) (As := [.int (jI w), .int (jI 0), .int (jI 3)]) (st := []) (wc := []) (wr := (mV Y h q z sp pa st ke ik tx ln sn se dn up fa lo to tm so)) G (c_X5_in l D Y w 0 3 (by first | assumption | omega) (by first | assumption | omega) (by first | assumption | omega)) dX5_crew_12 rfl gX5_crew_X5_in rfl rfl rfl (by decide +kernel) ⟨by decide, by decide⟩ rfl (jLe.rf _) (Nat.le_of_ble_eq_true rfl) ⟨Nat.zero_le _, Nat.zero_le _⟩ (fun v_ w_ hp_ => ?_)
    obtain ⟨rfl, rfl⟩ := hp_
    show J x 0 0 (mV Y h q z sp pa st ke ik tx ln sn se dn up fa lo to tm so) 15 [(0, .ref h), (1, .int (jI k)), (2, .int (jI w))] [.int (jI (if 0 ≤ w ∧ w ≤ 3 then 1 else 0))]
    refine j_ifz_eq (tgt := 27) G dX5_crew_15 (by decide) (fun c15 => ?_) (fun c15 => ?_)
    · refine j_bipush G dX5_crew_27 (v := (-2)) rfl ?_
      exact j_reti G dX5_crew_29 (by first | (unfold F_crew; rw [if_pos (by omega), if_neg (by omega), if_neg (by omega), if_neg (by omega), if_neg (by omega)]; done) | (unfold F_crew; rw [if_pos (by omega)]; rcases (show w = 0 ∨ w = 1 ∨ w = 2 ∨ w = 3 by omega) with e | e | e | e <;> subst e <;> first | exact congrArg z (show 15 + 4 * k + 0 = 15 + 4 * k by omega) | exact congrArg z (show 15 + 4 * k + 1 = 16 + 4 * k by omega) | exact congrArg z (show 15 + 4 * k + 2 = 17 + 4 * k by omega) | exact congrArg z (show 15 + 4 * k + 3 = 18 + 4 * k by omega))) (jLe.rf _) kr
    · refine j_aload_n G 0 dX5_crew_18 rfl ?_
      refine j_iload_n G 1 dX5_crew_19 rfl ?_
      refine j_iload_n G 2 dX5_crew_20 rfl ?_
      refine j_callV (nA := 2) (As := [.int (jI k), .int (jI w)]) (st := []) (wc := (mV Y h q z sp pa st ke ik tx ln sn se dn up fa lo to tm so)) (wr := []) G (c_X5_of l D Y h q z sp pa st ke ik tx ln sn se dn up fa lo to tm so k w (by first | assumption | omega) (by first | assumption | omega)) dX5_crew_21 rfl gX5_crew_X5_of rfl rfl rfl (by decide +kernel) ⟨by decide, by decide⟩ rfl 0 rfl rfl rfl (jLe.nil (jLe.rf _)) (Nat.le_of_ble_eq_true rfl) ⟨Nat.zero_le _, Nat.zero_le _⟩ (fun v_ w_ hp_ => ?_)
      obtain ⟨rfl, rfl⟩ := hp_
      show J x 0 0 (mV Y h q z sp pa st ke ik tx ln sn se dn up fa lo to tm so) 24 [(0, .ref h), (1, .int (jI k)), (2, .int (jI w))] [.int (jI (z (15 + 4 * k + w)))]
      refine j_goto (tgt := 29) G dX5_crew_24 (by decide) ?_
      exact j_reti G dX5_crew_29 (by first | (unfold F_crew; rw [if_pos (by omega), if_neg (by omega), if_neg (by omega), if_neg (by omega), if_neg (by omega)]; done) | (unfold F_crew; rw [if_pos (by omega)]; rcases (show w = 0 ∨ w = 1 ∨ w = 2 ∨ w = 3 by omega) with e | e | e | e <;> subst e <;> first | exact congrArg z (show 15 + 4 * k + 0 = 15 + 4 * k by omega) | exact congrArg z (show 15 + 4 * k + 1 = 16 + 4 * k by omega) | exact congrArg z (show 15 + 4 * k + 2 = 17 + 4 * k by omega) | exact congrArg z (show 15 + 4 * k + 3 = 18 + 4 * k by omega))) (jLe.rf _) kr
  · refine j_iconst G dX5_crew_7 (v := (-1)) rfl ?_
    exact j_reti G dX5_crew_8 (by exact (if_neg (by omega)).symm) (jLe.rf _) kr

theorem pTh_pos (t : Int → Int) {p : Int} (hp : 0 ≤ p ∧ p < 64) : 0 < pTh t p ↔ (0 < pAb t p ∧ 0 < pBe t p) := by
  have h1 := pAb_b t hp
  have h2 := pBe_b t hp
  unfold pTh
  constructor
  · intro h
    refine ⟨?_, ?_⟩
    · by_cases e : pAb t p = 0
      · rw [e, Int.zero_mul] at h; omega
      · omega
    · by_cases e : pBe t p = 0
      · rw [e, Int.mul_zero] at h; omega
      · omega
  · intro h
    exact Int.mul_pos h.1 h.2
theorem cLeast_S5 {o : Int → Int} {i : Int} (h : 0 ≤ i) : cLeast o (i + 1).toNat = if 0 < o i ∧ cLeast o i.toNat = -5 then i else cLeast o i.toNat := by
  rw [show (i + 1).toNat = i.toNat + 1 by omega]
  show (if 0 < o ((i.toNat : Nat) : Int) ∧ cLeast o i.toNat = -5 then ((i.toNat : Nat) : Int) else cLeast o i.toNat) = _
  rw [Int.toNat_of_nonneg h]
theorem cMost_S5 {o : Int → Int} {i : Int} (h : 0 ≤ i) : cMost o (i + 1).toNat = if 0 < o i then i else cMost o i.toNat := by
  rw [show (i + 1).toNat = i.toNat + 1 by omega]
  show (if 0 < o ((i.toNat : Nat) : Int) then ((i.toNat : Nat) : Int) else cMost o i.toNat) = _
  rw [Int.toNat_of_nonneg h]

set_option maxHeartbeats 4000000 in
set_option maxRecDepth 100000 in
theorem c_X5_columns (l : Launch) (D : va_G) (Y : Nat → ClassId) (h : Nat) (q : Nat → Nat) (z : Int → Int) (sp : Int → Int) (pa : Int → Int) (st : Int) (ke : Int → Int) (ik : Int) (tx : Int → Int) (ln : Int) (sn : Int) (se : Int) (fa : Int → Int) (lo : Int → Int) (to : Int → Int) (tm : Int) (so : Int) (r : Int) (w : Int) (hr : 0 ≤ r ∧ r < 8) (hw : 0 ≤ w ∧ w ≤ 2) : jM l yX5_columns wsX5_columns { frames := 0, cells := 0, slots := 0, locals := 0 } D Y [.ref h, .int (jI r), .int (jI w)] (mV Y h q z sp pa st ke ik tx ln sn se (pAb (tZ z)) (pBe (tZ z)) fa lo to tm so) (fun v_ w_ => v_ = some (.int (jI (if w = 0 then cOpen (fun c => pTh (tZ z) (r * 8 + c)) 8 else if w = 1 then cLeast (fun c => pTh (tZ z) (r * 8 + c)) 8 else cMost (fun c => pTh (tZ z) (r * 8 + c)) 8))) ∧ w_ = (mV Y h q z sp pa st ke ik tx ln sn se (pAb (tZ z)) (pBe (tZ z)) fa lo to tm so)) 0 0 := by
  refine jM_of (cc := cX5_columns) (maxL := 8) (ret := (some .int)) (by decide) rfl (Nat.le_of_ble_eq_true rfl) (fun v w' h => Or.inr (Or.inl ⟨_, _, rfl, h.1, rfl⟩)) ?_
  intro x G kr0
  have kr := kr0 _ _ ⟨rfl, rfl⟩
  have G : jG x l D Y cX5_columns RX5 wsX5_columns 8 ({ frames := 0, cells := 0, slots := 0, locals := 0 } : Room) (some .int) "columns" := G
  have hinX5 : ∀ w ∈ wsX50, w ∈ wsX5_columns := fun _ h => List.mem_cons_of_mem _ (List.mem_append_right _ h)
  show J x 0 0 (mV Y h q z sp pa st ke ik tx ln sn se (pAb (tZ z)) (pBe (tZ z)) fa lo to tm so) 0 [(0, .ref h), (1, .int (jI r)), (2, .int (jI w))] []
  refine j_iconst G dX5_columns_0 (v := 0) rfl ?_
  refine j_istore_n (lv' := [(3, .int (jI 0)), (0, .ref h), (1, .int (jI r)), (2, .int (jI w))]) G dX5_columns_1 (by decide) rfl ?_
  refine j_bipush G dX5_columns_2 (v := (-5)) rfl ?_
  refine j_istore (lv' := [(4, .int (jI (-5))), (3, .int (jI 0)), (0, .ref h), (1, .int (jI r)), (2, .int (jI w))]) G dX5_columns_4 (by decide) rfl ?_
  refine j_bipush G dX5_columns_6 (v := (-5)) rfl ?_
  refine j_istore (lv' := [(5, .int (jI (-5))), (4, .int (jI (-5))), (3, .int (jI 0)), (0, .ref h), (1, .int (jI r)), (2, .int (jI w))]) G dX5_columns_8 (by decide) rfl ?_
  refine j_iconst G dX5_columns_10 (v := 0) rfl ?_
  refine j_istore (lv' := [(6, .int (jI 0)), (5, .int (jI (-5))), (4, .int (jI (-5))), (3, .int (jI 0)), (0, .ref h), (1, .int (jI r)), (2, .int (jI w))]) G dX5_columns_11 (by decide) rfl ?_
  have lp13 : ∀ (n_ : Nat) (c : Int) (n : Int) (a : Int) (b : Int), (0 ≤ c ∧ c ≤ 8) → (n = cOpen (fun c => pTh (tZ z) (r * 8 + c)) c.toNat) → (a = cLeast (fun c => pTh (tZ z) (r * 8 + c)) c.toNat) → (-5 ≤ a ∧ a ≤ 8) → (b = cMost (fun c => pTh (tZ z) (r * 8 + c)) c.toNat) → (8 - c) < (n_ : Int) → J x 0 0 (mV Y h q z sp pa st ke ik tx ln sn se (pAb (tZ z)) (pBe (tZ z)) fa lo to tm so) 13 [(0, .ref h), (1, .int (jI r)), (2, .int (jI w)), (3, .int (jI n)), (4, .int (jI a)), (5, .int (jI b)), (6, .int (jI c))] [] := by
    intro n_
    induction n_ with
    | zero =>
      intro c n a b hc hn ha hab hb hm_
      exact absurd hm_ (by omega)
    | succ n_ ih13 =>
      intro c n a b hc hn ha hab hb hm_
      refine j_iload G 6 dX5_columns_13 rfl ?_
      refine j_bipush G dX5_columns_15 (v := 8) rfl ?_
      refine j_icmp_ge (tgt := 111) G dX5_columns_17 (by decide) (by omega) (by omega) (fun c17 => ?_) (fun c17 => ?_)
      · have hc8 : c = 8 := by omega
        rw [hc8] at hn ha hb
        refine j_iload_n G 2 dX5_columns_111 rfl ?_
        refine j_if_ne (tgt := 119) G dX5_columns_112 (by decide) (by omega) (fun c112 => ?_) (fun c112 => ?_)
        · refine j_iload_n G 2 dX5_columns_119 rfl ?_
          refine j_iconst G dX5_columns_120 (v := 1) rfl ?_
          refine j_icmp_ne (tgt := 129) G dX5_columns_121 (by decide) (by omega) (by omega) (fun c121 => ?_) (fun c121 => ?_)
          · refine j_iload G 5 dX5_columns_129 rfl ?_
            exact j_reti G dX5_columns_131 (by first | (rw [if_pos (by omega), hn]; rfl) | (rw [if_neg (by omega), if_pos (by omega), ha]; rfl) | (rw [if_neg (by omega), if_neg (by omega), hb]; rfl)) (jLe.rf _) kr
          · refine j_iload G 4 dX5_columns_124 rfl ?_
            refine j_goto (tgt := 131) G dX5_columns_126 (by decide) ?_
            exact j_reti G dX5_columns_131 (by first | (rw [if_pos (by omega), hn]; rfl) | (rw [if_neg (by omega), if_pos (by omega), ha]; rfl) | (rw [if_neg (by omega), if_neg (by omega), hb]; rfl)) (jLe.rf _) kr
        · refine j_iload_n G 3 dX5_columns_115 rfl ?_
          refine j_goto (tgt := 131) G dX5_columns_116 (by decide) ?_
          exact j_reti G dX5_columns_131 (by first | (rw [if_pos (by omega), hn]; rfl) | (rw [if_neg (by omega), if_pos (by omega), ha]; rfl) | (rw [if_neg (by omega), if_neg (by omega), hb]; rfl)) (jLe.rf _) kr
      · have g1 := pAb_b (tZ z) (p := 8 * r + c) (by omega)
        have g2 := pBe_b (tZ z) (p := 8 * r + c) (by omega)
        have g3 : 0 < pTh (tZ z) (r * 8 + c) ↔ (0 < pAb (tZ z) (8 * r + c) ∧ 0 < pBe (tZ z) (8 * r + c)) := by rw [show 8 * r + c = r * 8 + c by omega]; exact pTh_pos (tZ z) (by omega)
        refine j_aload_n G 0 dX5_columns_20 rfl ?_
        refine j_get (q := 10) (C := RX5) (T := TX5) (N := 17) (v := .ref (q 5)) G 0 hinX5 dX5_columns_21 rfl rfl (by decide) (by decide +kernel) rfl ?_
        refine j_bipush G dX5_columns_24 (v := 8) rfl ?_
        refine j_iload_n G 1 dX5_columns_26 rfl ?_
        refine j_imul G dX5_columns_27 ?_
        refine j_iload G 6 dX5_columns_28 rfl ?_
        refine j_iadd G dX5_columns_30 ?_
        refine j_iald (v := (pAb (tZ z)) ((8 * r) + c)) G 6 dX5_columns_31 rfl (by omega) rfl ?_
        refine j_if_le (tgt := 54) G dX5_columns_32 (by decide) (by omega) (fun c32 => ?_) (fun c32 => ?_)
        · refine j_iconst G dX5_columns_54 (v := 0) rfl ?_
          refine j_istore (lv' := [(7, .int (jI 0)), (0, .ref h), (1, .int (jI r)), (2, .int (jI w)), (3, .int (jI n)), (4, .int (jI a)), (5, .int (jI b)), (6, .int (jI c))]) G dX5_columns_55 (by decide) rfl ?_
          refine j_iload_n G 4 dX5_columns_57 rfl ?_
          refine j_iload G 0 dX5_columns_58 rfl ?_
          refine j_if_eq (tgt := 67) G dX5_columns_60 (by decide) (by omega) (fun c60 => ?_) (fun c60 => absurd c60 (by omega))
          refine j_iconst G dX5_columns_67 (v := 0) rfl ?_
          refine j_iadd G dX5_columns_68 ?_
          refine j_istore_n (lv' := [(3, .int (jI (n + 0))), (7, .int (jI 0)), (0, .ref h), (1, .int (jI r)), (2, .int (jI w)), (4, .int (jI a)), (5, .int (jI b)), (6, .int (jI c))]) G dX5_columns_69 (by decide) rfl ?_
          refine j_iload G 1 dX5_columns_70 rfl ?_
          refine j_if_eq (tgt := 87) G dX5_columns_72 (by decide) (by omega) (fun c72 => ?_) (fun c72 => absurd c72 (by omega))
          refine j_iload G 5 dX5_columns_87 rfl ?_
          refine j_istore (lv' := [(4, .int (jI a)), (3, .int (jI (n + 0))), (7, .int (jI 0)), (0, .ref h), (1, .int (jI r)), (2, .int (jI w)), (5, .int (jI b)), (6, .int (jI c))]) G dX5_columns_89 (by decide) rfl ?_
          refine j_iload G 2 dX5_columns_91 rfl ?_
          refine j_if_eq (tgt := 101) G dX5_columns_93 (by decide) (by omega) (fun c93 => ?_) (fun c93 => absurd c93 (by omega))
          refine j_iload G 6 dX5_columns_101 rfl ?_
          refine j_istore (lv' := [(5, .int (jI b)), (4, .int (jI a)), (3, .int (jI (n + 0))), (7, .int (jI 0)), (0, .ref h), (1, .int (jI r)), (2, .int (jI w)), (6, .int (jI c))]) G dX5_columns_103 (by decide) rfl ?_
          refine j_iinc (w := c + 1) (lv' := [(6, .int (jI (c + 1))), (5, .int (jI b)), (4, .int (jI a)), (3, .int (jI (n + 0))), (7, .int (jI 0)), (0, .ref h), (1, .int (jI r)), (2, .int (jI w))]) G 7 dX5_columns_105 rfl rfl (by decide) rfl ?_
          refine j_goto (tgt := 13) G dX5_columns_108 (by decide) ?_
          refine j_lv [5, 6, 7, 3, 2, 1, 0] (lv' := [(0, .ref h), (1, .int (jI r)), (2, .int (jI w)), (3, .int (jI (n + 0))), (4, .int (jI a)), (5, .int (jI b)), (6, .int (jI (c + 1)))]) rfl ?_
          exact ih13 (c + 1) (n + 0) a b (by omega) (by rw [cOpen_S hc.1, hn]; first | rw [if_pos (by omega)] | rw [if_neg (by omega)]) (by rw [cLeast_S5 hc.1, ← ha]; first | rw [if_pos (by omega)] | rw [if_neg (by omega)]) (by omega) (by rw [cMost_S5 hc.1, ← hb]; first | rw [if_pos (by omega)] | rw [if_neg (by omega)]) (by omega)
        · refine j_aload_n G 0 dX5_columns_35 rfl ?_
          refine j_get (q := 11) (C := RX5) (T := TX5) (N := 17) (v := .ref (q 6)) G 0 hinX5 dX5_columns_36 rfl rfl (by decide) (by decide +kernel) rfl ?_
          refine j_bipush G dX5_columns_39 (v := 8) rfl ?_
          refine j_iload_n G 1 dX5_columns_41 rfl ?_
          refine j_imul G dX5_columns_42 ?_
          refine j_iload G 6 dX5_columns_43 rfl ?_
          refine j_iadd G dX5_columns_45 ?_
          refine j_iald (v := (pBe (tZ z)) ((8 * r) + c)) G 7 dX5_columns_46 rfl (by omega) rfl ?_
          refine j_if_le (tgt := 54) G dX5_columns_47 (by decide) (by omega) (fun c47 => ?_) (fun c47 => ?_)
          · refine j_iconst G dX5_columns_54 (v := 0) rfl ?_
            refine j_istore (lv' := [(7, .int (jI 0)), (0, .ref h), (1, .int (jI r)), (2, .int (jI w)), (3, .int (jI n)), (4, .int (jI a)), (5, .int (jI b)), (6, .int (jI c))]) G dX5_columns_55 (by decide) rfl ?_
            refine j_iload_n G 4 dX5_columns_57 rfl ?_
            refine j_iload G 0 dX5_columns_58 rfl ?_
            refine j_if_eq (tgt := 67) G dX5_columns_60 (by decide) (by omega) (fun c60 => ?_) (fun c60 => absurd c60 (by omega))
            refine j_iconst G dX5_columns_67 (v := 0) rfl ?_
            refine j_iadd G dX5_columns_68 ?_
            refine j_istore_n (lv' := [(3, .int (jI (n + 0))), (7, .int (jI 0)), (0, .ref h), (1, .int (jI r)), (2, .int (jI w)), (4, .int (jI a)), (5, .int (jI b)), (6, .int (jI c))]) G dX5_columns_69 (by decide) rfl ?_
            refine j_iload G 1 dX5_columns_70 rfl ?_
            refine j_if_eq (tgt := 87) G dX5_columns_72 (by decide) (by omega) (fun c72 => ?_) (fun c72 => absurd c72 (by omega))
            refine j_iload G 5 dX5_columns_87 rfl ?_
            refine j_istore (lv' := [(4, .int (jI a)), (3, .int (jI (n + 0))), (7, .int (jI 0)), (0, .ref h), (1, .int (jI r)), (2, .int (jI w)), (5, .int (jI b)), (6, .int (jI c))]) G dX5_columns_89 (by decide) rfl ?_
            refine j_iload G 2 dX5_columns_91 rfl ?_
            refine j_if_eq (tgt := 101) G dX5_columns_93 (by decide) (by omega) (fun c93 => ?_) (fun c93 => absurd c93 (by omega))
            refine j_iload G 6 dX5_columns_101 rfl ?_
            refine j_istore (lv' := [(5, .int (jI b)), (4, .int (jI a)), (3, .int (jI (n + 0))), (7, .int (jI 0)), (0, .ref h), (1, .int (jI r)), (2, .int (jI w)), (6, .int (jI c))]) G dX5_columns_103 (by decide) rfl ?_
            refine j_iinc (w := c + 1) (lv' := [(6, .int (jI (c + 1))), (5, .int (jI b)), (4, .int (jI a)), (3, .int (jI (n + 0))), (7, .int (jI 0)), (0, .ref h), (1, .int (jI r)), (2, .int (jI w))]) G 7 dX5_columns_105 rfl rfl (by decide) rfl ?_
            refine j_goto (tgt := 13) G dX5_columns_108 (by decide) ?_
            refine j_lv [5, 6, 7, 3, 2, 1, 0] (lv' := [(0, .ref h), (1, .int (jI r)), (2, .int (jI w)), (3, .int (jI (n + 0))), (4, .int (jI a)), (5, .int (jI b)), (6, .int (jI (c + 1)))]) rfl ?_
            exact ih13 (c + 1) (n + 0) a b (by omega) (by rw [cOpen_S hc.1, hn]; first | rw [if_pos (by omega)] | rw [if_neg (by omega)]) (by rw [cLeast_S5 hc.1, ← ha]; first | rw [if_pos (by omega)] | rw [if_neg (by omega)]) (by omega) (by rw [cMost_S5 hc.1, ← hb]; first | rw [if_pos (by omega)] | rw [if_neg (by omega)]) (by omega)
          · refine j_iconst G dX5_columns_50 (v := 1) rfl ?_
            refine j_goto (tgt := 55) G dX5_columns_51 (by decide) ?_
            refine j_istore (lv' := [(7, .int (jI 1)), (0, .ref h), (1, .int (jI r)), (2, .int (jI w)), (3, .int (jI n)), (4, .int (jI a)), (5, .int (jI b)), (6, .int (jI c))]) G dX5_columns_55 (by decide) rfl ?_
            refine j_iload_n G 4 dX5_columns_57 rfl ?_
            refine j_iload G 0 dX5_columns_58 rfl ?_
            refine j_if_eq (tgt := 67) G dX5_columns_60 (by decide) (by omega) (fun c60 => absurd c60 (by omega)) (fun c60 => ?_)
            refine j_iconst G dX5_columns_63 (v := 1) rfl ?_
            refine j_goto (tgt := 68) G dX5_columns_64 (by decide) ?_
            refine j_iadd G dX5_columns_68 ?_
            refine j_istore_n (lv' := [(3, .int (jI (n + 1))), (7, .int (jI 1)), (0, .ref h), (1, .int (jI r)), (2, .int (jI w)), (4, .int (jI a)), (5, .int (jI b)), (6, .int (jI c))]) G dX5_columns_69 (by decide) rfl ?_
            refine j_iload G 1 dX5_columns_70 rfl ?_
            refine j_if_eq (tgt := 87) G dX5_columns_72 (by decide) (by omega) (fun c72 => absurd c72 (by omega)) (fun c72 => ?_)
            refine j_iload G 5 dX5_columns_75 rfl ?_
            refine j_bipush G dX5_columns_77 (v := (-5)) rfl ?_
            refine j_icmp_ne (tgt := 87) G dX5_columns_79 (by decide) (by omega) (by omega) (fun c79 => ?_) (fun c79 => ?_)
            · refine j_iload G 5 dX5_columns_87 rfl ?_
              refine j_istore (lv' := [(4, .int (jI a)), (3, .int (jI (n + 1))), (7, .int (jI 1)), (0, .ref h), (1, .int (jI r)), (2, .int (jI w)), (5, .int (jI b)), (6, .int (jI c))]) G dX5_columns_89 (by decide) rfl ?_
              refine j_iload G 2 dX5_columns_91 rfl ?_
              refine j_if_eq (tgt := 101) G dX5_columns_93 (by decide) (by omega) (fun c93 => absurd c93 (by omega)) (fun c93 => ?_)
              refine j_iload G 7 dX5_columns_96 rfl ?_
              refine j_goto (tgt := 103) G dX5_columns_98 (by decide) ?_
              refine j_istore (lv' := [(5, .int (jI c)), (4, .int (jI a)), (3, .int (jI (n + 1))), (7, .int (jI 1)), (0, .ref h), (1, .int (jI r)), (2, .int (jI w)), (6, .int (jI c))]) G dX5_columns_103 (by decide) rfl ?_
              refine j_iinc (w := c + 1) (lv' := [(6, .int (jI (c + 1))), (5, .int (jI c)), (4, .int (jI a)), (3, .int (jI (n + 1))), (7, .int (jI 1)), (0, .ref h), (1, .int (jI r)), (2, .int (jI w))]) G 7 dX5_columns_105 rfl rfl (by decide) rfl ?_
              refine j_goto (tgt := 13) G dX5_columns_108 (by decide) ?_
              refine j_lv [5, 6, 7, 3, 2, 1, 0] (lv' := [(0, .ref h), (1, .int (jI r)), (2, .int (jI w)), (3, .int (jI (n + 1))), (4, .int (jI a)), (5, .int (jI c)), (6, .int (jI (c + 1)))]) rfl ?_
              exact ih13 (c + 1) (n + 1) a c (by omega) (by rw [cOpen_S hc.1, hn]; first | rw [if_pos (by omega)] | rw [if_neg (by omega)]) (by rw [cLeast_S5 hc.1, ← ha]; first | rw [if_pos (by omega)] | rw [if_neg (by omega)]) (by omega) (by rw [cMost_S5 hc.1, ← hb]; first | rw [if_pos (by omega)] | rw [if_neg (by omega)]) (by omega)
            · refine j_iload G 7 dX5_columns_82 rfl ?_
              refine j_goto (tgt := 89) G dX5_columns_84 (by decide) ?_
              refine j_istore (lv' := [(4, .int (jI c)), (3, .int (jI (n + 1))), (7, .int (jI 1)), (0, .ref h), (1, .int (jI r)), (2, .int (jI w)), (5, .int (jI b)), (6, .int (jI c))]) G dX5_columns_89 (by decide) rfl ?_
              refine j_iload G 2 dX5_columns_91 rfl ?_
              refine j_if_eq (tgt := 101) G dX5_columns_93 (by decide) (by omega) (fun c93 => absurd c93 (by omega)) (fun c93 => ?_)
              refine j_iload G 7 dX5_columns_96 rfl ?_
              refine j_goto (tgt := 103) G dX5_columns_98 (by decide) ?_
              refine j_istore (lv' := [(5, .int (jI c)), (4, .int (jI c)), (3, .int (jI (n + 1))), (7, .int (jI 1)), (0, .ref h), (1, .int (jI r)), (2, .int (jI w)), (6, .int (jI c))]) G dX5_columns_103 (by decide) rfl ?_
              refine j_iinc (w := c + 1) (lv' := [(6, .int (jI (c + 1))), (5, .int (jI c)), (4, .int (jI c)), (3, .int (jI (n + 1))), (7, .int (jI 1)), (0, .ref h), (1, .int (jI r)), (2, .int (jI w))]) G 7 dX5_columns_105 rfl rfl (by decide) rfl ?_
              refine j_goto (tgt := 13) G dX5_columns_108 (by decide) ?_
              refine j_lv [5, 6, 7, 3, 2, 1, 0] (lv' := [(0, .ref h), (1, .int (jI r)), (2, .int (jI w)), (3, .int (jI (n + 1))), (4, .int (jI c)), (5, .int (jI c)), (6, .int (jI (c + 1)))]) rfl ?_
              exact ih13 (c + 1) (n + 1) c c (by omega) (by rw [cOpen_S hc.1, hn]; first | rw [if_pos (by omega)] | rw [if_neg (by omega)]) (by rw [cLeast_S5 hc.1, ← ha]; first | rw [if_pos (by omega)] | rw [if_neg (by omega)]) (by omega) (by rw [cMost_S5 hc.1, ← hb]; first | rw [if_pos (by omega)] | rw [if_neg (by omega)]) (by omega)
  refine j_lv [4, 5, 6, 3, 2, 1, 0] (lv' := [(0, .ref h), (1, .int (jI r)), (2, .int (jI w)), (3, .int (jI 0)), (4, .int (jI (-5))), (5, .int (jI (-5))), (6, .int (jI 0))]) rfl ?_
  exact lp13 (Int.toNat ((8 - 0) + 1)) 0 0 (-5) (-5) (by omega) (by rfl) (by rfl) (by omega) (by rfl) (by omega)

theorem c_X5_columns0 (l : Launch) (D : va_G) (Y : Nat → ClassId) (h : Nat) (q : Nat → Nat) (z : Int → Int) (sp : Int → Int) (pa : Int → Int) (st : Int) (ke : Int → Int) (ik : Int) (tx : Int → Int) (ln : Int) (sn : Int) (se : Int) (fa : Int → Int) (lo : Int → Int) (to : Int → Int) (tm : Int) (so : Int) (r : Int) (hr : 0 ≤ r ∧ r < 8) : jM l yX5_columns wsX5_columns { frames := 0, cells := 0, slots := 0, locals := 0 } D Y [.ref h, .int (jI r), .int (jI 0)] (mV Y h q z sp pa st ke ik tx ln sn se (pAb (tZ z)) (pBe (tZ z)) fa lo to tm so) (fun v_ w_ => v_ = some (.int (jI (cOpen (fun c => pTh (tZ z) (r * 8 + c)) 8))) ∧ w_ = (mV Y h q z sp pa st ke ik tx ln sn se (pAb (tZ z)) (pBe (tZ z)) fa lo to tm so)) 0 0 := c_X5_columns l D Y h q z sp pa st ke ik tx ln sn se fa lo to tm so r 0 hr (by omega)

set_option maxHeartbeats 4000000 in
set_option maxRecDepth 100000 in
theorem c_X5_row (l : Launch) (D : va_G) (Y : Nat → ClassId) (h : Nat) (q : Nat → Nat) (z : Int → Int) (sp : Int → Int) (pa : Int → Int) (st : Int) (ke : Int → Int) (ik : Int) (tx : Int → Int) (ln : Int) (sn : Int) (se : Int) (dn : Int → Int) (up : Int → Int) (fa : Int → Int) (lo : Int → Int) (to : Int → Int) (tm : Int) (so : Int) (r : Int) (w : Int) (hI : Inv z) (h_r : -2147483648 ≤ r ∧ r < 2147483648) (h_w : -2147483648 ≤ w ∧ w < 2147483648) : jM l yX5_row wsX5_row { frames := 2, cells := 0, slots := 0, locals := 43 } D Y [.ref h, .int (jI r), .int (jI w)] (mV Y h q z sp pa st ke ik tx ln sn se dn up fa lo to tm so) (fun v_ w_ => ∃ (d2 : Int → Int) (u2 : Int → Int), v_ = some (.int (jI (F_row z r w))) ∧ w_ = (mV Y h q z sp pa st ke ik tx ln sn se d2 u2 fa lo to tm so)) 0 0 := by
  refine jM_of (cc := cX5_row) (maxL := 3) (ret := (some .int)) (by decide) rfl (Nat.le_of_ble_eq_true rfl) (fun v w' h => by obtain ⟨_, _, h⟩ := h; exact Or.inr (Or.inl ⟨_, _, rfl, h.1, rfl⟩)) ?_
  intro x G kr0
  have G : jG x l D Y cX5_row RX5 wsX5_row 3 ({ frames := 2, cells := 0, slots := 0, locals := 43 } : Room) (some .int) "row" := G
  have hinX5 : ∀ w ∈ wsX50, w ∈ wsX5_row := fun _ h => List.mem_cons_of_mem _ (List.mem_append_right _ h)
  show J x 0 0 (mV Y h q z sp pa st ke ik tx ln sn se dn up fa lo to tm so) 0 [(0, .ref h), (1, .int (jI r)), (2, .int (jI w))] []
  refine j_iload_n G 1 dX5_row_0 rfl ?_
  refine j_callS (nA := 1) (As := [.int (jI r)]) (st := []) (wc := []) (wr := (mV Y h q z sp pa st ke ik tx ln sn se dn up fa lo to tm so)) G (c_X5_isLine l D Y r (by first | assumption | omega)) dX5_row_1 rfl gX5_row_X5_isLine rfl rfl rfl (by decide +kernel) ⟨by decide, by decide⟩ rfl (jLe.rf _) (Nat.le_of_ble_eq_true rfl) ⟨Nat.zero_le _, Nat.zero_le _⟩ (fun v_ w_ hp_ => ?_)
  obtain ⟨rfl, rfl⟩ := hp_
  show J x 0 0 (mV Y h q z sp pa st ke ik tx ln sn se dn up fa lo to tm so) 4 [(0, .ref h), (1, .int (jI r)), (2, .int (jI w))] [.int (jI (if 0 ≤ r ∧ r ≤ 7 then 1 else 0))]
  refine j_ifz_ne (tgt := 9) G dX5_row_4 (by decide) (fun c4 => ?_) (fun c4 => ?_)
  · refine j_iload_n G 2 dX5_row_9 rfl ?_
    refine j_iconst G dX5_row_10 (v := 0) rfl ?_
    refine j_iconst G dX5_row_11 (v := 2) rfl ?_
    refine j_callS (nA := 3) (As := [.int (jI w), .int (jI 0), .int (jI 2)]) (st := []) (wc := []) (wr := (mV Y h q z sp pa st ke ik tx ln sn se dn up fa lo to tm so)) G (c_X5_in l D Y w 0 2 (by first | assumption | omega) (by first | assumption | omega) (by first | assumption | omega)) dX5_row_12 rfl gX5_row_X5_in rfl rfl rfl (by decide +kernel) ⟨by decide, by decide⟩ rfl (jLe.rf _) (Nat.le_of_ble_eq_true rfl) ⟨Nat.zero_le _, Nat.zero_le _⟩ (fun v_ w_ hp_ => ?_)
    obtain ⟨rfl, rfl⟩ := hp_
    show J x 0 0 (mV Y h q z sp pa st ke ik tx ln sn se dn up fa lo to tm so) 15 [(0, .ref h), (1, .int (jI r)), (2, .int (jI w))] [.int (jI (if 0 ≤ w ∧ w ≤ 2 then 1 else 0))]
    refine j_ifz_ne (tgt := 21) G dX5_row_15 (by decide) (fun c15 => ?_) (fun c15 => ?_)
    · refine j_aload_n G 0 dX5_row_21 rfl ?_
      refine j_callV (nA := 0) (As := []) (st := []) (wc := (mV Y h q z sp pa st ke ik tx ln sn se dn up fa lo to tm so)) (wr := []) G (c_X5_countPaths l D Y h q z sp pa st ke ik tx ln sn se dn up fa lo to tm so (by first | assumption | exact hI.tR)) dX5_row_22 rfl gX5_row_X5_countPaths rfl rfl rfl (by decide +kernel) ⟨by decide, by decide⟩ rfl 0 rfl rfl rfl (jLe.nil (jLe.rf _)) (Nat.le_of_ble_eq_true rfl) ⟨Nat.zero_le _, Nat.zero_le _⟩ (fun v_ w_ hp_ => ?_)
      obtain ⟨rfl, rfl⟩ := hp_
      show J x 0 0 (mV Y h q z sp pa st ke ik tx ln sn se (pAb (tZ z)) (pBe (tZ z)) fa lo to tm so) 25 [(0, .ref h), (1, .int (jI r)), (2, .int (jI w))] []
      refine j_iload_n G 2 dX5_row_25 rfl ?_
      refine j_if_ne (tgt := 41) G dX5_row_26 (by decide) (by omega) (fun c26 => ?_) (fun c26 => ?_)
      · refine j_aload_n G 0 dX5_row_41 rfl ?_
        refine j_iload_n G 1 dX5_row_42 rfl ?_
        refine j_iload_n G 2 dX5_row_43 rfl ?_
        refine j_callV (nA := 2) (As := [.int (jI r), .int (jI w)]) (st := []) (wc := (mV Y h q z sp pa st ke ik tx ln sn se (pAb (tZ z)) (pBe (tZ z)) fa lo to tm so)) (wr := []) G (c_X5_columns l D Y h q z sp pa st ke ik tx ln sn se fa lo to tm so r w (by first | assumption | omega) (by first | assumption | omega)) dX5_row_44 rfl gX5_row_X5_columns rfl rfl rfl (by decide +kernel) ⟨by decide, by decide⟩ rfl 0 rfl rfl rfl (jLe.nil (jLe.rf _)) (Nat.le_of_ble_eq_true rfl) ⟨Nat.zero_le _, Nat.zero_le _⟩ (fun v_ w_ hp_ => ?_)
        obtain ⟨rfl, rfl⟩ := hp_
        show J x 0 0 (mV Y h q z sp pa st ke ik tx ln sn se (pAb (tZ z)) (pBe (tZ z)) fa lo to tm so) 47 [(0, .ref h), (1, .int (jI r)), (2, .int (jI w))] [.int (jI (if w = 0 then cOpen (fun c => pTh (tZ z) (r * 8 + c)) 8 else if w = 1 then cLeast (fun c => pTh (tZ z) (r * 8 + c)) 8 else cMost (fun c => pTh (tZ z) (r * 8 + c)) 8))]
        exact j_reti G dX5_row_47 (by unfold F_row; (repeat' split) <;> first | rfl | omega) (jLe.rf _) (kr0 _ _ ⟨(pAb (tZ z)), (pBe (tZ z)), rfl, rfl⟩)
      · refine j_aload_n G 0 dX5_row_29 rfl ?_
        refine j_get (q := 0) (C := RX5) (T := TX5) (N := 17) (v := .ref (q 0)) G 0 hinX5 dX5_row_30 rfl rfl (by decide) (by decide +kernel) rfl ?_
        refine j_bipush G dX5_row_33 (v := 7) rfl ?_
        refine j_iload_n G 1 dX5_row_35 rfl ?_
        refine j_iadd G dX5_row_36 ?_
        refine j_iald (v := z (7 + r)) G 1 dX5_row_37 rfl (by omega) rfl ?_
        refine j_goto (tgt := 47) G dX5_row_38 (by decide) ?_
        exact j_reti G dX5_row_47 (by unfold F_row; (repeat' split) <;> first | rfl | omega) (jLe.rf _) (kr0 _ _ ⟨(pAb (tZ z)), (pBe (tZ z)), rfl, rfl⟩)
    · refine j_bipush G dX5_row_18 (v := (-2)) rfl ?_
      exact j_reti G dX5_row_20 (by unfold F_row; (repeat' split) <;> first | rfl | omega) (jLe.rf _) (kr0 _ _ ⟨dn, up, rfl, rfl⟩)
  · refine j_iconst G dX5_row_7 (v := (-1)) rfl ?_
    exact j_reti G dX5_row_8 (by unfold F_row; (repeat' split) <;> first | rfl | omega) (jLe.rf _) (kr0 _ _ ⟨dn, up, rfl, rfl⟩)

set_option maxHeartbeats 4000000 in
set_option maxRecDepth 100000 in
theorem c_X5_way (l : Launch) (D : va_G) (Y : Nat → ClassId) (h : Nat) (q : Nat → Nat) (z : Int → Int) (sp : Int → Int) (pa : Int → Int) (st : Int) (ke : Int → Int) (ik : Int) (tx : Int → Int) (ln : Int) (sn : Int) (se : Int) (dn : Int → Int) (up : Int → Int) (fa : Int → Int) (lo : Int → Int) (to : Int → Int) (tm : Int) (so : Int) (k : Int) (p : Int) (hI : Inv z) (h_k : -2147483648 ≤ k ∧ k < 2147483648) (h_p : -2147483648 ≤ p ∧ p < 2147483648) : jM l yX5_way wsX5_way { frames := 5, cells := 0, slots := 0, locals := 115 } D Y [.ref h, .int (jI k), .int (jI p)] (mV Y h q z sp pa st ke ik tx ln sn se dn up fa lo to tm so) (fun v_ w_ => ∃ (f2 : Int → Int), v_ = some (.int (jI (F_way z k p))) ∧ w_ = (mV Y h q z sp pa st ke ik tx ln sn se dn up f2 lo to tm so)) 0 0 := by
  refine jM_of (cc := cX5_way) (maxL := 3) (ret := (some .int)) (by decide) rfl (Nat.le_of_ble_eq_true rfl) (fun v w' h => by obtain ⟨_, h⟩ := h; exact Or.inr (Or.inl ⟨_, _, rfl, h.1, rfl⟩)) ?_
  intro x G kr0
  have G : jG x l D Y cX5_way RX5 wsX5_way 3 ({ frames := 5, cells := 0, slots := 0, locals := 115 } : Room) (some .int) "way" := G
  show J x 0 0 (mV Y h q z sp pa st ke ik tx ln sn se dn up fa lo to tm so) 0 [(0, .ref h), (1, .int (jI k)), (2, .int (jI p))] []
  refine j_iload_n G 1 dX5_way_0 rfl ?_
  refine j_callS (nA := 1) (As := [.int (jI k)]) (st := []) (wc := []) (wr := (mV Y h q z sp pa st ke ik tx ln sn se dn up fa lo to tm so)) G (c_X5_isCrew l D Y k (by first | assumption | omega)) dX5_way_1 rfl gX5_way_X5_isCrew rfl rfl rfl (by decide +kernel) ⟨by decide, by decide⟩ rfl (jLe.rf _) (Nat.le_of_ble_eq_true rfl) ⟨Nat.zero_le _, Nat.zero_le _⟩ (fun v_ w_ hp_ => ?_)
  obtain ⟨rfl, rfl⟩ := hp_
  show J x 0 0 (mV Y h q z sp pa st ke ik tx ln sn se dn up fa lo to tm so) 4 [(0, .ref h), (1, .int (jI k)), (2, .int (jI p))] [.int (jI (if 0 ≤ k ∧ k ≤ 2 then 1 else 0))]
  refine j_ifz_eq (tgt := 23) G dX5_way_4 (by decide) (fun c4 => ?_) (fun c4 => ?_)
  · refine j_iconst G dX5_way_23 (v := (-1)) rfl ?_
    exact j_reti G dX5_way_24 (by unfold F_way; (repeat' split) <;> first | rfl | omega) (jLe.rf _) (kr0 _ _ ⟨fa, rfl, rfl⟩)
  · refine j_iload_n G 2 dX5_way_7 rfl ?_
    refine j_callS (nA := 1) (As := [.int (jI p)]) (st := []) (wc := []) (wr := (mV Y h q z sp pa st ke ik tx ln sn se dn up fa lo to tm so)) G (c_X5_isPlot l D Y p (by first | assumption | omega)) dX5_way_8 rfl gX5_way_X5_isPlot rfl rfl rfl (by decide +kernel) ⟨by decide, by decide⟩ rfl (jLe.rf _) (Nat.le_of_ble_eq_true rfl) ⟨Nat.zero_le _, Nat.zero_le _⟩ (fun v_ w_ hp_ => ?_)
    obtain ⟨rfl, rfl⟩ := hp_
    show J x 0 0 (mV Y h q z sp pa st ke ik tx ln sn se dn up fa lo to tm so) 11 [(0, .ref h), (1, .int (jI k)), (2, .int (jI p))] [.int (jI (if 0 ≤ p ∧ p ≤ 63 then 1 else 0))]
    refine j_ifz_eq (tgt := 23) G dX5_way_11 (by decide) (fun c11 => ?_) (fun c11 => ?_)
    · refine j_iconst G dX5_way_23 (v := (-1)) rfl ?_
      exact j_reti G dX5_way_24 (by unfold F_way; (repeat' split) <;> first | rfl | omega) (jLe.rf _) (kr0 _ _ ⟨fa, rfl, rfl⟩)
    · refine j_aload_n G 0 dX5_way_14 rfl ?_
      refine j_iload_n G 1 dX5_way_15 rfl ?_
      refine j_iload_n G 2 dX5_way_16 rfl ?_
      refine j_callV (nA := 2) (As := [.int (jI k), .int (jI p)]) (st := []) (wc := (mV Y h q z sp pa st ke ik tx ln sn se dn up fa lo to tm so)) (wr := []) G (c_X5_wayOf l D Y h q z sp pa st ke ik tx ln sn se dn up fa lo to tm so k p (by first | assumption | omega) (by first | assumption | omega) (by first | assumption | omega)) dX5_way_17 rfl gX5_way_X5_wayOf rfl rfl rfl (by decide +kernel) ⟨by decide, by decide⟩ rfl 0 rfl rfl rfl (jLe.nil (jLe.rf _)) (Nat.le_of_ble_eq_true rfl) ⟨Nat.zero_le _, Nat.zero_le _⟩ (fun v_ w_ hp_ => ?_)
      obtain ⟨rfl, rfl⟩ := hp_
      show J x 0 0 (mV Y h q z sp pa st ke ik tx ln sn se dn up (zW2 z (z (15 + 4 * k))) lo to tm so) 20 [(0, .ref h), (1, .int (jI k)), (2, .int (jI p))] [.int (jI (zWay z k p))]
      refine j_goto (tgt := 24) G dX5_way_20 (by decide) ?_
      exact j_reti G dX5_way_24 (by unfold F_way; (repeat' split) <;> first | rfl | omega) (jLe.rf _) (kr0 _ _ ⟨(zW2 z (z (15 + 4 * k))), rfl, rfl⟩)

set_option maxHeartbeats 4000000 in
set_option maxRecDepth 100000 in
theorem c_X5_why (l : Launch) (D : va_G) (Y : Nat → ClassId) (h : Nat) (q : Nat → Nat) (z : Int → Int) (sp : Int → Int) (pa : Int → Int) (st : Int) (ke : Int → Int) (ik : Int) (tx : Int → Int) (ln : Int) (sn : Int) (se : Int) (dn : Int → Int) (up : Int → Int) (lo : Int → Int) (to : Int → Int) (tm : Int) (so : Int) (k : Int) (p : Int) (hI : Inv z) (hk : 0 ≤ k ∧ k < 3) (hp : 0 ≤ p ∧ p < 64) : jM l yX5_why wsX5_why { frames := 1, cells := 0, slots := 0, locals := 22 } D Y [.ref h, .int (jI k), .int (jI p)] (mV Y h q z sp pa st ke ik tx ln sn se dn up (zW2 z (z (15 + 4 * k))) lo to tm so) (fun v_ w_ => v_ = some (.int (jI (F_why z k p))) ∧ w_ = (mV Y h q z sp pa st ke ik tx ln sn se dn up (zW2 z (z (15 + 4 * k))) lo to tm so)) 0 0 := by
  refine jM_of (cc := cX5_why) (maxL := 4) (ret := (some .int)) (by decide) rfl (Nat.le_of_ble_eq_true rfl) (fun v w' h => Or.inr (Or.inl ⟨_, _, rfl, h.1, rfl⟩)) ?_
  intro x G kr0
  have kr := kr0 _ _ ⟨rfl, rfl⟩
  have G : jG x l D Y cX5_why RX5 wsX5_why 4 ({ frames := 1, cells := 0, slots := 0, locals := 22 } : Room) (some .int) "why" := G
  have hinX5 : ∀ w ∈ wsX50, w ∈ wsX5_why := fun _ h => List.mem_cons_of_mem _ (List.mem_append_right _ h)
  have f0 := hI.wo p hp.1 hp.2
  have f1 := hI.st k hk.1 hk.2
  have f2 := zWay_b hI hk hp
  have f3 := hI.s2
  have f4 : zW2 z (z (15 + 4 * k)) p = zWay z k p := rfl
  show J x 0 0 (mV Y h q z sp pa st ke ik tx ln sn se dn up (zW2 z (z (15 + 4 * k))) lo to tm so) 0 [(0, .ref h), (1, .int (jI k)), (2, .int (jI p))] []
  refine j_aload_n G 0 dX5_why_0 rfl ?_
  refine j_iload_n G 1 dX5_why_1 rfl ?_
  refine j_iconst G dX5_why_2 (v := 1) rfl ?_
  refine j_callV (nA := 2) (As := [.int (jI k), .int (jI 1)]) (st := []) (wc := (mV Y h q z sp pa st ke ik tx ln sn se dn up (zW2 z (z (15 + 4 * k))) lo to tm so)) (wr := []) G (c_X5_of1 l D Y h q z sp pa st ke ik tx ln sn se dn up (zW2 z (z (15 + 4 * k))) lo to tm so k (by first | assumption | omega)) dX5_why_3 rfl gX5_why_X5_of rfl rfl rfl (by decide +kernel) ⟨by decide, by decide⟩ rfl 0 rfl rfl rfl (jLe.nil (jLe.rf _)) (Nat.le_of_ble_eq_true rfl) ⟨Nat.zero_le _, Nat.zero_le _⟩ (fun v_ w_ hp_ => ?_)
  obtain ⟨rfl, rfl⟩ := hp_
  show J x 0 0 (mV Y h q z sp pa st ke ik tx ln sn se dn up (zW2 z (z (15 + 4 * k))) lo to tm so) 6 [(0, .ref h), (1, .int (jI k)), (2, .int (jI p))] [.int (jI (z (16 + 4 * k)))]
  refine j_aload_n G 0 dX5_why_6 rfl ?_
  refine j_get (q := 12) (C := RX5) (T := TX5) (N := 17) (v := .ref (q 7)) G 0 hinX5 dX5_why_7 rfl rfl (by decide) (by decide +kernel) rfl ?_
  refine j_iload_n G 2 dX5_why_10 rfl ?_
  refine j_iald (v := (zW2 z (z (15 + 4 * k))) p) G 8 dX5_why_11 rfl (by omega) rfl ?_
  refine j_isub G dX5_why_12 ?_
  refine j_istore_n (lv' := [(3, .int (jI ((z (16 + 4 * k)) - ((zW2 z (z (15 + 4 * k))) p)))), (0, .ref h), (1, .int (jI k)), (2, .int (jI p))]) G dX5_why_13 (by decide) rfl ?_
  refine j_aload_n G 1 dX5_why_14 rfl ?_
  refine j_get (q := 0) (C := RX5) (T := TX5) (N := 17) (v := .ref (q 0)) G 0 hinX5 dX5_why_15 rfl rfl (by decide) (by decide +kernel) rfl ?_
  refine j_bipush G dX5_why_18 (v := 28) rfl ?_
  refine j_iload_n G 3 dX5_why_20 rfl ?_
  refine j_iadd G dX5_why_21 ?_
  refine j_iald (v := z (28 + p)) G 1 dX5_why_22 rfl (by omega) rfl ?_
  refine j_if_ne (tgt := 30) G dX5_why_23 (by decide) (by omega) (fun c23 => ?_) (fun c23 => ?_)
  · refine j_iload_n G 0 dX5_why_30 rfl ?_
    refine j_if_ge (tgt := 38) G dX5_why_31 (by decide) (by omega) (fun c31 => ?_) (fun c31 => ?_)
    · refine j_iload_n G 0 dX5_why_38 rfl ?_
      refine j_aload_n G 1 dX5_why_39 rfl ?_
      refine j_get (q := 0) (C := RX5) (T := TX5) (N := 17) (v := .ref (q 0)) G 0 hinX5 dX5_why_40 rfl rfl (by decide) (by decide +kernel) rfl ?_
      refine j_iconst G dX5_why_43 (v := 2) rfl ?_
      refine j_iald (v := z 2) G 1 dX5_why_44 rfl (by omega) rfl ?_
      refine j_icmp_ge (tgt := 52) G dX5_why_45 (by decide) (by omega) (by omega) (fun c45 => ?_) (fun c45 => ?_)
      · refine j_iconst G dX5_why_52 (v := 0) rfl ?_
        exact j_reti G dX5_why_53 (by unfold F_why; (repeat' split) <;> first | rfl | omega) (jLe.rf _) kr
      · refine j_iconst G dX5_why_48 (v := 3) rfl ?_
        refine j_goto (tgt := 53) G dX5_why_49 (by decide) ?_
        exact j_reti G dX5_why_53 (by unfold F_why; (repeat' split) <;> first | rfl | omega) (jLe.rf _) kr
    · refine j_iconst G dX5_why_34 (v := 2) rfl ?_
      refine j_goto (tgt := 53) G dX5_why_35 (by decide) ?_
      exact j_reti G dX5_why_53 (by unfold F_why; (repeat' split) <;> first | rfl | omega) (jLe.rf _) kr
  · refine j_iconst G dX5_why_26 (v := 1) rfl ?_
    refine j_goto (tgt := 53) G dX5_why_27 (by decide) ?_
    exact j_reti G dX5_why_53 (by unfold F_why; (repeat' split) <;> first | rfl | omega) (jLe.rf _) kr

set_option maxHeartbeats 4000000 in
set_option maxRecDepth 100000 in
theorem c_X5_reason (l : Launch) (D : va_G) (Y : Nat → ClassId) (h : Nat) (q : Nat → Nat) (z : Int → Int) (sp : Int → Int) (pa : Int → Int) (st : Int) (ke : Int → Int) (ik : Int) (tx : Int → Int) (ln : Int) (sn : Int) (se : Int) (dn : Int → Int) (up : Int → Int) (fa : Int → Int) (lo : Int → Int) (to : Int → Int) (tm : Int) (so : Int) (k : Int) (p : Int) (hI : Inv z) (h_k : -2147483648 ≤ k ∧ k < 2147483648) (h_p : -2147483648 ≤ p ∧ p < 2147483648) : jM l yX5_reason wsX5_reason { frames := 4, cells := 0, slots := 0, locals := 93 } D Y [.ref h, .int (jI k), .int (jI p)] (mV Y h q z sp pa st ke ik tx ln sn se dn up fa lo to tm so) (fun v_ w_ => ∃ (f2 : Int → Int), v_ = some (.int (jI (F_reason z k p))) ∧ w_ = (mV Y h q z sp pa st ke ik tx ln sn se dn up f2 lo to tm so)) 0 0 := by
  refine jM_of (cc := cX5_reason) (maxL := 3) (ret := (some .int)) (by decide) rfl (Nat.le_of_ble_eq_true rfl) (fun v w' h => by obtain ⟨_, h⟩ := h; exact Or.inr (Or.inl ⟨_, _, rfl, h.1, rfl⟩)) ?_
  intro x G kr0
  have G : jG x l D Y cX5_reason RX5 wsX5_reason 3 ({ frames := 4, cells := 0, slots := 0, locals := 93 } : Room) (some .int) "reason" := G
  show J x 0 0 (mV Y h q z sp pa st ke ik tx ln sn se dn up fa lo to tm so) 0 [(0, .ref h), (1, .int (jI k)), (2, .int (jI p))] []
  refine j_iload_n G 1 dX5_reason_0 rfl ?_
  refine j_callS (nA := 1) (As := [.int (jI k)]) (st := []) (wc := []) (wr := (mV Y h q z sp pa st ke ik tx ln sn se dn up fa lo to tm so)) G (c_X5_isCrew l D Y k (by first | assumption | omega)) dX5_reason_1 rfl gX5_reason_X5_isCrew rfl rfl rfl (by decide +kernel) ⟨by decide, by decide⟩ rfl (jLe.rf _) (Nat.le_of_ble_eq_true rfl) ⟨Nat.zero_le _, Nat.zero_le _⟩ (fun v_ w_ hp_ => ?_)
  obtain ⟨rfl, rfl⟩ := hp_
  show J x 0 0 (mV Y h q z sp pa st ke ik tx ln sn se dn up fa lo to tm so) 4 [(0, .ref h), (1, .int (jI k)), (2, .int (jI p))] [.int (jI (if 0 ≤ k ∧ k ≤ 2 then 1 else 0))]
  refine j_ifz_eq (tgt := 14) G dX5_reason_4 (by decide) (fun c4 => ?_) (fun c4 => ?_)
  · refine j_iconst G dX5_reason_14 (v := (-1)) rfl ?_
    exact j_reti G dX5_reason_15 (by unfold F_reason; (repeat' split) <;> first | rfl | omega) (jLe.rf _) (kr0 _ _ ⟨fa, rfl, rfl⟩)
  · refine j_iload_n G 2 dX5_reason_7 rfl ?_
    refine j_callS (nA := 1) (As := [.int (jI p)]) (st := []) (wc := []) (wr := (mV Y h q z sp pa st ke ik tx ln sn se dn up fa lo to tm so)) G (c_X5_isPlot l D Y p (by first | assumption | omega)) dX5_reason_8 rfl gX5_reason_X5_isPlot rfl rfl rfl (by decide +kernel) ⟨by decide, by decide⟩ rfl (jLe.rf _) (Nat.le_of_ble_eq_true rfl) ⟨Nat.zero_le _, Nat.zero_le _⟩ (fun v_ w_ hp_ => ?_)
    obtain ⟨rfl, rfl⟩ := hp_
    show J x 0 0 (mV Y h q z sp pa st ke ik tx ln sn se dn up fa lo to tm so) 11 [(0, .ref h), (1, .int (jI k)), (2, .int (jI p))] [.int (jI (if 0 ≤ p ∧ p ≤ 63 then 1 else 0))]
    refine j_ifz_ne (tgt := 16) G dX5_reason_11 (by decide) (fun c11 => ?_) (fun c11 => ?_)
    · refine j_aload_n G 0 dX5_reason_16 rfl ?_
      refine j_aload_n G 0 dX5_reason_17 rfl ?_
      refine j_iload_n G 1 dX5_reason_18 rfl ?_
      refine j_iconst G dX5_reason_19 (v := 0) rfl ?_
      refine j_callV (nA := 2) (As := [.int (jI k), .int (jI 0)]) (st := [.ref h]) (wc := (mV Y h q z sp pa st ke ik tx ln sn se dn up fa lo to tm so)) (wr := []) G (c_X5_of0 l D Y h q z sp pa st ke ik tx ln sn se dn up fa lo to tm so k (by first | assumption | omega)) dX5_reason_20 rfl gX5_reason_X5_of rfl rfl rfl (by decide +kernel) ⟨by decide, by decide⟩ rfl 0 rfl rfl rfl (jLe.nil (jLe.rf _)) (Nat.le_of_ble_eq_true rfl) ⟨Nat.zero_le _, Nat.zero_le _⟩ (fun v_ w_ hp_ => ?_)
      obtain ⟨rfl, rfl⟩ := hp_
      show J x 0 0 (mV Y h q z sp pa st ke ik tx ln sn se dn up fa lo to tm so) 23 [(0, .ref h), (1, .int (jI k)), (2, .int (jI p))] [.int (jI (z (15 + 4 * k))), .ref h]
      refine j_callV (nA := 1) (As := [.int (jI (z (15 + 4 * k)))]) (st := []) (wc := (mV Y h q z sp pa st ke ik tx ln sn se dn up fa lo to tm so)) (wr := []) G (c_X5_measure l D Y h q z sp pa st ke ik tx ln sn se dn up fa lo to tm so (z (15 + 4 * k)) (by first | assumption | omega) (by have := hI.pl k (by omega) (by omega); omega)) dX5_reason_23 rfl gX5_reason_X5_measure rfl rfl rfl (by decide +kernel) ⟨by decide, by decide⟩ rfl 0 rfl rfl rfl (jLe.nil (jLe.rf _)) (Nat.le_of_ble_eq_true rfl) ⟨Nat.zero_le _, Nat.zero_le _⟩ (fun v_ w_ hp_ => ?_)
      obtain ⟨rfl, rfl⟩ := hp_
      show J x 0 0 (mV Y h q z sp pa st ke ik tx ln sn se dn up (zW2 z (z (15 + 4 * k))) lo to tm so) 26 [(0, .ref h), (1, .int (jI k)), (2, .int (jI p))] []
      refine j_aload_n G 0 dX5_reason_26 rfl ?_
      refine j_iload_n G 1 dX5_reason_27 rfl ?_
      refine j_iload_n G 2 dX5_reason_28 rfl ?_
      refine j_callV (nA := 2) (As := [.int (jI k), .int (jI p)]) (st := []) (wc := (mV Y h q z sp pa st ke ik tx ln sn se dn up (zW2 z (z (15 + 4 * k))) lo to tm so)) (wr := []) G (c_X5_why l D Y h q z sp pa st ke ik tx ln sn se dn up lo to tm so k p (by first | assumption | omega) (by first | assumption | omega) (by first | assumption | omega)) dX5_reason_29 rfl gX5_reason_X5_why rfl rfl rfl (by decide +kernel) ⟨by decide, by decide⟩ rfl 0 rfl rfl rfl (jLe.nil (jLe.rf _)) (Nat.le_of_ble_eq_true rfl) ⟨Nat.zero_le _, Nat.zero_le _⟩ (fun v_ w_ hp_ => ?_)
      obtain ⟨rfl, rfl⟩ := hp_
      show J x 0 0 (mV Y h q z sp pa st ke ik tx ln sn se dn up (zW2 z (z (15 + 4 * k))) lo to tm so) 32 [(0, .ref h), (1, .int (jI k)), (2, .int (jI p))] [.int (jI (F_why z k p))]
      exact j_reti G dX5_reason_32 (by unfold F_reason; (repeat' split) <;> first | rfl | omega) (jLe.rf _) (kr0 _ _ ⟨(zW2 z (z (15 + 4 * k))), rfl, rfl⟩)
    · refine j_iconst G dX5_reason_14 (v := (-1)) rfl ?_
      exact j_reti G dX5_reason_15 (by unfold F_reason; (repeat' split) <;> first | rfl | omega) (jLe.rf _) (kr0 _ _ ⟨fa, rfl, rfl⟩)

set_option maxHeartbeats 4000000 in
set_option maxRecDepth 100000 in
theorem c_X5_isBetter (l : Launch) (D : va_G) (Y : Nat → ClassId) (h : Nat) (q : Nat → Nat) (z : Int → Int) (sp : Int → Int) (pa : Int → Int) (st : Int) (ke : Int → Int) (ik : Int) (tx : Int → Int) (ln : Int) (sn : Int) (se : Int) (lo : Int → Int) (to : Int → Int) (tm : Int) (so : Int) (p : Int) (o : Int) (k : Int) (hI : Inv z) (hk : 0 ≤ k ∧ k < 3) (hp : 0 ≤ p ∧ p < 64) (ho : 0 ≤ o ∧ o < 64) : jM l yX5_isBetter wsX5_isBetter { frames := 3, cells := 0, slots := 0, locals := 67 } D Y [.ref h, .int (jI p), .int (jI o)] (mV Y h q z sp pa st ke ik tx ln sn se (pAb (tZ z)) (pBe (tZ z)) (zW2 z (z (15 + 4 * k))) lo to tm so) (fun v_ w_ => v_ = some (.int (jI (if zLo z (tZ z) o < zLo z (tZ z) p ∨ (zLo z (tZ z) p = zLo z (tZ z) o ∧ (z (28 + o) < z (28 + p) ∨ (z (28 + p) = z (28 + o) ∧ zWay z k p < zWay z k o))) then 1 else 0))) ∧ w_ = (mV Y h q z sp pa st ke ik tx ln sn se (pAb (tZ z)) (pBe (tZ z)) (zW2 z (z (15 + 4 * k))) lo to tm so)) 0 0 := by
  refine jM_of (cc := cX5_isBetter) (maxL := 4) (ret := (some .boolean)) (by decide) rfl (Nat.le_of_ble_eq_true rfl) (fun v w' h => Or.inr (Or.inl ⟨_, _, rfl, h.1, jI_z (ite_01 _)⟩)) ?_
  intro x G kr0
  have kr := kr0 _ _ ⟨rfl, rfl⟩
  have G : jG x l D Y cX5_isBetter RX5 wsX5_isBetter 4 ({ frames := 3, cells := 0, slots := 0, locals := 67 } : Room) (some .boolean) "isBetter" := G
  have hinX5 : ∀ w ∈ wsX50, w ∈ wsX5_isBetter := fun _ h => List.mem_cons_of_mem _ (List.mem_append_right _ h)
  have ha := hI.pa
  have f0 := zLo_b (tZ z) hI ha hp
  have f1 := zLo_b (tZ z) hI ha ho
  have f2 := hI.wo p hp.1 hp.2
  have f3 := hI.wo o ho.1 ho.2
  have f4 := zWay_b hI hk hp
  have f5 := zWay_b hI hk ho
  have f6 : zW2 z (z (15 + 4 * k)) p = zWay z k p := rfl
  have f7 : zW2 z (z (15 + 4 * k)) o = zWay z k o := rfl
  show J x 0 0 (mV Y h q z sp pa st ke ik tx ln sn se (pAb (tZ z)) (pBe (tZ z)) (zW2 z (z (15 + 4 * k))) lo to tm so) 0 [(0, .ref h), (1, .int (jI p)), (2, .int (jI o))] []
  refine j_aload_n G 0 dX5_isBetter_0 rfl ?_
  refine j_iload_n G 1 dX5_isBetter_1 rfl ?_
  refine j_callV (nA := 1) (As := [.int (jI p)]) (st := []) (wc := (mV Y h q z sp pa st ke ik tx ln sn se (pAb (tZ z)) (pBe (tZ z)) (zW2 z (z (15 + 4 * k))) lo to tm so)) (wr := []) G (c_X5_standsToLose l D Y h q z sp pa st ke ik tx ln sn se (zW2 z (z (15 + 4 * k))) lo to tm so p (by first | assumption | omega) (by exact hp)) dX5_isBetter_2 rfl gX5_isBetter_X5_standsToLose rfl rfl rfl (by decide +kernel) ⟨by decide, by decide⟩ rfl 0 rfl rfl rfl (jLe.nil (jLe.rf _)) (Nat.le_of_ble_eq_true rfl) ⟨Nat.zero_le _, Nat.zero_le _⟩ (fun v_ w_ hp_ => ?_)
  obtain ⟨rfl, rfl⟩ := hp_
  show J x 0 0 (mV Y h q z sp pa st ke ik tx ln sn se (pAb (tZ z)) (pBe (tZ z)) (zW2 z (z (15 + 4 * k))) lo to tm so) 5 [(0, .ref h), (1, .int (jI p)), (2, .int (jI o))] [.int (jI (zLo z (tZ z) p))]
  refine j_aload_n G 0 dX5_isBetter_5 rfl ?_
  refine j_iload_n G 2 dX5_isBetter_6 rfl ?_
  refine j_callV (nA := 1) (As := [.int (jI o)]) (st := [.int (jI (zLo z (tZ z) p))]) (wc := (mV Y h q z sp pa st ke ik tx ln sn se (pAb (tZ z)) (pBe (tZ z)) (zW2 z (z (15 + 4 * k))) lo to tm so)) (wr := []) G (c_X5_standsToLose l D Y h q z sp pa st ke ik tx ln sn se (zW2 z (z (15 + 4 * k))) lo to tm so o (by first | assumption | omega) (by exact ho)) dX5_isBetter_7 rfl gX5_isBetter_X5_standsToLose rfl rfl rfl (by decide +kernel) ⟨by decide, by decide⟩ rfl 0 rfl rfl rfl (jLe.nil (jLe.rf _)) (Nat.le_of_ble_eq_true rfl) ⟨Nat.zero_le _, Nat.zero_le _⟩ (fun v_ w_ hp_ => ?_)
  obtain ⟨rfl, rfl⟩ := hp_
  show J x 0 0 (mV Y h q z sp pa st ke ik tx ln sn se (pAb (tZ z)) (pBe (tZ z)) (zW2 z (z (15 + 4 * k))) lo to tm so) 10 [(0, .ref h), (1, .int (jI p)), (2, .int (jI o))] [.int (jI (zLo z (tZ z) o)), .int (jI (zLo z (tZ z) p))]
  refine j_isub G dX5_isBetter_10 ?_
  refine j_istore_n (lv' := [(3, .int (jI ((zLo z (tZ z) p) - (zLo z (tZ z) o)))), (0, .ref h), (1, .int (jI p)), (2, .int (jI o))]) G dX5_isBetter_11 (by decide) rfl ?_
  refine j_iload_n G 0 dX5_isBetter_12 rfl ?_
  refine j_if_ne (tgt := 38) G dX5_isBetter_13 (by decide) (by omega) (fun c13 => ?_) (fun c13 => ?_)
  · refine j_iload_n G 0 dX5_isBetter_38 rfl ?_
    refine j_istore_n (lv' := [(3, .int (jI ((zLo z (tZ z) p) - (zLo z (tZ z) o)))), (0, .ref h), (1, .int (jI p)), (2, .int (jI o))]) G dX5_isBetter_39 (by decide) rfl ?_
    refine j_iload_n G 0 dX5_isBetter_40 rfl ?_
    refine j_if_ne (tgt := 60) G dX5_isBetter_41 (by decide) (by omega) (fun c41 => ?_) (fun c41 => ?_)
    · refine j_iload_n G 0 dX5_isBetter_60 rfl ?_
      refine j_istore_n (lv' := [(3, .int (jI ((zLo z (tZ z) p) - (zLo z (tZ z) o)))), (0, .ref h), (1, .int (jI p)), (2, .int (jI o))]) G dX5_isBetter_61 (by decide) rfl ?_
      refine j_iload_n G 0 dX5_isBetter_62 rfl ?_
      refine j_if_le (tgt := 70) G dX5_isBetter_63 (by decide) (by omega) (fun c63 => ?_) (fun c63 => ?_)
      · refine j_iconst G dX5_isBetter_70 (v := 0) rfl ?_
        exact j_reti G dX5_isBetter_71 (by first | rfl | omega | exact ite_T (by omega) | exact ite_F (by omega)) (jLe.rf _) kr
      · refine j_iconst G dX5_isBetter_66 (v := 1) rfl ?_
        refine j_goto (tgt := 71) G dX5_isBetter_67 (by decide) ?_
        exact j_reti G dX5_isBetter_71 (by first | rfl | omega | exact ite_T (by omega) | exact ite_F (by omega)) (jLe.rf _) kr
    · refine j_aload_n G 1 dX5_isBetter_44 rfl ?_
      refine j_get (q := 12) (C := RX5) (T := TX5) (N := 17) (v := .ref (q 7)) G 0 hinX5 dX5_isBetter_45 rfl rfl (by decide) (by decide +kernel) rfl ?_
      refine j_iload_n G 3 dX5_isBetter_48 rfl ?_
      refine j_iald (v := (zW2 z (z (15 + 4 * k))) o) G 8 dX5_isBetter_49 rfl (by omega) rfl ?_
      refine j_aload_n G 1 dX5_isBetter_50 rfl ?_
      refine j_get (q := 12) (C := RX5) (T := TX5) (N := 17) (v := .ref (q 7)) G 0 hinX5 dX5_isBetter_51 rfl rfl (by decide) (by decide +kernel) rfl ?_
      refine j_iload_n G 2 dX5_isBetter_54 rfl ?_
      refine j_iald (v := (zW2 z (z (15 + 4 * k))) p) G 8 dX5_isBetter_55 rfl (by omega) rfl ?_
      refine j_isub G dX5_isBetter_56 ?_
      refine j_goto (tgt := 61) G dX5_isBetter_57 (by decide) ?_
      refine j_istore_n (lv' := [(3, .int (jI (((zW2 z (z (15 + 4 * k))) o) - ((zW2 z (z (15 + 4 * k))) p)))), (0, .ref h), (1, .int (jI p)), (2, .int (jI o))]) G dX5_isBetter_61 (by decide) rfl ?_
      refine j_iload_n G 0 dX5_isBetter_62 rfl ?_
      refine j_if_le (tgt := 70) G dX5_isBetter_63 (by decide) (by omega) (fun c63 => ?_) (fun c63 => ?_)
      · refine j_iconst G dX5_isBetter_70 (v := 0) rfl ?_
        exact j_reti G dX5_isBetter_71 (by first | rfl | omega | exact ite_T (by omega) | exact ite_F (by omega)) (jLe.rf _) kr
      · refine j_iconst G dX5_isBetter_66 (v := 1) rfl ?_
        refine j_goto (tgt := 71) G dX5_isBetter_67 (by decide) ?_
        exact j_reti G dX5_isBetter_71 (by first | rfl | omega | exact ite_T (by omega) | exact ite_F (by omega)) (jLe.rf _) kr
  · refine j_aload_n G 1 dX5_isBetter_16 rfl ?_
    refine j_get (q := 0) (C := RX5) (T := TX5) (N := 17) (v := .ref (q 0)) G 0 hinX5 dX5_isBetter_17 rfl rfl (by decide) (by decide +kernel) rfl ?_
    refine j_bipush G dX5_isBetter_20 (v := 28) rfl ?_
    refine j_iload_n G 2 dX5_isBetter_22 rfl ?_
    refine j_iadd G dX5_isBetter_23 ?_
    refine j_iald (v := z (28 + p)) G 1 dX5_isBetter_24 rfl (by omega) rfl ?_
    refine j_aload_n G 1 dX5_isBetter_25 rfl ?_
    refine j_get (q := 0) (C := RX5) (T := TX5) (N := 17) (v := .ref (q 0)) G 0 hinX5 dX5_isBetter_26 rfl rfl (by decide) (by decide +kernel) rfl ?_
    refine j_bipush G dX5_isBetter_29 (v := 28) rfl ?_
    refine j_iload_n G 3 dX5_isBetter_31 rfl ?_
    refine j_iadd G dX5_isBetter_32 ?_
    refine j_iald (v := z (28 + o)) G 1 dX5_isBetter_33 rfl (by omega) rfl ?_
    refine j_isub G dX5_isBetter_34 ?_
    refine j_goto (tgt := 39) G dX5_isBetter_35 (by decide) ?_
    refine j_istore_n (lv' := [(3, .int (jI ((z (28 + p)) - (z (28 + o))))), (0, .ref h), (1, .int (jI p)), (2, .int (jI o))]) G dX5_isBetter_39 (by decide) rfl ?_
    refine j_iload_n G 0 dX5_isBetter_40 rfl ?_
    refine j_if_ne (tgt := 60) G dX5_isBetter_41 (by decide) (by omega) (fun c41 => ?_) (fun c41 => ?_)
    · refine j_iload_n G 0 dX5_isBetter_60 rfl ?_
      refine j_istore_n (lv' := [(3, .int (jI ((z (28 + p)) - (z (28 + o))))), (0, .ref h), (1, .int (jI p)), (2, .int (jI o))]) G dX5_isBetter_61 (by decide) rfl ?_
      refine j_iload_n G 0 dX5_isBetter_62 rfl ?_
      refine j_if_le (tgt := 70) G dX5_isBetter_63 (by decide) (by omega) (fun c63 => ?_) (fun c63 => ?_)
      · refine j_iconst G dX5_isBetter_70 (v := 0) rfl ?_
        exact j_reti G dX5_isBetter_71 (by first | rfl | omega | exact ite_T (by omega) | exact ite_F (by omega)) (jLe.rf _) kr
      · refine j_iconst G dX5_isBetter_66 (v := 1) rfl ?_
        refine j_goto (tgt := 71) G dX5_isBetter_67 (by decide) ?_
        exact j_reti G dX5_isBetter_71 (by first | rfl | omega | exact ite_T (by omega) | exact ite_F (by omega)) (jLe.rf _) kr
    · refine j_aload_n G 1 dX5_isBetter_44 rfl ?_
      refine j_get (q := 12) (C := RX5) (T := TX5) (N := 17) (v := .ref (q 7)) G 0 hinX5 dX5_isBetter_45 rfl rfl (by decide) (by decide +kernel) rfl ?_
      refine j_iload_n G 3 dX5_isBetter_48 rfl ?_
      refine j_iald (v := (zW2 z (z (15 + 4 * k))) o) G 8 dX5_isBetter_49 rfl (by omega) rfl ?_
      refine j_aload_n G 1 dX5_isBetter_50 rfl ?_
      refine j_get (q := 12) (C := RX5) (T := TX5) (N := 17) (v := .ref (q 7)) G 0 hinX5 dX5_isBetter_51 rfl rfl (by decide) (by decide +kernel) rfl ?_
      refine j_iload_n G 2 dX5_isBetter_54 rfl ?_
      refine j_iald (v := (zW2 z (z (15 + 4 * k))) p) G 8 dX5_isBetter_55 rfl (by omega) rfl ?_
      refine j_isub G dX5_isBetter_56 ?_
      refine j_goto (tgt := 61) G dX5_isBetter_57 (by decide) ?_
      refine j_istore_n (lv' := [(3, .int (jI (((zW2 z (z (15 + 4 * k))) o) - ((zW2 z (z (15 + 4 * k))) p)))), (0, .ref h), (1, .int (jI p)), (2, .int (jI o))]) G dX5_isBetter_61 (by decide) rfl ?_
      refine j_iload_n G 0 dX5_isBetter_62 rfl ?_
      refine j_if_le (tgt := 70) G dX5_isBetter_63 (by decide) (by omega) (fun c63 => ?_) (fun c63 => ?_)
      · refine j_iconst G dX5_isBetter_70 (v := 0) rfl ?_
        exact j_reti G dX5_isBetter_71 (by first | rfl | omega | exact ite_T (by omega) | exact ite_F (by omega)) (jLe.rf _) kr
      · refine j_iconst G dX5_isBetter_66 (v := 1) rfl ?_
        refine j_goto (tgt := 71) G dX5_isBetter_67 (by decide) ?_
        exact j_reti G dX5_isBetter_71 (by first | rfl | omega | exact ite_T (by omega) | exact ite_F (by omega)) (jLe.rf _) kr

set_option maxHeartbeats 4000000 in
set_option maxRecDepth 100000 in
theorem c_X5_best (l : Launch) (D : va_G) (Y : Nat → ClassId) (h : Nat) (q : Nat → Nat) (z : Int → Int) (sp : Int → Int) (pa : Int → Int) (st : Int) (ke : Int → Int) (ik : Int) (tx : Int → Int) (ln : Int) (sn : Int) (se : Int) (dn : Int → Int) (up : Int → Int) (fa : Int → Int) (lo : Int → Int) (to : Int → Int) (tm : Int) (so : Int) (k : Int) (hI : Inv z) (h_k : -2147483648 ≤ k ∧ k < 2147483648) : jM l yX5_best wsX5_best { frames := 4, cells := 0, slots := 0, locals := 93 } D Y [.ref h, .int (jI k)] (mV Y h q z sp pa st ke ik tx ln sn se dn up fa lo to tm so) (fun v_ w_ => ∃ (d2 : Int → Int) (u2 : Int → Int) (f2 : Int → Int), v_ = some (.int (jI (F_best z k))) ∧ w_ = (mV Y h q z sp pa st ke ik tx ln sn se d2 u2 f2 lo to tm so)) 0 0 := by
  refine jM_of (cc := cX5_best) (maxL := 5) (ret := (some .int)) (by decide) rfl (Nat.le_of_ble_eq_true rfl) (fun v w' h => by obtain ⟨_, _, _, h⟩ := h; exact Or.inr (Or.inl ⟨_, _, rfl, h.1, rfl⟩)) ?_
  intro x G kr0
  have G : jG x l D Y cX5_best RX5 wsX5_best 5 ({ frames := 4, cells := 0, slots := 0, locals := 93 } : Room) (some .int) "best" := G
  show J x 0 0 (mV Y h q z sp pa st ke ik tx ln sn se dn up fa lo to tm so) 0 [(0, .ref h), (1, .int (jI k))] []
  refine j_iload_n G 1 dX5_best_0 rfl ?_
  refine j_callS (nA := 1) (As := [.int (jI k)]) (st := []) (wc := []) (wr := (mV Y h q z sp pa st ke ik tx ln sn se dn up fa lo to tm so)) G (c_X5_isCrew l D Y k (by first | assumption | omega)) dX5_best_1 rfl gX5_best_X5_isCrew rfl rfl rfl (by decide +kernel) ⟨by decide, by decide⟩ rfl (jLe.rf _) (Nat.le_of_ble_eq_true rfl) ⟨Nat.zero_le _, Nat.zero_le _⟩ (fun v_ w_ hp_ => ?_)
  obtain ⟨rfl, rfl⟩ := hp_
  show J x 0 0 (mV Y h q z sp pa st ke ik tx ln sn se dn up fa lo to tm so) 4 [(0, .ref h), (1, .int (jI k))] [.int (jI (if 0 ≤ k ∧ k ≤ 2 then 1 else 0))]
  refine j_ifz_ne (tgt := 9) G dX5_best_4 (by decide) (fun c4 => ?_) (fun c4 => ?_)
  · refine j_aload_n G 0 dX5_best_9 rfl ?_
    refine j_aload_n G 0 dX5_best_10 rfl ?_
    refine j_iload_n G 1 dX5_best_11 rfl ?_
    refine j_iconst G dX5_best_12 (v := 0) rfl ?_
    refine j_callV (nA := 2) (As := [.int (jI k), .int (jI 0)]) (st := [.ref h]) (wc := (mV Y h q z sp pa st ke ik tx ln sn se dn up fa lo to tm so)) (wr := []) G (c_X5_of0 l D Y h q z sp pa st ke ik tx ln sn se dn up fa lo to tm so k (by first | assumption | omega)) dX5_best_13 rfl gX5_best_X5_of rfl rfl rfl (by decide +kernel) ⟨by decide, by decide⟩ rfl 0 rfl rfl rfl (jLe.nil (jLe.rf _)) (Nat.le_of_ble_eq_true rfl) ⟨Nat.zero_le _, Nat.zero_le _⟩ (fun v_ w_ hp_ => ?_)
    obtain ⟨rfl, rfl⟩ := hp_
    show J x 0 0 (mV Y h q z sp pa st ke ik tx ln sn se dn up fa lo to tm so) 16 [(0, .ref h), (1, .int (jI k))] [.int (jI (z (15 + 4 * k))), .ref h]
    refine j_callV (nA := 1) (As := [.int (jI (z (15 + 4 * k)))]) (st := []) (wc := (mV Y h q z sp pa st ke ik tx ln sn se dn up fa lo to tm so)) (wr := []) G (c_X5_measure l D Y h q z sp pa st ke ik tx ln sn se dn up fa lo to tm so (z (15 + 4 * k)) (by first | assumption | omega) (by have := hI.pl k (by omega) (by omega); omega)) dX5_best_16 rfl gX5_best_X5_measure rfl rfl rfl (by decide +kernel) ⟨by decide, by decide⟩ rfl 0 rfl rfl rfl (jLe.nil (jLe.rf _)) (Nat.le_of_ble_eq_true rfl) ⟨Nat.zero_le _, Nat.zero_le _⟩ (fun v_ w_ hp_ => ?_)
    obtain ⟨rfl, rfl⟩ := hp_
    show J x 0 0 (mV Y h q z sp pa st ke ik tx ln sn se dn up (zW2 z (z (15 + 4 * k))) lo to tm so) 19 [(0, .ref h), (1, .int (jI k))] []
    refine j_aload_n G 0 dX5_best_19 rfl ?_
    refine j_callV (nA := 0) (As := []) (st := []) (wc := (mV Y h q z sp pa st ke ik tx ln sn se dn up (zW2 z (z (15 + 4 * k))) lo to tm so)) (wr := []) G (c_X5_countPaths l D Y h q z sp pa st ke ik tx ln sn se dn up (zW2 z (z (15 + 4 * k))) lo to tm so (by first | assumption | exact hI.tR)) dX5_best_20 rfl gX5_best_X5_countPaths rfl rfl rfl (by decide +kernel) ⟨by decide, by decide⟩ rfl 0 rfl rfl rfl (jLe.nil (jLe.rf _)) (Nat.le_of_ble_eq_true rfl) ⟨Nat.zero_le _, Nat.zero_le _⟩ (fun v_ w_ hp_ => ?_)
    obtain ⟨rfl, rfl⟩ := hp_
    show J x 0 0 (mV Y h q z sp pa st ke ik tx ln sn se (pAb (tZ z)) (pBe (tZ z)) (zW2 z (z (15 + 4 * k))) lo to tm so) 23 [(0, .ref h), (1, .int (jI k))] []
    refine j_bipush G dX5_best_23 (v := (-5)) rfl ?_
    refine j_istore_n (lv' := [(2, .int (jI (-5))), (0, .ref h), (1, .int (jI k))]) G dX5_best_25 (by decide) rfl ?_
    refine j_iconst G dX5_best_26 (v := 0) rfl ?_
    refine j_istore_n (lv' := [(3, .int (jI 0)), (2, .int (jI (-5))), (0, .ref h), (1, .int (jI k))]) G dX5_best_27 (by decide) rfl ?_
    have lp28 : ∀ (n_ : Nat) (i : Int) (s : Int), (0 ≤ i ∧ i ≤ 64) → (s = -5 ∨ 0 ≤ s ∧ s < 64) → (s = zBest z (tZ z) k i.toNat) → (64 - i) < (n_ : Int) → J x 0 0 (mV Y h q z sp pa st ke ik tx ln sn se (pAb (tZ z)) (pBe (tZ z)) (zW2 z (z (15 + 4 * k))) lo to tm so) 28 [(0, .ref h), (1, .int (jI k)), (2, .int (jI s)), (3, .int (jI i))] [] := by
      intro n_
      induction n_ with
      | zero =>
        intro i s hi hb hs hm_
        exact absurd hm_ (by omega)
      | succ n_ ih28 =>
        intro i s hi hb hs hm_
        refine j_iload_n G 3 dX5_best_28 rfl ?_
        refine j_bipush G dX5_best_29 (v := 64) rfl ?_
        refine j_icmp_ge (tgt := 82) G dX5_best_31 (by decide) (by omega) (by omega) (fun c31 => ?_) (fun c31 => ?_)
        · refine j_iload_n G 2 dX5_best_82 rfl ?_
          exact j_reti G dX5_best_83 (by rw [hs, show i = 64 by omega]; exact (if_pos (by omega)).symm) (jLe.rf _) (kr0 _ _ ⟨(pAb (tZ z)), (pBe (tZ z)), (zW2 z (z (15 + 4 * k))), rfl, rfl⟩)
        · have f20 : 0 ≤ F_why z k i ∧ F_why z k i ≤ 3 := by unfold F_why; (repeat' split) <;> omega
          refine j_aload_n G 0 dX5_best_34 rfl ?_
          refine j_iload_n G 1 dX5_best_35 rfl ?_
          refine j_iload_n G 3 dX5_best_36 rfl ?_
          refine j_callV (nA := 2) (As := [.int (jI k), .int (jI i)]) (st := []) (wc := (mV Y h q z sp pa st ke ik tx ln sn se (pAb (tZ z)) (pBe (tZ z)) (zW2 z (z (15 + 4 * k))) lo to tm so)) (wr := []) G (c_X5_why l D Y h q z sp pa st ke ik tx ln sn se (pAb (tZ z)) (pBe (tZ z)) lo to tm so k i (by first | assumption | omega) (by first | assumption | omega) (by first | assumption | omega)) dX5_best_37 rfl gX5_best_X5_why rfl rfl rfl (by decide +kernel) ⟨by decide, by decide⟩ rfl 0 rfl rfl rfl (jLe.nil (jLe.rf _)) (Nat.le_of_ble_eq_true rfl) ⟨Nat.zero_le _, Nat.zero_le _⟩ (fun v_ w_ hp_ => ?_)
          obtain ⟨rfl, rfl⟩ := hp_
          show J x 0 0 (mV Y h q z sp pa st ke ik tx ln sn se (pAb (tZ z)) (pBe (tZ z)) (zW2 z (z (15 + 4 * k))) lo to tm so) 40 [(0, .ref h), (1, .int (jI k)), (2, .int (jI s)), (3, .int (jI i))] [.int (jI (F_why z k i))]
          refine j_if_ne (tgt := 47) G dX5_best_40 (by decide) (by omega) (fun c40 => ?_) (fun c40 => ?_)
          · refine j_iconst G dX5_best_47 (v := 0) rfl ?_
            refine j_istore (lv' := [(4, .int (jI 0)), (0, .ref h), (1, .int (jI k)), (2, .int (jI s)), (3, .int (jI i))]) G dX5_best_48 (by decide) rfl ?_
            refine j_iload G 0 dX5_best_50 rfl ?_
            refine j_if_eq (tgt := 74) G dX5_best_52 (by decide) (by omega) (fun c52 => ?_) (fun c52 => absurd c52 (by omega))
            refine j_iload_n G 3 dX5_best_74 rfl ?_
            refine j_istore_n (lv' := [(2, .int (jI s)), (4, .int (jI 0)), (0, .ref h), (1, .int (jI k)), (3, .int (jI i))]) G dX5_best_75 (by decide) rfl ?_
            refine j_iinc (w := i + 1) (lv' := [(3, .int (jI (i + 1))), (2, .int (jI s)), (4, .int (jI 0)), (0, .ref h), (1, .int (jI k))]) G 4 dX5_best_76 rfl rfl (by decide) rfl ?_
            refine j_goto (tgt := 28) G dX5_best_79 (by decide) ?_
            refine j_lv [3, 4, 1, 0] (lv' := [(0, .ref h), (1, .int (jI k)), (2, .int (jI s)), (3, .int (jI (i + 1)))]) rfl ?_
            exact ih28 (i + 1) s (by omega) (by omega) (by rw [zBest_S hi.1, ← hs]; split <;> first | rfl | omega) (by omega)
          · refine j_iconst G dX5_best_43 (v := 1) rfl ?_
            refine j_goto (tgt := 48) G dX5_best_44 (by decide) ?_
            refine j_istore (lv' := [(4, .int (jI 1)), (0, .ref h), (1, .int (jI k)), (2, .int (jI s)), (3, .int (jI i))]) G dX5_best_48 (by decide) rfl ?_
            refine j_iload G 0 dX5_best_50 rfl ?_
            refine j_if_eq (tgt := 74) G dX5_best_52 (by decide) (by omega) (fun c52 => absurd c52 (by omega)) (fun c52 => ?_)
            refine j_iload_n G 3 dX5_best_55 rfl ?_
            refine j_bipush G dX5_best_56 (v := (-5)) rfl ?_
            refine j_icmp_eq (tgt := 70) G dX5_best_58 (by decide) (by omega) (by omega) (fun c58 => ?_) (fun c58 => ?_)
            · refine j_iload_n G 4 dX5_best_70 rfl ?_
              refine j_goto (tgt := 75) G dX5_best_71 (by decide) ?_
              refine j_istore_n (lv' := [(2, .int (jI i)), (4, .int (jI 1)), (0, .ref h), (1, .int (jI k)), (3, .int (jI i))]) G dX5_best_75 (by decide) rfl ?_
              refine j_iinc (w := i + 1) (lv' := [(3, .int (jI (i + 1))), (2, .int (jI i)), (4, .int (jI 1)), (0, .ref h), (1, .int (jI k))]) G 4 dX5_best_76 rfl rfl (by decide) rfl ?_
              refine j_goto (tgt := 28) G dX5_best_79 (by decide) ?_
              refine j_lv [3, 4, 1, 0] (lv' := [(0, .ref h), (1, .int (jI k)), (2, .int (jI i)), (3, .int (jI (i + 1)))]) rfl ?_
              exact ih28 (i + 1) i (by omega) (by omega) (by rw [zBest_S hi.1, ← hs]; split <;> first | rfl | omega) (by omega)
            · refine j_aload_n G 1 dX5_best_61 rfl ?_
              refine j_iload_n G 4 dX5_best_62 rfl ?_
              refine j_iload_n G 3 dX5_best_63 rfl ?_
              refine j_callV (nA := 2) (As := [.int (jI i), .int (jI s)]) (st := []) (wc := (mV Y h q z sp pa st ke ik tx ln sn se (pAb (tZ z)) (pBe (tZ z)) (zW2 z (z (15 + 4 * k))) lo to tm so)) (wr := []) G (c_X5_isBetter l D Y h q z sp pa st ke ik tx ln sn se lo to tm so i s k (by first | assumption | omega) (by first | assumption | omega) (by first | assumption | omega) (by first | assumption | omega)) dX5_best_64 rfl gX5_best_X5_isBetter rfl rfl rfl (by decide +kernel) ⟨by decide, by decide⟩ rfl 0 rfl rfl rfl (jLe.nil (jLe.rf _)) (Nat.le_of_ble_eq_true rfl) ⟨Nat.zero_le _, Nat.zero_le _⟩ (fun v_ w_ hp_ => ?_)
              obtain ⟨rfl, rfl⟩ := hp_
              show J x 0 0 (mV Y h q z sp pa st ke ik tx ln sn se (pAb (tZ z)) (pBe (tZ z)) (zW2 z (z (15 + 4 * k))) lo to tm so) 67 [(4, .int (jI 1)), (0, .ref h), (1, .int (jI k)), (2, .int (jI s)), (3, .int (jI i))] [.int (jI (if zLo z (tZ z) s < zLo z (tZ z) i ∨ (zLo z (tZ z) i = zLo z (tZ z) s ∧ (z (28 + s) < z (28 + i) ∨ (z (28 + i) = z (28 + s) ∧ zWay z k i < zWay z k s))) then 1 else 0))]
              refine j_ifz_eq (tgt := 74) G dX5_best_67 (by decide) (fun c67 => ?_) (fun c67 => ?_)
              · refine j_iload_n G 3 dX5_best_74 rfl ?_
                refine j_istore_n (lv' := [(2, .int (jI s)), (4, .int (jI 1)), (0, .ref h), (1, .int (jI k)), (3, .int (jI i))]) G dX5_best_75 (by decide) rfl ?_
                refine j_iinc (w := i + 1) (lv' := [(3, .int (jI (i + 1))), (2, .int (jI s)), (4, .int (jI 1)), (0, .ref h), (1, .int (jI k))]) G 4 dX5_best_76 rfl rfl (by decide) rfl ?_
                refine j_goto (tgt := 28) G dX5_best_79 (by decide) ?_
                refine j_lv [3, 4, 1, 0] (lv' := [(0, .ref h), (1, .int (jI k)), (2, .int (jI s)), (3, .int (jI (i + 1)))]) rfl ?_
                exact ih28 (i + 1) s (by omega) (by omega) (by rw [zBest_S hi.1, ← hs]; split <;> first | rfl | omega) (by omega)
              · refine j_iload_n G 4 dX5_best_70 rfl ?_
                refine j_goto (tgt := 75) G dX5_best_71 (by decide) ?_
                refine j_istore_n (lv' := [(2, .int (jI i)), (4, .int (jI 1)), (0, .ref h), (1, .int (jI k)), (3, .int (jI i))]) G dX5_best_75 (by decide) rfl ?_
                refine j_iinc (w := i + 1) (lv' := [(3, .int (jI (i + 1))), (2, .int (jI i)), (4, .int (jI 1)), (0, .ref h), (1, .int (jI k))]) G 4 dX5_best_76 rfl rfl (by decide) rfl ?_
                refine j_goto (tgt := 28) G dX5_best_79 (by decide) ?_
                refine j_lv [3, 4, 1, 0] (lv' := [(0, .ref h), (1, .int (jI k)), (2, .int (jI i)), (3, .int (jI (i + 1)))]) rfl ?_
                exact ih28 (i + 1) i (by omega) (by omega) (by rw [zBest_S hi.1, ← hs]; split <;> first | rfl | omega) (by omega)
    refine j_lv [2, 3, 1, 0] (lv' := [(0, .ref h), (1, .int (jI k)), (2, .int (jI (-5))), (3, .int (jI 0))]) rfl ?_
    exact lp28 (Int.toNat ((64 - 0) + 1)) 0 (-5) (by omega) (by omega) (by rfl) (by omega)
  · refine j_iconst G dX5_best_7 (v := (-1)) rfl ?_
    exact j_reti G dX5_best_8 (by exact (if_neg (by omega)).symm) (jLe.rf _) (kr0 _ _ ⟨dn, up, fa, rfl, rfl⟩)

set_option maxHeartbeats 4000000 in
set_option maxRecDepth 100000 in
theorem c_X5_openRow (l : Launch) (D : va_G) (Y : Nat → ClassId) (h : Nat) (q : Nat → Nat) (z : Int → Int) (sp : Int → Int) (pa : Int → Int) (st : Int) (ke : Int → Int) (ik : Int) (tx : Int → Int) (ln : Int) (sn : Int) (se : Int) (dn : Int → Int) (up : Int → Int) (fa : Int → Int) (lo : Int → Int) (to : Int → Int) (tm : Int) (so : Int) (hI : Inv z) : jM l yX5_openRow wsX5_openRow { frames := 3, cells := 0, slots := 0, locals := 63 } D Y [.ref h] (mV Y h q z sp pa st ke ik tx ln sn se dn up fa lo to tm so) (fun v_ w_ => v_ = some (.int (jI (F_open z))) ∧ w_ = (mV Y h q z sp pa st ke ik tx ln sn se (pAb (tZ z)) (pBe (tZ z)) fa lo to tm so)) 0 0 := by
  refine jM_of (cc := cX5_openRow) (maxL := 3) (ret := (some .int)) (by decide) rfl (Nat.le_of_ble_eq_true rfl) (fun v w' h => Or.inr (Or.inl ⟨_, _, rfl, h.1, rfl⟩)) ?_
  intro x G kr0
  have kr := kr0 _ _ ⟨rfl, rfl⟩
  have G : jG x l D Y cX5_openRow RX5 wsX5_openRow 3 ({ frames := 3, cells := 0, slots := 0, locals := 63 } : Room) (some .int) "openRow" := G
  have f0 := pAll_b (tZ z)
  have f1 := hI.pa
  show J x 0 0 (mV Y h q z sp pa st ke ik tx ln sn se dn up fa lo to tm so) 0 [(0, .ref h)] []
  refine j_aload_n G 0 dX5_openRow_0 rfl ?_
  refine j_callV (nA := 0) (As := []) (st := []) (wc := (mV Y h q z sp pa st ke ik tx ln sn se dn up fa lo to tm so)) (wr := []) G (c_X5_paths l D Y h q z sp pa st ke ik tx ln sn se dn up fa lo to tm so (by first | assumption | exact hI.tR)) dX5_openRow_1 rfl gX5_openRow_X5_paths rfl rfl rfl (by decide +kernel) ⟨by decide, by decide⟩ rfl 0 rfl rfl rfl (jLe.nil (jLe.rf _)) (Nat.le_of_ble_eq_true rfl) ⟨Nat.zero_le _, Nat.zero_le _⟩ (fun v_ w_ hp_ => ?_)
  obtain ⟨rfl, rfl⟩ := hp_
  show J x 0 0 (mV Y h q z sp pa st ke ik tx ln sn se (pAb (tZ z)) (pBe (tZ z)) fa lo to tm so) 4 [(0, .ref h)] [.int (jI (pAll (tZ z)))]
  refine j_iconst G dX5_openRow_4 (v := 1) rfl ?_
  refine j_icmp_ne (tgt := 11) G dX5_openRow_5 (by decide) (by omega) (by omega) (fun c5 => ?_) (fun c5 => ?_)
  · refine j_iconst G dX5_openRow_11 (v := 0) rfl ?_
    refine j_istore_n (lv' := [(1, .int (jI 0)), (0, .ref h)]) G dX5_openRow_12 (by decide) rfl ?_
    refine j_iconst G dX5_openRow_13 (v := 1) rfl ?_
    refine j_istore_n (lv' := [(2, .int (jI 1)), (1, .int (jI 0)), (0, .ref h)]) G dX5_openRow_14 (by decide) rfl ?_
    have lp15 : ∀ (n_ : Nat) (i : Int) (s : Int), (1 ≤ i ∧ i ≤ 8) → (0 ≤ s ∧ s < 8) → (s = cRow (fun r => cOpen (fun c => pTh (tZ z) (r * 8 + c)) 8) (i - 1).toNat) → (8 - i) < (n_ : Int) → J x 0 0 (mV Y h q z sp pa st ke ik tx ln sn se (pAb (tZ z)) (pBe (tZ z)) fa lo to tm so) 15 [(0, .ref h), (1, .int (jI s)), (2, .int (jI i))] [] := by
      intro n_
      induction n_ with
      | zero =>
        intro i s hi hb hs hm_
        exact absurd hm_ (by omega)
      | succ n_ ih15 =>
        intro i s hi hb hs hm_
        refine j_iload_n G 2 dX5_openRow_15 rfl ?_
        refine j_bipush G dX5_openRow_16 (v := 8) rfl ?_
        refine j_icmp_ge (tgt := 48) G dX5_openRow_18 (by decide) (by omega) (by omega) (fun c18 => ?_) (fun c18 => ?_)
        · refine j_iload_n G 1 dX5_openRow_48 rfl ?_
          exact j_reti G dX5_openRow_49 (by unfold F_open; rw [if_neg (by omega), hs, show i = 8 by omega]; rfl) (jLe.rf _) kr
        · refine j_aload_n G 0 dX5_openRow_21 rfl ?_
          refine j_iload_n G 2 dX5_openRow_22 rfl ?_
          refine j_iconst G dX5_openRow_23 (v := 0) rfl ?_
          refine j_callV (nA := 2) (As := [.int (jI i), .int (jI 0)]) (st := []) (wc := (mV Y h q z sp pa st ke ik tx ln sn se (pAb (tZ z)) (pBe (tZ z)) fa lo to tm so)) (wr := []) G (c_X5_columns0 l D Y h q z sp pa st ke ik tx ln sn se fa lo to tm so i (by first | assumption | omega)) dX5_openRow_24 rfl gX5_openRow_X5_columns rfl rfl rfl (by decide +kernel) ⟨by decide, by decide⟩ rfl 0 rfl rfl rfl (jLe.nil (jLe.rf _)) (Nat.le_of_ble_eq_true rfl) ⟨Nat.zero_le _, Nat.zero_le _⟩ (fun v_ w_ hp_ => ?_)
          obtain ⟨rfl, rfl⟩ := hp_
          show J x 0 0 (mV Y h q z sp pa st ke ik tx ln sn se (pAb (tZ z)) (pBe (tZ z)) fa lo to tm so) 27 [(0, .ref h), (1, .int (jI s)), (2, .int (jI i))] [.int (jI (cOpen (fun c => pTh (tZ z) (i * 8 + c)) 8))]
          refine j_aload_n G 0 dX5_openRow_27 rfl ?_
          refine j_iload_n G 1 dX5_openRow_28 rfl ?_
          refine j_iconst G dX5_openRow_29 (v := 0) rfl ?_
          refine j_callV (nA := 2) (As := [.int (jI s), .int (jI 0)]) (st := [.int (jI (cOpen (fun c => pTh (tZ z) (i * 8 + c)) 8))]) (wc := (mV Y h q z sp pa st ke ik tx ln sn se (pAb (tZ z)) (pBe (tZ z)) fa lo to tm so)) (wr := []) G (c_X5_columns0 l D Y h q z sp pa st ke ik tx ln sn se fa lo to tm so s (by first | assumption | omega)) dX5_openRow_30 rfl gX5_openRow_X5_columns rfl rfl rfl (by decide +kernel) ⟨by decide, by decide⟩ rfl 0 rfl rfl rfl (jLe.nil (jLe.rf _)) (Nat.le_of_ble_eq_true rfl) ⟨Nat.zero_le _, Nat.zero_le _⟩ (fun v_ w_ hp_ => ?_)
          obtain ⟨rfl, rfl⟩ := hp_
          show J x 0 0 (mV Y h q z sp pa st ke ik tx ln sn se (pAb (tZ z)) (pBe (tZ z)) fa lo to tm so) 33 [(0, .ref h), (1, .int (jI s)), (2, .int (jI i))] [.int (jI (cOpen (fun c => pTh (tZ z) (s * 8 + c)) 8)), .int (jI (cOpen (fun c => pTh (tZ z) (i * 8 + c)) 8))]
          have g1 := cOpen_b (fun c => pTh (tZ z) (i * 8 + c)) 8
          have g2 := cOpen_b (fun c => pTh (tZ z) (s * 8 + c)) 8
          refine j_icmp_le (tgt := 40) G dX5_openRow_33 (by decide) (by omega) (by omega) (fun c33 => ?_) (fun c33 => ?_)
          · refine j_iload_n G 1 dX5_openRow_40 rfl ?_
            refine j_istore_n (lv' := [(1, .int (jI s)), (0, .ref h), (2, .int (jI i))]) G dX5_openRow_41 (by decide) rfl ?_
            refine j_iinc (w := i + 1) (lv' := [(2, .int (jI (i + 1))), (1, .int (jI s)), (0, .ref h)]) G 2 dX5_openRow_42 rfl rfl (by decide) rfl ?_
            refine j_goto (tgt := 15) G dX5_openRow_45 (by decide) ?_
            refine j_lv [2, 1, 0] (lv' := [(0, .ref h), (1, .int (jI s)), (2, .int (jI (i + 1)))]) rfl ?_
            exact ih15 (i + 1) s (by omega) (by omega) (by rw [show i + 1 - 1 = i - 1 + 1 by omega, cRow_S (by omega), ← hs, show i - 1 + 1 = i by omega]; first | rw [if_neg (by omega)] | rw [if_pos (by omega)]) (by omega)
          · refine j_iload_n G 2 dX5_openRow_36 rfl ?_
            refine j_goto (tgt := 41) G dX5_openRow_37 (by decide) ?_
            refine j_istore_n (lv' := [(1, .int (jI i)), (0, .ref h), (2, .int (jI i))]) G dX5_openRow_41 (by decide) rfl ?_
            refine j_iinc (w := i + 1) (lv' := [(2, .int (jI (i + 1))), (1, .int (jI i)), (0, .ref h)]) G 2 dX5_openRow_42 rfl rfl (by decide) rfl ?_
            refine j_goto (tgt := 15) G dX5_openRow_45 (by decide) ?_
            refine j_lv [2, 1, 0] (lv' := [(0, .ref h), (1, .int (jI i)), (2, .int (jI (i + 1)))]) rfl ?_
            exact ih15 (i + 1) i (by omega) (by omega) (by rw [show i + 1 - 1 = i - 1 + 1 by omega, cRow_S (by omega), ← hs, show i - 1 + 1 = i by omega]; first | rw [if_neg (by omega)] | rw [if_pos (by omega)]) (by omega)
    refine j_lv [2, 1, 0] (lv' := [(0, .ref h), (1, .int (jI 0)), (2, .int (jI 1))]) rfl ?_
    exact lp15 (Int.toNat ((8 - 1) + 1)) 1 0 (by omega) (by omega) (by rfl) (by omega)
  · refine j_bipush G dX5_openRow_8 (v := (-5)) rfl ?_
    exact j_reti G dX5_openRow_10 (by exact (if_pos (by omega)).symm) (jLe.rf _) kr

set_option maxHeartbeats 4000000 in
set_option maxRecDepth 100000 in
theorem c_X5_ifTold (l : Launch) (D : va_G) (Y : Nat → ClassId) (h : Nat) (q : Nat → Nat) (z : Int → Int) (sp : Int → Int) (pa : Int → Int) (st : Int) (ke : Int → Int) (ik : Int) (tx : Int → Int) (ln : Int) (sn : Int) (se : Int) (dn : Int → Int) (up : Int → Int) (fa : Int → Int) (lo : Int → Int) (to : Int → Int) (tm : Int) (so : Int) (r : Int) (c : Int) (hI : Inv z) (h_r : -2147483648 ≤ r ∧ r < 2147483648) (h_c : -2147483648 ≤ c ∧ c < 2147483648) : jM l yX5_ifTold wsX5_ifTold { frames := 3, cells := 0, slots := 0, locals := 65 } D Y [.ref h, .int (jI r), .int (jI c)] (mV Y h q z sp pa st ke ik tx ln sn se dn up fa lo to tm so) (fun v_ w_ => ∃ (d2 : Int → Int) (u2 : Int → Int), v_ = some (.int (jI (F_told z r c))) ∧ w_ = (mV Y h q z sp pa st ke ik tx ln sn se d2 u2 fa lo to tm so)) 0 0 := by
  refine jM_of (cc := cX5_ifTold) (maxL := 3) (ret := (some .int)) (by decide) rfl (Nat.le_of_ble_eq_true rfl) (fun v w' h => by obtain ⟨_, _, h⟩ := h; exact Or.inr (Or.inl ⟨_, _, rfl, h.1, rfl⟩)) ?_
  intro x G kr0
  have G : jG x l D Y cX5_ifTold RX5 wsX5_ifTold 3 ({ frames := 3, cells := 0, slots := 0, locals := 65 } : Room) (some .int) "ifTold" := G
  show J x 0 0 (mV Y h q z sp pa st ke ik tx ln sn se dn up fa lo to tm so) 0 [(0, .ref h), (1, .int (jI r)), (2, .int (jI c))] []
  refine j_iload_n G 1 dX5_ifTold_0 rfl ?_
  refine j_callS (nA := 1) (As := [.int (jI r)]) (st := []) (wc := []) (wr := (mV Y h q z sp pa st ke ik tx ln sn se dn up fa lo to tm so)) G (c_X5_isLine l D Y r (by first | assumption | omega)) dX5_ifTold_1 rfl gX5_ifTold_X5_isLine rfl rfl rfl (by decide +kernel) ⟨by decide, by decide⟩ rfl (jLe.rf _) (Nat.le_of_ble_eq_true rfl) ⟨Nat.zero_le _, Nat.zero_le _⟩ (fun v_ w_ hp_ => ?_)
  obtain ⟨rfl, rfl⟩ := hp_
  show J x 0 0 (mV Y h q z sp pa st ke ik tx ln sn se dn up fa lo to tm so) 4 [(0, .ref h), (1, .int (jI r)), (2, .int (jI c))] [.int (jI (if 0 ≤ r ∧ r ≤ 7 then 1 else 0))]
  refine j_ifz_ne (tgt := 11) G dX5_ifTold_4 (by decide) (fun c4 => ?_) (fun c4 => ?_)
  · refine j_iload_n G 2 dX5_ifTold_11 rfl ?_
    refine j_callS (nA := 1) (As := [.int (jI c)]) (st := []) (wc := []) (wr := (mV Y h q z sp pa st ke ik tx ln sn se dn up fa lo to tm so)) G (c_X5_isLine l D Y c (by first | assumption | omega)) dX5_ifTold_12 rfl gX5_ifTold_X5_isLine rfl rfl rfl (by decide +kernel) ⟨by decide, by decide⟩ rfl (jLe.rf _) (Nat.le_of_ble_eq_true rfl) ⟨Nat.zero_le _, Nat.zero_le _⟩ (fun v_ w_ hp_ => ?_)
    obtain ⟨rfl, rfl⟩ := hp_
    show J x 0 0 (mV Y h q z sp pa st ke ik tx ln sn se dn up fa lo to tm so) 15 [(0, .ref h), (1, .int (jI r)), (2, .int (jI c))] [.int (jI (if 0 ≤ c ∧ c ≤ 7 then 1 else 0))]
    refine j_ifz_eq (tgt := 27) G dX5_ifTold_15 (by decide) (fun c15 => ?_) (fun c15 => ?_)
    · refine j_bipush G dX5_ifTold_27 (v := (-2)) rfl ?_
      exact j_reti G dX5_ifTold_29 (by unfold F_told; (repeat' split) <;> first | rfl | omega) (jLe.rf _) (kr0 _ _ ⟨dn, up, rfl, rfl⟩)
    · refine j_aload_n G 0 dX5_ifTold_18 rfl ?_
      refine j_iload_n G 1 dX5_ifTold_19 rfl ?_
      refine j_iload_n G 2 dX5_ifTold_20 rfl ?_
      refine j_callV (nA := 2) (As := [.int (jI r), .int (jI c)]) (st := []) (wc := (mV Y h q z sp pa st ke ik tx ln sn se dn up fa lo to tm so)) (wr := []) G (c_X5_pathsAt l D Y h q z sp pa st ke ik tx ln sn se dn up fa lo to tm so r c (by first | assumption | exact hI.tR) (by first | assumption | omega) (by first | assumption | omega)) dX5_ifTold_21 rfl gX5_ifTold_X5_pathsAt rfl rfl rfl (by decide +kernel) ⟨by decide, by decide⟩ rfl 0 rfl rfl rfl (jLe.nil (jLe.rf _)) (Nat.le_of_ble_eq_true rfl) ⟨Nat.zero_le _, Nat.zero_le _⟩ (fun v_ w_ hp_ => ?_)
      obtain ⟨rfl, rfl⟩ := hp_
      show J x 0 0 (mV Y h q z sp pa st ke ik tx ln sn se (pAb (tZ z)) (pBe (tZ z)) fa lo to tm so) 24 [(0, .ref h), (1, .int (jI r)), (2, .int (jI c))] [.int (jI (pTh (tZ z) (r * 8 + c)))]
      refine j_goto (tgt := 29) G dX5_ifTold_24 (by decide) ?_
      exact j_reti G dX5_ifTold_29 (by unfold F_told; (repeat' split) <;> first | rfl | omega) (jLe.rf _) (kr0 _ _ ⟨(pAb (tZ z)), (pBe (tZ z)), rfl, rfl⟩)
  · refine j_iconst G dX5_ifTold_7 (v := (-1)) rfl ?_
    refine j_goto (tgt := 29) G dX5_ifTold_8 (by decide) ?_
    exact j_reti G dX5_ifTold_29 (by unfold F_told; (repeat' split) <;> first | rfl | omega) (jLe.rf _) (kr0 _ _ ⟨dn, up, rfl, rfl⟩)

set_option maxHeartbeats 4000000 in
set_option maxRecDepth 100000 in
theorem c_X5_count (l : Launch) (D : va_G) (Y : Nat → ClassId) (h : Nat) (q : Nat → Nat) (z : Int → Int) (sp : Int → Int) (pa : Int → Int) (st : Int) (ke : Int → Int) (ik : Int) (tx : Int → Int) (ln : Int) (sn : Int) (se : Int) (dn : Int → Int) (up : Int → Int) (fa : Int → Int) (lo : Int → Int) (to : Int → Int) (tm : Int) (so : Int) (w : Int) (hI : Inv z) (h_w : -2147483648 ≤ w ∧ w < 2147483648) : jM l yX5_count wsX5_count { frames := 4, cells := 0, slots := 0, locals := 89 } D Y [.ref h, .int (jI w)] (mV Y h q z sp pa st ke ik tx ln sn se dn up fa lo to tm so) (fun v_ w_ => v_ = some (.int (jI (F_count z st ln w))) ∧ w_ = (mV Y h q z sp pa st ke ik tx ln sn se (pAb (tZ z)) (pBe (tZ z)) fa lo to tm so)) 0 0 := by
  refine jM_of (cc := cX5_count) (maxL := 2) (ret := (some .int)) (by decide) rfl (Nat.le_of_ble_eq_true rfl) (fun v w' h => Or.inr (Or.inl ⟨_, _, rfl, h.1, rfl⟩)) ?_
  intro x G kr0
  have kr := kr0 _ _ ⟨rfl, rfl⟩
  have G : jG x l D Y cX5_count RX5 wsX5_count 2 ({ frames := 4, cells := 0, slots := 0, locals := 89 } : Room) (some .int) "count" := G
  have hinX5 : ∀ w ∈ wsX50, w ∈ wsX5_count := fun _ h => List.mem_cons_of_mem _ (List.mem_append_right _ h)
  show J x 0 0 (mV Y h q z sp pa st ke ik tx ln sn se dn up fa lo to tm so) 0 [(0, .ref h), (1, .int (jI w))] []
  refine j_aload_n G 0 dX5_count_0 rfl ?_
  refine j_callV (nA := 0) (As := []) (st := []) (wc := (mV Y h q z sp pa st ke ik tx ln sn se dn up fa lo to tm so)) (wr := []) G (c_X5_countPaths l D Y h q z sp pa st ke ik tx ln sn se dn up fa lo to tm so (by first | assumption | exact hI.tR)) dX5_count_1 rfl gX5_count_X5_countPaths rfl rfl rfl (by decide +kernel) ⟨by decide, by decide⟩ rfl 0 rfl rfl rfl (jLe.nil (jLe.rf _)) (Nat.le_of_ble_eq_true rfl) ⟨Nat.zero_le _, Nat.zero_le _⟩ (fun v_ w_ hp_ => ?_)
  obtain ⟨rfl, rfl⟩ := hp_
  show J x 0 0 (mV Y h q z sp pa st ke ik tx ln sn se (pAb (tZ z)) (pBe (tZ z)) fa lo to tm so) 4 [(0, .ref h), (1, .int (jI w))] []
  refine j_iload_n G 1 dX5_count_4 rfl ?_
  rcases (show w = 0 ∨ w = 1 ∨ w = 2 ∨ w = 3 ∨ w = 4 ∨ w = 5 ∨ w = 6 ∨ w = 7 ∨ w = 8 ∨ w = 9 ∨ w = 10 ∨ w = 11 ∨ w = 12 ∨ w = 13 ∨ w = 14 ∨ w = 15 ∨ w = 16 ∨ (¬ w = 0 ∧ ¬ w = 1 ∧ ¬ w = 2 ∧ ¬ w = 3 ∧ ¬ w = 4 ∧ ¬ w = 5 ∧ ¬ w = 6 ∧ ¬ w = 7 ∧ ¬ w = 8 ∧ ¬ w = 9 ∧ ¬ w = 10 ∧ ¬ w = 11 ∧ ¬ w = 12 ∧ ¬ w = 13 ∧ ¬ w = 14 ∧ ¬ w = 15 ∧ ¬ w = 16) by omega) with s5 | s5 | s5 | s5 | s5 | s5 | s5 | s5 | s5 | s5 | s5 | s5 | s5 | s5 | s5 | s5 | s5 | s5
  · refine j_tblIn (tgt := 88) G 0 dX5_count_5 (by omega) (by omega) (by omega) rfl (by decide) ?_
    refine j_aload_n G 0 dX5_count_88 rfl ?_
    refine j_get (q := 0) (C := RX5) (T := TX5) (N := 17) (v := .ref (q 0)) G 0 hinX5 dX5_count_89 rfl rfl (by decide) (by decide +kernel) rfl ?_
    refine j_iconst G dX5_count_92 (v := 3) rfl ?_
    refine j_iald (v := z 3) G 1 dX5_count_93 rfl (by omega) rfl ?_
    exact j_reti G dX5_count_94 (by first | (subst s5; rfl) | (subst s5; show sumI 64 (fun j => z (156 + j)) = sumI 64 (fun p => if ¬ z (156 + p) = 0 then 1 else 0); exact sumI_congr 64 (fun j a b => by rcases hI.fe j a (by omega) with e | e <;> rw [e] <;> rfl)) | (unfold F_count; (repeat rw [if_neg (by omega)]))) (jLe.rf _) kr
  · refine j_tblIn (tgt := 95) G 1 dX5_count_5 (by omega) (by omega) (by omega) rfl (by decide) ?_
    refine j_aload_n G 0 dX5_count_95 rfl ?_
    refine j_bipush G dX5_count_96 (v := 28) rfl ?_
    refine j_bipush G dX5_count_98 (v := 64) rfl ?_
    refine j_callV (nA := 2) (As := [.int (jI 28), .int (jI 64)]) (st := []) (wc := (mV Y h q z sp pa st ke ik tx ln sn se (pAb (tZ z)) (pBe (tZ z)) fa lo to tm so)) (wr := []) G (c_X5_sum l D Y h q z sp pa st ke ik tx ln sn se (pAb (tZ z)) (pBe (tZ z)) fa lo to tm so 28 64 (by first | assumption | omega) (by first | assumption | omega) (by first | assumption | omega)) dX5_count_100 rfl gX5_count_X5_sum rfl rfl rfl (by decide +kernel) ⟨by decide, by decide⟩ rfl 0 rfl rfl rfl (jLe.nil (jLe.rf _)) (Nat.le_of_ble_eq_true rfl) ⟨Nat.zero_le _, Nat.zero_le _⟩ (fun v_ w_ hp_ => ?_)
    obtain ⟨rfl, rfl⟩ := hp_
    show J x 0 0 (mV Y h q z sp pa st ke ik tx ln sn se (pAb (tZ z)) (pBe (tZ z)) fa lo to tm so) 103 [(0, .ref h), (1, .int (jI w))] [.int (jI (sumI (Int.toNat 64) (fun j => z (28 + j))))]
    exact j_reti G dX5_count_103 (by first | (subst s5; rfl) | (subst s5; show sumI 64 (fun j => z (156 + j)) = sumI 64 (fun p => if ¬ z (156 + p) = 0 then 1 else 0); exact sumI_congr 64 (fun j a b => by rcases hI.fe j a (by omega) with e | e <;> rw [e] <;> rfl)) | (unfold F_count; (repeat rw [if_neg (by omega)]))) (jLe.rf _) kr
  · refine j_tblIn (tgt := 104) G 2 dX5_count_5 (by omega) (by omega) (by omega) rfl (by decide) ?_
    refine j_aload_n G 0 dX5_count_104 rfl ?_
    refine j_iconst G dX5_count_105 (v := 0) rfl ?_
    refine j_callV (nA := 1) (As := [.int (jI 0)]) (st := []) (wc := (mV Y h q z sp pa st ke ik tx ln sn se (pAb (tZ z)) (pBe (tZ z)) fa lo to tm so)) (wr := []) G (c_X5_plotsHit0 l D Y h q z sp pa st ke ik tx ln sn se fa lo to tm so (by first | assumption | omega)) dX5_count_106 rfl gX5_count_X5_plotsHit rfl rfl rfl (by decide +kernel) ⟨by decide, by decide⟩ rfl 0 rfl rfl rfl (jLe.nil (jLe.rf _)) (Nat.le_of_ble_eq_true rfl) ⟨Nat.zero_le _, Nat.zero_le _⟩ (fun v_ w_ hp_ => ?_)
    obtain ⟨rfl, rfl⟩ := hp_
    show J x 0 0 (mV Y h q z sp pa st ke ik tx ln sn se (pAb (tZ z)) (pBe (tZ z)) fa lo to tm so) 109 [(0, .ref h), (1, .int (jI w))] [.int (jI (sumI 64 (fun p => if 0 < zHi z (tZ z) p then 1 else 0)))]
    exact j_reti G dX5_count_109 (by first | (subst s5; rfl) | (subst s5; show sumI 64 (fun j => z (156 + j)) = sumI 64 (fun p => if ¬ z (156 + p) = 0 then 1 else 0); exact sumI_congr 64 (fun j a b => by rcases hI.fe j a (by omega) with e | e <;> rw [e] <;> rfl)) | (unfold F_count; (repeat rw [if_neg (by omega)]))) (jLe.rf _) kr
  · refine j_tblIn (tgt := 110) G 3 dX5_count_5 (by omega) (by omega) (by omega) rfl (by decide) ?_
    refine j_aload_n G 0 dX5_count_110 rfl ?_
    refine j_iconst G dX5_count_111 (v := 1) rfl ?_
    refine j_callV (nA := 1) (As := [.int (jI 1)]) (st := []) (wc := (mV Y h q z sp pa st ke ik tx ln sn se (pAb (tZ z)) (pBe (tZ z)) fa lo to tm so)) (wr := []) G (c_X5_plotsHit1 l D Y h q z sp pa st ke ik tx ln sn se fa lo to tm so (by first | assumption | omega)) dX5_count_112 rfl gX5_count_X5_plotsHit rfl rfl rfl (by decide +kernel) ⟨by decide, by decide⟩ rfl 0 rfl rfl rfl (jLe.nil (jLe.rf _)) (Nat.le_of_ble_eq_true rfl) ⟨Nat.zero_le _, Nat.zero_le _⟩ (fun v_ w_ hp_ => ?_)
    obtain ⟨rfl, rfl⟩ := hp_
    show J x 0 0 (mV Y h q z sp pa st ke ik tx ln sn se (pAb (tZ z)) (pBe (tZ z)) fa lo to tm so) 115 [(0, .ref h), (1, .int (jI w))] [.int (jI (sumI 64 (fun p => if zHi z (tZ z) p = pAll (tZ z) then 1 else 0)))]
    exact j_reti G dX5_count_115 (by first | (subst s5; rfl) | (subst s5; show sumI 64 (fun j => z (156 + j)) = sumI 64 (fun p => if ¬ z (156 + p) = 0 then 1 else 0); exact sumI_congr 64 (fun j a b => by rcases hI.fe j a (by omega) with e | e <;> rw [e] <;> rfl)) | (unfold F_count; (repeat rw [if_neg (by omega)]))) (jLe.rf _) kr
  · refine j_tblIn (tgt := 116) G 4 dX5_count_5 (by omega) (by omega) (by omega) rfl (by decide) ?_
    refine j_aload_n G 0 dX5_count_116 rfl ?_
    refine j_callV (nA := 0) (As := []) (st := []) (wc := (mV Y h q z sp pa st ke ik tx ln sn se (pAb (tZ z)) (pBe (tZ z)) fa lo to tm so)) (wr := []) G (c_X5_allToLose l D Y h q z sp pa st ke ik tx ln sn se fa lo to tm so (by first | assumption | omega)) dX5_count_117 rfl gX5_count_X5_allToLose rfl rfl rfl (by decide +kernel) ⟨by decide, by decide⟩ rfl 0 rfl rfl rfl (jLe.nil (jLe.rf _)) (Nat.le_of_ble_eq_true rfl) ⟨Nat.zero_le _, Nat.zero_le _⟩ (fun v_ w_ hp_ => ?_)
    obtain ⟨rfl, rfl⟩ := hp_
    show J x 0 0 (mV Y h q z sp pa st ke ik tx ln sn se (pAb (tZ z)) (pBe (tZ z)) fa lo to tm so) 120 [(0, .ref h), (1, .int (jI w))] [.int (jI (sumI 64 (fun p => zLo z (tZ z) p)))]
    exact j_reti G dX5_count_120 (by first | (subst s5; rfl) | (subst s5; show sumI 64 (fun j => z (156 + j)) = sumI 64 (fun p => if ¬ z (156 + p) = 0 then 1 else 0); exact sumI_congr 64 (fun j a b => by rcases hI.fe j a (by omega) with e | e <;> rw [e] <;> rfl)) | (unfold F_count; (repeat rw [if_neg (by omega)]))) (jLe.rf _) kr
  · refine j_tblIn (tgt := 121) G 5 dX5_count_5 (by omega) (by omega) (by omega) rfl (by decide) ?_
    refine j_aload_n G 0 dX5_count_121 rfl ?_
    refine j_callV (nA := 0) (As := []) (st := []) (wc := (mV Y h q z sp pa st ke ik tx ln sn se (pAb (tZ z)) (pBe (tZ z)) fa lo to tm so)) (wr := []) G (c_X5_allPaths l D Y h q z sp pa st ke ik tx ln sn se fa lo to tm so ) dX5_count_122 rfl gX5_count_X5_allPaths rfl rfl rfl (by decide +kernel) ⟨by decide, by decide⟩ rfl 0 rfl rfl rfl (jLe.nil (jLe.rf _)) (Nat.le_of_ble_eq_true rfl) ⟨Nat.zero_le _, Nat.zero_le _⟩ (fun v_ w_ hp_ => ?_)
    obtain ⟨rfl, rfl⟩ := hp_
    show J x 0 0 (mV Y h q z sp pa st ke ik tx ln sn se (pAb (tZ z)) (pBe (tZ z)) fa lo to tm so) 125 [(0, .ref h), (1, .int (jI w))] [.int (jI (pAll (tZ z)))]
    exact j_reti G dX5_count_125 (by first | (subst s5; rfl) | (subst s5; show sumI 64 (fun j => z (156 + j)) = sumI 64 (fun p => if ¬ z (156 + p) = 0 then 1 else 0); exact sumI_congr 64 (fun j a b => by rcases hI.fe j a (by omega) with e | e <;> rw [e] <;> rfl)) | (unfold F_count; (repeat rw [if_neg (by omega)]))) (jLe.rf _) kr
  · refine j_tblIn (tgt := 126) G 6 dX5_count_5 (by omega) (by omega) (by omega) rfl (by decide) ?_
    refine j_aload_n G 0 dX5_count_126 rfl ?_
    refine j_callV (nA := 0) (As := []) (st := []) (wc := (mV Y h q z sp pa st ke ik tx ln sn se (pAb (tZ z)) (pBe (tZ z)) fa lo to tm so)) (wr := []) G (c_X5_hints l D Y h q z sp pa st ke ik tx ln sn se (pAb (tZ z)) (pBe (tZ z)) fa lo to tm so (by first | assumption | omega)) dX5_count_127 rfl gX5_count_X5_hints rfl rfl rfl (by decide +kernel) ⟨by decide, by decide⟩ rfl 0 rfl rfl rfl (jLe.nil (jLe.rf _)) (Nat.le_of_ble_eq_true rfl) ⟨Nat.zero_le _, Nat.zero_le _⟩ (fun v_ w_ hp_ => ?_)
    obtain ⟨rfl, rfl⟩ := hp_
    show J x 0 0 (mV Y h q z sp pa st ke ik tx ln sn se (pAb (tZ z)) (pBe (tZ z)) fa lo to tm so) 130 [(0, .ref h), (1, .int (jI w))] [.int (jI (sumI 8 (fun r => if ¬ z (7 + r) = -5 then 1 else 0)))]
    exact j_reti G dX5_count_130 (by first | (subst s5; rfl) | (subst s5; show sumI 64 (fun j => z (156 + j)) = sumI 64 (fun p => if ¬ z (156 + p) = 0 then 1 else 0); exact sumI_congr 64 (fun j a b => by rcases hI.fe j a (by omega) with e | e <;> rw [e] <;> rfl)) | (unfold F_count; (repeat rw [if_neg (by omega)]))) (jLe.rf _) kr
  · refine j_tblIn (tgt := 131) G 7 dX5_count_5 (by omega) (by omega) (by omega) rfl (by decide) ?_
    refine j_aload_n G 0 dX5_count_131 rfl ?_
    refine j_iconst G dX5_count_132 (v := 0) rfl ?_
    refine j_iconst G dX5_count_133 (v := 2) rfl ?_
    refine j_callV (nA := 2) (As := [.int (jI 0), .int (jI 2)]) (st := []) (wc := (mV Y h q z sp pa st ke ik tx ln sn se (pAb (tZ z)) (pBe (tZ z)) fa lo to tm so)) (wr := []) G (c_X5_of2 l D Y h q z sp pa st ke ik tx ln sn se (pAb (tZ z)) (pBe (tZ z)) fa lo to tm so 0 (by first | assumption | omega)) dX5_count_134 rfl gX5_count_X5_of rfl rfl rfl (by decide +kernel) ⟨by decide, by decide⟩ rfl 0 rfl rfl rfl (jLe.nil (jLe.rf _)) (Nat.le_of_ble_eq_true rfl) ⟨Nat.zero_le _, Nat.zero_le _⟩ (fun v_ w_ hp_ => ?_)
    obtain ⟨rfl, rfl⟩ := hp_
    show J x 0 0 (mV Y h q z sp pa st ke ik tx ln sn se (pAb (tZ z)) (pBe (tZ z)) fa lo to tm so) 137 [(0, .ref h), (1, .int (jI w))] [.int (jI (z (17 + 4 * 0)))]
    refine j_aload_n G 0 dX5_count_137 rfl ?_
    refine j_iconst G dX5_count_138 (v := 1) rfl ?_
    refine j_iconst G dX5_count_139 (v := 2) rfl ?_
    refine j_callV (nA := 2) (As := [.int (jI 1), .int (jI 2)]) (st := [.int (jI (z (17 + 4 * 0)))]) (wc := (mV Y h q z sp pa st ke ik tx ln sn se (pAb (tZ z)) (pBe (tZ z)) fa lo to tm so)) (wr := []) G (c_X5_of2 l D Y h q z sp pa st ke ik tx ln sn se (pAb (tZ z)) (pBe (tZ z)) fa lo to tm so 1 (by first | assumption | omega)) dX5_count_140 rfl gX5_count_X5_of rfl rfl rfl (by decide +kernel) ⟨by decide, by decide⟩ rfl 0 rfl rfl rfl (jLe.nil (jLe.rf _)) (Nat.le_of_ble_eq_true rfl) ⟨Nat.zero_le _, Nat.zero_le _⟩ (fun v_ w_ hp_ => ?_)
    obtain ⟨rfl, rfl⟩ := hp_
    show J x 0 0 (mV Y h q z sp pa st ke ik tx ln sn se (pAb (tZ z)) (pBe (tZ z)) fa lo to tm so) 143 [(0, .ref h), (1, .int (jI w))] [.int (jI (z (17 + 4 * 1))), .int (jI (z (17 + 4 * 0)))]
    refine j_iadd G dX5_count_143 ?_
    refine j_aload_n G 0 dX5_count_144 rfl ?_
    refine j_iconst G dX5_count_145 (v := 2) rfl ?_
    refine j_iconst G dX5_count_146 (v := 2) rfl ?_
    refine j_callV (nA := 2) (As := [.int (jI 2), .int (jI 2)]) (st := [.int (jI ((z (17 + 4 * 0)) + (z (17 + 4 * 1))))]) (wc := (mV Y h q z sp pa st ke ik tx ln sn se (pAb (tZ z)) (pBe (tZ z)) fa lo to tm so)) (wr := []) G (c_X5_of2 l D Y h q z sp pa st ke ik tx ln sn se (pAb (tZ z)) (pBe (tZ z)) fa lo to tm so 2 (by first | assumption | omega)) dX5_count_147 rfl gX5_count_X5_of rfl rfl rfl (by decide +kernel) ⟨by decide, by decide⟩ rfl 0 rfl rfl rfl (jLe.nil (jLe.rf _)) (Nat.le_of_ble_eq_true rfl) ⟨Nat.zero_le _, Nat.zero_le _⟩ (fun v_ w_ hp_ => ?_)
    obtain ⟨rfl, rfl⟩ := hp_
    show J x 0 0 (mV Y h q z sp pa st ke ik tx ln sn se (pAb (tZ z)) (pBe (tZ z)) fa lo to tm so) 150 [(0, .ref h), (1, .int (jI w))] [.int (jI (z (17 + 4 * 2))), .int (jI ((z (17 + 4 * 0)) + (z (17 + 4 * 1))))]
    refine j_iadd G dX5_count_150 ?_
    exact j_reti G dX5_count_151 (by first | (subst s5; rfl) | (subst s5; show sumI 64 (fun j => z (156 + j)) = sumI 64 (fun p => if ¬ z (156 + p) = 0 then 1 else 0); exact sumI_congr 64 (fun j a b => by rcases hI.fe j a (by omega) with e | e <;> rw [e] <;> rfl)) | (unfold F_count; (repeat rw [if_neg (by omega)]))) (jLe.rf _) kr
  · refine j_tblIn (tgt := 152) G 8 dX5_count_5 (by omega) (by omega) (by omega) rfl (by decide) ?_
    refine j_aload_n G 0 dX5_count_152 rfl ?_
    refine j_get (q := 0) (C := RX5) (T := TX5) (N := 17) (v := .ref (q 0)) G 0 hinX5 dX5_count_153 rfl rfl (by decide) (by decide +kernel) rfl ?_
    refine j_iconst G dX5_count_156 (v := 4) rfl ?_
    refine j_iald (v := z 4) G 1 dX5_count_157 rfl (by omega) rfl ?_
    exact j_reti G dX5_count_158 (by first | (subst s5; rfl) | (subst s5; show sumI 64 (fun j => z (156 + j)) = sumI 64 (fun p => if ¬ z (156 + p) = 0 then 1 else 0); exact sumI_congr 64 (fun j a b => by rcases hI.fe j a (by omega) with e | e <;> rw [e] <;> rfl)) | (unfold F_count; (repeat rw [if_neg (by omega)]))) (jLe.rf _) kr
  · refine j_tblIn (tgt := 159) G 9 dX5_count_5 (by omega) (by omega) (by omega) rfl (by decide) ?_
    refine j_aload_n G 0 dX5_count_159 rfl ?_
    refine j_get (q := 0) (C := RX5) (T := TX5) (N := 17) (v := .ref (q 0)) G 0 hinX5 dX5_count_160 rfl rfl (by decide) (by decide +kernel) rfl ?_
    refine j_iconst G dX5_count_163 (v := 5) rfl ?_
    refine j_iald (v := z 5) G 1 dX5_count_164 rfl (by omega) rfl ?_
    exact j_reti G dX5_count_165 (by first | (subst s5; rfl) | (subst s5; show sumI 64 (fun j => z (156 + j)) = sumI 64 (fun p => if ¬ z (156 + p) = 0 then 1 else 0); exact sumI_congr 64 (fun j a b => by rcases hI.fe j a (by omega) with e | e <;> rw [e] <;> rfl)) | (unfold F_count; (repeat rw [if_neg (by omega)]))) (jLe.rf _) kr
  · refine j_tblIn (tgt := 166) G 10 dX5_count_5 (by omega) (by omega) (by omega) rfl (by decide) ?_
    refine j_aload_n G 0 dX5_count_166 rfl ?_
    refine j_get (q := 0) (C := RX5) (T := TX5) (N := 17) (v := .ref (q 0)) G 0 hinX5 dX5_count_167 rfl rfl (by decide) (by decide +kernel) rfl ?_
    refine j_bipush G dX5_count_170 (v := 6) rfl ?_
    refine j_iald (v := z 6) G 1 dX5_count_172 rfl (by omega) rfl ?_
    exact j_reti G dX5_count_173 (by first | (subst s5; rfl) | (subst s5; show sumI 64 (fun j => z (156 + j)) = sumI 64 (fun p => if ¬ z (156 + p) = 0 then 1 else 0); exact sumI_congr 64 (fun j a b => by rcases hI.fe j a (by omega) with e | e <;> rw [e] <;> rfl)) | (unfold F_count; (repeat rw [if_neg (by omega)]))) (jLe.rf _) kr
  · refine j_tblIn (tgt := 174) G 11 dX5_count_5 (by omega) (by omega) (by omega) rfl (by decide) ?_
    refine j_aload_n G 0 dX5_count_174 rfl ?_
    refine j_sipush G dX5_count_175 (v := 156) rfl ?_
    refine j_bipush G dX5_count_178 (v := 64) rfl ?_
    refine j_callV (nA := 2) (As := [.int (jI 156), .int (jI 64)]) (st := []) (wc := (mV Y h q z sp pa st ke ik tx ln sn se (pAb (tZ z)) (pBe (tZ z)) fa lo to tm so)) (wr := []) G (c_X5_sum l D Y h q z sp pa st ke ik tx ln sn se (pAb (tZ z)) (pBe (tZ z)) fa lo to tm so 156 64 (by first | assumption | omega) (by first | assumption | omega) (by first | assumption | omega)) dX5_count_180 rfl gX5_count_X5_sum rfl rfl rfl (by decide +kernel) ⟨by decide, by decide⟩ rfl 0 rfl rfl rfl (jLe.nil (jLe.rf _)) (Nat.le_of_ble_eq_true rfl) ⟨Nat.zero_le _, Nat.zero_le _⟩ (fun v_ w_ hp_ => ?_)
    obtain ⟨rfl, rfl⟩ := hp_
    show J x 0 0 (mV Y h q z sp pa st ke ik tx ln sn se (pAb (tZ z)) (pBe (tZ z)) fa lo to tm so) 183 [(0, .ref h), (1, .int (jI w))] [.int (jI (sumI (Int.toNat 64) (fun j => z (156 + j))))]
    exact j_reti G dX5_count_183 (by first | (subst s5; rfl) | (subst s5; show sumI 64 (fun j => z (156 + j)) = sumI 64 (fun p => if ¬ z (156 + p) = 0 then 1 else 0); exact sumI_congr 64 (fun j a b => by rcases hI.fe j a (by omega) with e | e <;> rw [e] <;> rfl)) | (unfold F_count; (repeat rw [if_neg (by omega)]))) (jLe.rf _) kr
  · refine j_tblIn (tgt := 184) G 12 dX5_count_5 (by omega) (by omega) (by omega) rfl (by decide) ?_
    refine j_aload_n G 0 dX5_count_184 rfl ?_
    refine j_get (q := 0) (C := RX5) (T := TX5) (N := 17) (v := .ref (q 0)) G 0 hinX5 dX5_count_185 rfl rfl (by decide) (by decide +kernel) rfl ?_
    refine j_iload_n G 1 dX5_count_188 rfl ?_
    refine j_bipush G dX5_count_189 (v := 12) rfl ?_
    refine j_isub G dX5_count_191 ?_
    refine j_iald (v := z (w - 12)) G 1 dX5_count_192 rfl (by omega) rfl ?_
    exact j_reti G dX5_count_193 (by first | (subst s5; rfl) | (subst s5; show sumI 64 (fun j => z (156 + j)) = sumI 64 (fun p => if ¬ z (156 + p) = 0 then 1 else 0); exact sumI_congr 64 (fun j a b => by rcases hI.fe j a (by omega) with e | e <;> rw [e] <;> rfl)) | (unfold F_count; (repeat rw [if_neg (by omega)]))) (jLe.rf _) kr
  · refine j_tblIn (tgt := 184) G 13 dX5_count_5 (by omega) (by omega) (by omega) rfl (by decide) ?_
    refine j_aload_n G 0 dX5_count_184 rfl ?_
    refine j_get (q := 0) (C := RX5) (T := TX5) (N := 17) (v := .ref (q 0)) G 0 hinX5 dX5_count_185 rfl rfl (by decide) (by decide +kernel) rfl ?_
    refine j_iload_n G 1 dX5_count_188 rfl ?_
    refine j_bipush G dX5_count_189 (v := 12) rfl ?_
    refine j_isub G dX5_count_191 ?_
    refine j_iald (v := z (w - 12)) G 1 dX5_count_192 rfl (by omega) rfl ?_
    exact j_reti G dX5_count_193 (by first | (subst s5; rfl) | (subst s5; show sumI 64 (fun j => z (156 + j)) = sumI 64 (fun p => if ¬ z (156 + p) = 0 then 1 else 0); exact sumI_congr 64 (fun j a b => by rcases hI.fe j a (by omega) with e | e <;> rw [e] <;> rfl)) | (unfold F_count; (repeat rw [if_neg (by omega)]))) (jLe.rf _) kr
  · refine j_tblIn (tgt := 184) G 14 dX5_count_5 (by omega) (by omega) (by omega) rfl (by decide) ?_
    refine j_aload_n G 0 dX5_count_184 rfl ?_
    refine j_get (q := 0) (C := RX5) (T := TX5) (N := 17) (v := .ref (q 0)) G 0 hinX5 dX5_count_185 rfl rfl (by decide) (by decide +kernel) rfl ?_
    refine j_iload_n G 1 dX5_count_188 rfl ?_
    refine j_bipush G dX5_count_189 (v := 12) rfl ?_
    refine j_isub G dX5_count_191 ?_
    refine j_iald (v := z (w - 12)) G 1 dX5_count_192 rfl (by omega) rfl ?_
    exact j_reti G dX5_count_193 (by first | (subst s5; rfl) | (subst s5; show sumI 64 (fun j => z (156 + j)) = sumI 64 (fun p => if ¬ z (156 + p) = 0 then 1 else 0); exact sumI_congr 64 (fun j a b => by rcases hI.fe j a (by omega) with e | e <;> rw [e] <;> rfl)) | (unfold F_count; (repeat rw [if_neg (by omega)]))) (jLe.rf _) kr
  · refine j_tblIn (tgt := 194) G 15 dX5_count_5 (by omega) (by omega) (by omega) rfl (by decide) ?_
    refine j_aload_n G 0 dX5_count_194 rfl ?_
    refine j_get (q := 3) (C := RX5) (T := TX5) (N := 17) (v := .int (jI st)) G 0 hinX5 dX5_count_195 rfl rfl (by decide) (by decide +kernel) rfl ?_
    exact j_reti G dX5_count_198 (by first | (subst s5; rfl) | (subst s5; show sumI 64 (fun j => z (156 + j)) = sumI 64 (fun p => if ¬ z (156 + p) = 0 then 1 else 0); exact sumI_congr 64 (fun j a b => by rcases hI.fe j a (by omega) with e | e <;> rw [e] <;> rfl)) | (unfold F_count; (repeat rw [if_neg (by omega)]))) (jLe.rf _) kr
  · refine j_tblIn (tgt := 199) G 16 dX5_count_5 (by omega) (by omega) (by omega) rfl (by decide) ?_
    refine j_aload_n G 0 dX5_count_199 rfl ?_
    refine j_get (q := 7) (C := RX5) (T := TX5) (N := 17) (v := .int (jI ln)) G 0 hinX5 dX5_count_200 rfl rfl (by decide) (by decide +kernel) rfl ?_
    exact j_reti G dX5_count_203 (by first | (subst s5; rfl) | (subst s5; show sumI 64 (fun j => z (156 + j)) = sumI 64 (fun p => if ¬ z (156 + p) = 0 then 1 else 0); exact sumI_congr 64 (fun j a b => by rcases hI.fe j a (by omega) with e | e <;> rw [e] <;> rfl)) | (unfold F_count; (repeat rw [if_neg (by omega)]))) (jLe.rf _) kr
  · refine j_tblOut (tgt := 204) G dX5_count_5 (by omega) (by omega) (by decide) ?_
    refine j_bipush G dX5_count_204 (v := (-2)) rfl ?_
    exact j_reti G dX5_count_206 (by first | (subst s5; rfl) | (subst s5; show sumI 64 (fun j => z (156 + j)) = sumI 64 (fun p => if ¬ z (156 + p) = 0 then 1 else 0); exact sumI_congr 64 (fun j a b => by rcases hI.fe j a (by omega) with e | e <;> rw [e] <;> rfl)) | (unfold F_count; (repeat rw [if_neg (by omega)]))) (jLe.rf _) kr
