set_option maxHeartbeats 4000000 in
set_option maxRecDepth 100000 in
theorem c_X5_measure (l : Launch) (D : va_G) (Y : Nat → ClassId) (h : Nat) (q : Nat → Nat) (z : Int → Int) (sp : Int → Int) (pa : Int → Int) (st : Int) (ke : Int → Int) (ik : Int) (tx : Int → Int) (ln : Int) (sn : Int) (se : Int) (dn : Int → Int) (up : Int → Int) (fa : Int → Int) (lo : Int → Int) (to : Int → Int) (tm : Int) (so : Int) (f0 : Int) (hI : Inv z) (hf : 0 ≤ f0 ∧ f0 < 64) : jM l yX5_measure wsX5_measure { frames := 3, cells := 0, slots := 0, locals := 70 } D Y [.ref h, .int (jI f0)] (mV Y h q z sp pa st ke ik tx ln sn se dn up fa lo to tm so) (fun v_ w_ => v_ = none ∧ w_ = (mV Y h q z sp pa st ke ik tx ln sn se dn up (zW2 z f0) lo to tm so)) 0 0 := by
  refine jM_of (cc := cX5_measure) (maxL := 4) (ret := none) (by decide) rfl (Nat.le_of_ble_eq_true rfl) (fun v w' h => Or.inl ⟨rfl, h.1⟩) ?_
  intro x G kr0
  have kr := kr0 _ _ ⟨rfl, rfl⟩
  have G : jG x l D Y cX5_measure RX5 wsX5_measure 4 ({ frames := 3, cells := 0, slots := 0, locals := 70 } : Room) none "measure" := G
  have hinX5 : ∀ w ∈ wsX50, w ∈ wsX5_measure := fun _ h => List.mem_cons_of_mem _ (List.mem_append_right _ h)
  show J x 0 0 (mV Y h q z sp pa st ke ik tx ln sn se dn up fa lo to tm so) 0 [(0, .ref h), (1, .int (jI f0))] []
  refine j_iconst G dX5_measure_0 (v := 0) rfl ?_
  refine j_istore_n (lv' := [(2, .int (jI 0)), (0, .ref h), (1, .int (jI f0))]) G dX5_measure_1 (by decide) rfl ?_
  have lp2 : ∀ (n_ : Nat) (i : Int) (g : Int → Int), (0 ≤ i ∧ i ≤ 64) → (∀ j : Int, 0 ≤ j → j < i → g j = if j = f0 then 0 else 100000) → (64 - i) < (n_ : Int) → J x 0 0 (mV Y h q z sp pa st ke ik tx ln sn se dn up g lo to tm so) 2 [(0, .ref h), (1, .int (jI f0)), (2, .int (jI i))] [] := by
    intro n_
    induction n_ with
    | zero =>
      intro i g hi hg hm_
      exact absurd hm_ (by omega)
    | succ n_ ih2 =>
      intro i g hi hg hm_
      refine j_iload_n G 2 dX5_measure_2 rfl ?_
      refine j_bipush G dX5_measure_3 (v := 64) rfl ?_
      refine j_icmp_ge (tgt := 31) G dX5_measure_5 (by decide) (by omega) (by omega) (fun c5 => ?_) (fun c5 => ?_)
      · refine j_iconst G dX5_measure_31 (v := 1) rfl ?_
        refine j_istore_n (lv' := [(2, .int (jI 1)), (0, .ref h), (1, .int (jI f0))]) G dX5_measure_32 (by decide) rfl ?_
        have lp33 : ∀ (n_ : Nat) (c : Int) (g2 : Int → Int), (c = 0 ∨ c = 1) → (Near z f0 g2) → (c = 0 → ∀ p q : Int, 0 ≤ p → p < 64 → nb p q → g2 p ≤ g2 q + (1 + z 92 / 3)) → (sumI 64 g2 + c) < (n_ : Int) → J x 0 0 (mV Y h q z sp pa st ke ik tx ln sn se dn up g2 lo to tm so) 33 [(0, .ref h), (1, .int (jI f0)), (2, .int (jI c))] [] := by
          intro n_
          induction n_ with
          | zero =>
            intro c g2 hc hN hd hm_
            exact absurd hm_ (by have k := hN.nn hI.mu hf; omega)
          | succ n_ ih33 =>
            intro c g2 hc hN hd hm_
            refine j_iload_n G 2 dX5_measure_33 rfl ?_
            refine j_if_eq (tgt := 74) G dX5_measure_34 (by decide) (by omega) (fun c34 => ?_) (fun c34 => ?_)
            · exact j_retv G dX5_measure_74 (by exact (mV_fa (fun j a b => Near.done hI.mu hf hN (hd c34) j a (by omega))).le) kr
            · refine j_iconst G dX5_measure_37 (v := 0) rfl ?_
              refine j_istore_n (lv' := [(2, .int (jI 0)), (0, .ref h), (1, .int (jI f0))]) G dX5_measure_38 (by decide) rfl ?_
              refine j_iconst G dX5_measure_39 (v := 0) rfl ?_
              refine j_istore_n (lv' := [(3, .int (jI 0)), (2, .int (jI 0)), (0, .ref h), (1, .int (jI f0))]) G dX5_measure_40 (by decide) rfl ?_
              have lp41 : ∀ (n_ : Nat) (c2 : Int) (i : Int) (g3 : Int → Int), (0 ≤ i ∧ i ≤ 64) → (c2 = 0 ∨ c2 = 1) → (Near z f0 g3) → (Went z g2 g3 c2 i) → (64 - i) < (n_ : Int) → J x 0 0 (mV Y h q z sp pa st ke ik tx ln sn se dn up g3 lo to tm so) 41 [(0, .ref h), (1, .int (jI f0)), (2, .int (jI c2)), (3, .int (jI i))] [] := by
                intro n_
                induction n_ with
                | zero =>
                  intro c2 i g3 hi hc2 hN3 hw hm_
                  exact absurd hm_ (by omega)
                | succ n_ ih41 =>
                  intro c2 i g3 hi hc2 hN3 hw hm_
                  refine j_iload_n G 3 dX5_measure_41 rfl ?_
                  refine j_bipush G dX5_measure_42 (v := 64) rfl ?_
                  refine j_icmp_ge (tgt := 71) G dX5_measure_44 (by decide) (by omega) (by omega) (fun c44 => ?_) (fun c44 => ?_)
                  · refine j_goto (tgt := 33) G dX5_measure_71 (by decide) ?_
                    refine j_lv [0, 1, 2] (lv' := [(0, .ref h), (1, .int (jI f0)), (2, .int (jI c2))]) rfl ?_
                    exact ih33 c2 g3 (by exact hc2) (by exact hN3) (by intro e p q a b n; have w := hw.1 e; have hq := nb_in ⟨a, b⟩ n; rw [w.1 p a b, w.1 q hq.1 hq.2]; exact w.2 p q a (by omega) n) (by have k := hw.le; have k2 := hw.2; rcases hc2 with e | e; omega; have k3 := k2 (by omega); omega)
                  · refine j_aload_n G 0 dX5_measure_47 rfl ?_
                    refine j_iload_n G 3 dX5_measure_48 rfl ?_
                    refine j_callV (nA := 1) (As := [.int (jI i)]) (st := []) (wc := (mV Y h q z sp pa st ke ik tx ln sn se dn up g3 lo to tm so)) (wr := []) G (c_X5_getsNearer l D Y h q z sp pa st ke ik tx ln sn se dn up g3 lo to tm so i f0 (by first | assumption | omega) (by first | assumption | omega) (by first | assumption | omega) (by first | assumption | omega)) dX5_measure_49 rfl gX5_measure_X5_getsNearer rfl rfl rfl (by decide +kernel) ⟨by decide, by decide⟩ rfl 0 rfl rfl rfl (jLe.nil (jLe.rf _)) (Nat.le_of_ble_eq_true rfl) ⟨Nat.zero_le _, Nat.zero_le _⟩ (fun v_ w_ hp_ => ?_)
                    obtain ⟨f2_1, s2_2, rfl, rfl, hx_3⟩ := hp_
                    show J x 0 0 (mV Y h q z sp pa st ke ik tx ln sn se dn up f2_1 lo to tm so) 52 [(0, .ref h), (1, .int (jI f0)), (2, .int (jI c2)), (3, .int (jI i))] [.int (jI (if ¬ s2_2 = 0 then 1 else 0))]
                    obtain ⟨n1, n2⟩ := hx_3
                    refine j_ifz_ne (tgt := 59) G dX5_measure_52 (by decide) (fun c52 => ?_) (fun c52 => ?_)
                    · refine j_iconst G dX5_measure_59 (v := 1) rfl ?_
                      refine j_goto (tgt := 64) G dX5_measure_60 (by decide) ?_
                      refine j_istore_n (lv' := [(2, .int (jI 1)), (0, .ref h), (1, .int (jI f0)), (3, .int (jI i))]) G dX5_measure_64 (by decide) rfl ?_
                      refine j_iinc (w := i + 1) (lv' := [(3, .int (jI (i + 1))), (2, .int (jI 1)), (0, .ref h), (1, .int (jI f0))]) G 3 dX5_measure_65 rfl rfl (by decide) rfl ?_
                      refine j_goto (tgt := 41) G dX5_measure_68 (by decide) ?_
                      refine j_lv [2, 3, 1, 0] (lv' := [(0, .ref h), (1, .int (jI f0)), (2, .int (jI 1)), (3, .int (jI (i + 1)))]) rfl ?_
                      exact ih41 1 (i + 1) f2_1 (by omega) (by omega) (by exact n1) (by first | exact hw.more n2 c52 | exact hw.same n2 (Classical.not_not.mp c52) c56 | exact hw.none ⟨hi.1, by omega⟩ n2 (Classical.not_not.mp c52) c56) (by omega)
                    · refine j_iload_n G 2 dX5_measure_55 rfl ?_
                      refine j_if_eq (tgt := 63) G dX5_measure_56 (by decide) (by omega) (fun c56 => ?_) (fun c56 => ?_)
                      · refine j_iconst G dX5_measure_63 (v := 0) rfl ?_
                        refine j_istore_n (lv' := [(2, .int (jI 0)), (0, .ref h), (1, .int (jI f0)), (3, .int (jI i))]) G dX5_measure_64 (by decide) rfl ?_
                        refine j_iinc (w := i + 1) (lv' := [(3, .int (jI (i + 1))), (2, .int (jI 0)), (0, .ref h), (1, .int (jI f0))]) G 3 dX5_measure_65 rfl rfl (by decide) rfl ?_
                        refine j_goto (tgt := 41) G dX5_measure_68 (by decide) ?_
                        refine j_lv [2, 3, 1, 0] (lv' := [(0, .ref h), (1, .int (jI f0)), (2, .int (jI 0)), (3, .int (jI (i + 1)))]) rfl ?_
                        exact ih41 0 (i + 1) f2_1 (by omega) (by omega) (by exact n1) (by first | exact hw.more n2 c52 | exact hw.same n2 (Classical.not_not.mp c52) c56 | exact hw.none ⟨hi.1, by omega⟩ n2 (Classical.not_not.mp c52) c56) (by omega)
                      · refine j_iconst G dX5_measure_59 (v := 1) rfl ?_
                        refine j_goto (tgt := 64) G dX5_measure_60 (by decide) ?_
                        refine j_istore_n (lv' := [(2, .int (jI 1)), (0, .ref h), (1, .int (jI f0)), (3, .int (jI i))]) G dX5_measure_64 (by decide) rfl ?_
                        refine j_iinc (w := i + 1) (lv' := [(3, .int (jI (i + 1))), (2, .int (jI 1)), (0, .ref h), (1, .int (jI f0))]) G 3 dX5_measure_65 rfl rfl (by decide) rfl ?_
                        refine j_goto (tgt := 41) G dX5_measure_68 (by decide) ?_
                        refine j_lv [2, 3, 1, 0] (lv' := [(0, .ref h), (1, .int (jI f0)), (2, .int (jI 1)), (3, .int (jI (i + 1)))]) rfl ?_
                        exact ih41 1 (i + 1) f2_1 (by omega) (by omega) (by exact n1) (by first | exact hw.more n2 c52 | exact hw.same n2 (Classical.not_not.mp c52) c56 | exact hw.none ⟨hi.1, by omega⟩ n2 (Classical.not_not.mp c52) c56) (by omega)
              refine j_lv [2, 3, 1, 0] (lv' := [(0, .ref h), (1, .int (jI f0)), (2, .int (jI 0)), (3, .int (jI 0))]) rfl ?_
              exact lp41 (Int.toNat ((64 - 0) + 1)) 0 0 g2 (by omega) (by omega) (by exact hN) (by exact Went.start z g2) (by omega)
        refine j_lv [1, 2, 0] (lv' := [(0, .ref h), (1, .int (jI f0)), (2, .int (jI 1))]) rfl ?_
        exact lp33 (Int.toNat ((sumI 64 g + 1) + 1)) 1 g (by omega) (by exact Near.start hI.mu hf (fun j a b => hg j a (by omega))) (by intro e; omega) (by omega)
      · refine j_aload_n G 0 dX5_measure_8 rfl ?_
        refine j_get (q := 12) (C := RX5) (T := TX5) (N := 17) (v := .ref (q 7)) G 0 hinX5 dX5_measure_9 rfl rfl (by decide) (by decide +kernel) rfl ?_
        refine j_iload_n G 2 dX5_measure_12 rfl ?_
        refine j_iload_n G 2 dX5_measure_13 rfl ?_
        refine j_iload_n G 1 dX5_measure_14 rfl ?_
        refine j_icmp_ne (tgt := 22) G dX5_measure_15 (by decide) (by omega) (by omega) (fun c15 => ?_) (fun c15 => ?_)
        · refine j_ldc G dX5_measure_22 (List.mem_cons_of_mem _ (List.mem_append_left _ (List.mem_cons_of_mem _ List.mem_cons_self))) (v := 100000) rfl ?_
          refine j_iast (ws' := mV Y h q z sp pa st ke ik tx ln sn se dn up (upZ g i 100000) lo to tm so) G 8 dX5_measure_24 rfl (by omega) rfl ?_
          refine j_iinc (w := i + 1) (lv' := [(2, .int (jI (i + 1))), (0, .ref h), (1, .int (jI f0))]) G 2 dX5_measure_25 rfl rfl (by decide) rfl ?_
          refine j_goto (tgt := 2) G dX5_measure_28 (by decide) ?_
          refine j_lv [1, 2, 0] (lv' := [(0, .ref h), (1, .int (jI f0)), (2, .int (jI (i + 1)))]) rfl ?_
          exact ih2 (i + 1) (upZ g i 100000) (by omega) (by exact upZ_step (g := fun j => if j = f0 then 0 else 100000) hg (by show _ = (if i = f0 then (0 : Int) else 100000); first | rw [if_pos (by omega)] | rw [if_neg (by omega)])) (by omega)
        · refine j_iconst G dX5_measure_18 (v := 0) rfl ?_
          refine j_goto (tgt := 24) G dX5_measure_19 (by decide) ?_
          refine j_iast (ws' := mV Y h q z sp pa st ke ik tx ln sn se dn up (upZ g i 0) lo to tm so) G 8 dX5_measure_24 rfl (by omega) rfl ?_
          refine j_iinc (w := i + 1) (lv' := [(2, .int (jI (i + 1))), (0, .ref h), (1, .int (jI f0))]) G 2 dX5_measure_25 rfl rfl (by decide) rfl ?_
          refine j_goto (tgt := 2) G dX5_measure_28 (by decide) ?_
          refine j_lv [1, 2, 0] (lv' := [(0, .ref h), (1, .int (jI f0)), (2, .int (jI (i + 1)))]) rfl ?_
          exact ih2 (i + 1) (upZ g i 0) (by omega) (by exact upZ_step (g := fun j => if j = f0 then 0 else 100000) hg (by show _ = (if i = f0 then (0 : Int) else 100000); first | rw [if_pos (by omega)] | rw [if_neg (by omega)])) (by omega)
  refine j_lv [1, 2, 0] (lv' := [(0, .ref h), (1, .int (jI f0)), (2, .int (jI 0))]) rfl ?_
  exact lp2 (Int.toNat ((64 - 0) + 1)) 0 fa (by omega) (by intro j h0 h1; omega) (by omega)

set_option maxHeartbeats 4000000 in
set_option maxRecDepth 100000 in
theorem c_X5_wayOf (l : Launch) (D : va_G) (Y : Nat → ClassId) (h : Nat) (q : Nat → Nat) (z : Int → Int) (sp : Int → Int) (pa : Int → Int) (st : Int) (ke : Int → Int) (ik : Int) (tx : Int → Int) (ln : Int) (sn : Int) (se : Int) (dn : Int → Int) (up : Int → Int) (fa : Int → Int) (lo : Int → Int) (to : Int → Int) (tm : Int) (so : Int) (k : Int) (p : Int) (hI : Inv z) (hk : 0 ≤ k ∧ k < 3) (hp : 0 ≤ p ∧ p < 64) : jM l yX5_wayOf wsX5_wayOf { frames := 4, cells := 0, slots := 0, locals := 93 } D Y [.ref h, .int (jI k), .int (jI p)] (mV Y h q z sp pa st ke ik tx ln sn se dn up fa lo to tm so) (fun v_ w_ => v_ = some (.int (jI (zWay z k p))) ∧ w_ = (mV Y h q z sp pa st ke ik tx ln sn se dn up (zW2 z (z (15 + 4 * k))) lo to tm so)) 0 0 := by
  refine jM_of (cc := cX5_wayOf) (maxL := 3) (ret := (some .int)) (by decide) rfl (Nat.le_of_ble_eq_true rfl) (fun v w' h => Or.inr (Or.inl ⟨_, _, rfl, h.1, rfl⟩)) ?_
  intro x G kr0
  have kr := kr0 _ _ ⟨rfl, rfl⟩
  have G : jG x l D Y cX5_wayOf RX5 wsX5_wayOf 3 ({ frames := 4, cells := 0, slots := 0, locals := 93 } : Room) (some .int) "wayOf" := G
  have hinX5 : ∀ w ∈ wsX50, w ∈ wsX5_wayOf := fun _ h => List.mem_cons_of_mem _ (List.mem_append_right _ h)
  show J x 0 0 (mV Y h q z sp pa st ke ik tx ln sn se dn up fa lo to tm so) 0 [(0, .ref h), (1, .int (jI k)), (2, .int (jI p))] []
  refine j_aload_n G 0 dX5_wayOf_0 rfl ?_
  refine j_aload_n G 0 dX5_wayOf_1 rfl ?_
  refine j_iload_n G 1 dX5_wayOf_2 rfl ?_
  refine j_iconst G dX5_wayOf_3 (v := 0) rfl ?_
  refine j_callV (nA := 2) (As := [.int (jI k), .int (jI 0)]) (st := [.ref h]) (wc := (mV Y h q z sp pa st ke ik tx ln sn se dn up fa lo to tm so)) (wr := []) G (c_X5_of0 l D Y h q z sp pa st ke ik tx ln sn se dn up fa lo to tm so k (by first | assumption | omega)) dX5_wayOf_4 rfl gX5_wayOf_X5_of rfl rfl rfl (by decide +kernel) ⟨by decide, by decide⟩ rfl 0 rfl rfl rfl (jLe.nil (jLe.rf _)) (Nat.le_of_ble_eq_true rfl) ⟨Nat.zero_le _, Nat.zero_le _⟩ (fun v_ w_ hp_ => ?_)
  obtain ⟨rfl, rfl⟩ := hp_
  show J x 0 0 (mV Y h q z sp pa st ke ik tx ln sn se dn up fa lo to tm so) 7 [(0, .ref h), (1, .int (jI k)), (2, .int (jI p))] [.int (jI (z (15 + 4 * k))), .ref h]
  refine j_callV (nA := 1) (As := [.int (jI (z (15 + 4 * k)))]) (st := []) (wc := (mV Y h q z sp pa st ke ik tx ln sn se dn up fa lo to tm so)) (wr := []) G (c_X5_measure l D Y h q z sp pa st ke ik tx ln sn se dn up fa lo to tm so (z (15 + 4 * k)) (by first | assumption | omega) (by have := hI.pl k hk.1 hk.2; omega)) dX5_wayOf_7 rfl gX5_wayOf_X5_measure rfl rfl rfl (by decide +kernel) ⟨by decide, by decide⟩ rfl 0 rfl rfl rfl (jLe.nil (jLe.rf _)) (Nat.le_of_ble_eq_true rfl) ⟨Nat.zero_le _, Nat.zero_le _⟩ (fun v_ w_ hp_ => ?_)
  obtain ⟨rfl, rfl⟩ := hp_
  show J x 0 0 (mV Y h q z sp pa st ke ik tx ln sn se dn up (zW2 z (z (15 + 4 * k))) lo to tm so) 10 [(0, .ref h), (1, .int (jI k)), (2, .int (jI p))] []
  refine j_aload_n G 0 dX5_wayOf_10 rfl ?_
  refine j_get (q := 12) (C := RX5) (T := TX5) (N := 17) (v := .ref (q 7)) G 0 hinX5 dX5_wayOf_11 rfl rfl (by decide) (by decide +kernel) rfl ?_
  refine j_iload_n G 2 dX5_wayOf_14 rfl ?_
  refine j_iald (v := (zW2 z (z (15 + 4 * k))) p) G 8 dX5_wayOf_15 rfl (by omega) rfl ?_
  exact j_reti G dX5_wayOf_16 (by rfl) (jLe.rf _) kr

set_option maxHeartbeats 4000000 in
set_option maxRecDepth 100000 in
theorem c_X5_whyNotGrow (l : Launch) (D : va_G) (Y : Nat → ClassId) (h : Nat) (q : Nat → Nat) (z : Int → Int) (sp : Int → Int) (pa : Int → Int) (st : Int) (ke : Int → Int) (ik : Int) (tx : Int → Int) (ln : Int) (sn : Int) (se : Int) (dn : Int → Int) (up : Int → Int) (fa : Int → Int) (lo : Int → Int) (to : Int → Int) (tm : Int) (so : Int) (p : Int) (w : Int) (h_p : -2147483648 ≤ p ∧ p < 2147483648) (h_w : -2147483648 ≤ w ∧ w < 2147483648) : jM l yX5_whyNotGrow wsX5_whyNotGrow { frames := 2, cells := 0, slots := 0, locals := 42 } D Y [.ref h, .int (jI p), .int (jI w)] (mV Y h q z sp pa st ke ik tx ln sn se dn up fa lo to tm so) (fun v_ w_ => v_ = some (.int (jI (if 0 ≤ p ∧ p ≤ 63 then (if 0 ≤ w ∧ w ≤ 99 then 0 else -2) else -1))) ∧ w_ = (mV Y h q z sp pa st ke ik tx ln sn se dn up fa lo to tm so)) 0 0 := by
  refine jM_of (cc := cX5_whyNotGrow) (maxL := 3) (ret := (some .int)) (by decide) rfl (Nat.le_of_ble_eq_true rfl) (fun v w' h => Or.inr (Or.inl ⟨_, _, rfl, h.1, rfl⟩)) ?_
  intro x G kr0
  have kr := kr0 _ _ ⟨rfl, rfl⟩
  have G : jG x l D Y cX5_whyNotGrow RX5 wsX5_whyNotGrow 3 ({ frames := 2, cells := 0, slots := 0, locals := 42 } : Room) (some .int) "whyNotGrow" := G
  show J x 0 0 (mV Y h q z sp pa st ke ik tx ln sn se dn up fa lo to tm so) 0 [(0, .ref h), (1, .int (jI p)), (2, .int (jI w))] []
  refine j_iload_n G 1 dX5_whyNotGrow_0 rfl ?_
  refine j_callS (nA := 1) (As := [.int (jI p)]) (st := []) (wc := []) (wr := (mV Y h q z sp pa st ke ik tx ln sn se dn up fa lo to tm so)) G (c_X5_isPlot l D Y p (by first | assumption | omega)) dX5_whyNotGrow_1 rfl gX5_whyNotGrow_X5_isPlot rfl rfl rfl (by decide +kernel) ⟨by decide, by decide⟩ rfl (jLe.rf _) (Nat.le_of_ble_eq_true rfl) ⟨Nat.zero_le _, Nat.zero_le _⟩ (fun v_ w_ hp_ => ?_)
  obtain ⟨rfl, rfl⟩ := hp_
  show J x 0 0 (mV Y h q z sp pa st ke ik tx ln sn se dn up fa lo to tm so) 4 [(0, .ref h), (1, .int (jI p)), (2, .int (jI w))] [.int (jI (if 0 ≤ p ∧ p ≤ 63 then 1 else 0))]
  refine j_ifz_ne (tgt := 11) G dX5_whyNotGrow_4 (by decide) (fun c4 => ?_) (fun c4 => ?_)
  · refine j_iload_n G 2 dX5_whyNotGrow_11 rfl ?_
    refine j_iconst G dX5_whyNotGrow_12 (v := 0) rfl ?_
    refine j_bipush G dX5_whyNotGrow_13 (v := 99) rfl ?_
    refine j_callS (nA := 3) (As := [.int (jI w), .int (jI 0), .int (jI 99)]) (st := []) (wc := []) (wr := (mV Y h q z sp pa st ke ik tx ln sn se dn up fa lo to tm so)) G (c_X5_in l D Y w 0 99 (by first | assumption | omega) (by first | assumption | omega) (by first | assumption | omega)) dX5_whyNotGrow_15 rfl gX5_whyNotGrow_X5_in rfl rfl rfl (by decide +kernel) ⟨by decide, by decide⟩ rfl (jLe.rf _) (Nat.le_of_ble_eq_true rfl) ⟨Nat.zero_le _, Nat.zero_le _⟩ (fun v_ w_ hp_ => ?_)
    obtain ⟨rfl, rfl⟩ := hp_
    show J x 0 0 (mV Y h q z sp pa st ke ik tx ln sn se dn up fa lo to tm so) 18 [(0, .ref h), (1, .int (jI p)), (2, .int (jI w))] [.int (jI (if 0 ≤ w ∧ w ≤ 99 then 1 else 0))]
    refine j_ifz_eq (tgt := 25) G dX5_whyNotGrow_18 (by decide) (fun c18 => ?_) (fun c18 => ?_)
    · refine j_bipush G dX5_whyNotGrow_25 (v := (-2)) rfl ?_
      exact j_reti G dX5_whyNotGrow_27 (by (repeat' split) <;> omega) (jLe.rf _) kr
    · refine j_iconst G dX5_whyNotGrow_21 (v := 0) rfl ?_
      refine j_goto (tgt := 27) G dX5_whyNotGrow_22 (by decide) ?_
      exact j_reti G dX5_whyNotGrow_27 (by (repeat' split) <;> omega) (jLe.rf _) kr
  · refine j_iconst G dX5_whyNotGrow_7 (v := (-1)) rfl ?_
    refine j_goto (tgt := 27) G dX5_whyNotGrow_8 (by decide) ?_
    exact j_reti G dX5_whyNotGrow_27 (by (repeat' split) <;> omega) (jLe.rf _) kr

set_option maxHeartbeats 4000000 in
set_option maxRecDepth 100000 in
theorem c_X5_grow (l : Launch) (D : va_G) (Y : Nat → ClassId) (h : Nat) (q : Nat → Nat) (z : Int → Int) (sp : Int → Int) (pa : Int → Int) (st : Int) (ke : Int → Int) (ik : Int) (tx : Int → Int) (ln : Int) (sn : Int) (se : Int) (dn : Int → Int) (up : Int → Int) (fa : Int → Int) (lo : Int → Int) (to : Int → Int) (tm : Int) (so : Int) (p : Int) (w : Int) (hI : Inv z) (hst : 0 ≤ st ∧ st ≤ 4) (h_p : -2147483648 ≤ p ∧ p < 2147483648) (h_w : -2147483648 ≤ w ∧ w < 2147483648) : jM l yX5_grow wsX5_grow { frames := 3, cells := 0, slots := 0, locals := 66 } D Y [.ref h, .int (jI p), .int (jI w)] (mV Y h q z sp pa st ke ik tx ln sn se dn up fa lo to tm so) (fun v_ w_ => v_ = some (.int (jI (F_grow z p w))) ∧ w_ = (mV Y h q (G_grow z p w) sp (mPa (F_grow z p w) st pa z) (hSz (F_grow z p w) st) ke ik tx ln sn se dn up fa lo to tm so)) 0 0 := by
  refine jM_of (cc := cX5_grow) (maxL := 5) (ret := (some .int)) (by decide) rfl (Nat.le_of_ble_eq_true rfl) (fun v w' h => Or.inr (Or.inl ⟨_, _, rfl, h.1, rfl⟩)) ?_
  intro x G kr0
  have kr := kr0 _ _ ⟨rfl, rfl⟩
  have G : jG x l D Y cX5_grow RX5 wsX5_grow 5 ({ frames := 3, cells := 0, slots := 0, locals := 66 } : Room) (some .int) "grow" := G
  have hinX5 : ∀ w ∈ wsX50, w ∈ wsX5_grow := fun _ h => List.mem_cons_of_mem _ (List.mem_append_right _ h)
  show J x 0 0 (mV Y h q z sp pa st ke ik tx ln sn se dn up fa lo to tm so) 0 [(0, .ref h), (1, .int (jI p)), (2, .int (jI w))] []
  refine j_aload_n G 0 dX5_grow_0 rfl ?_
  refine j_iload_n G 1 dX5_grow_1 rfl ?_
  refine j_iload_n G 2 dX5_grow_2 rfl ?_
  refine j_callV (nA := 2) (As := [.int (jI p), .int (jI w)]) (st := []) (wc := (mV Y h q z sp pa st ke ik tx ln sn se dn up fa lo to tm so)) (wr := []) G (c_X5_whyNotGrow l D Y h q z sp pa st ke ik tx ln sn se dn up fa lo to tm so p w (by first | assumption | omega) (by first | assumption | omega)) dX5_grow_3 rfl gX5_grow_X5_whyNotGrow rfl rfl rfl (by decide +kernel) ⟨by decide, by decide⟩ rfl 0 rfl rfl rfl (jLe.nil (jLe.rf _)) (Nat.le_of_ble_eq_true rfl) ⟨Nat.zero_le _, Nat.zero_le _⟩ (fun v_ w_ hp_ => ?_)
  obtain ⟨rfl, rfl⟩ := hp_
  show J x 0 0 (mV Y h q z sp pa st ke ik tx ln sn se dn up fa lo to tm so) 6 [(0, .ref h), (1, .int (jI p)), (2, .int (jI w))] [.int (jI (if 0 ≤ p ∧ p ≤ 63 then (if 0 ≤ w ∧ w ≤ 99 then 0 else -2) else -1))]
  obtain ⟨e0, e_e0, h_e0⟩ : ∃ y : Int, y = (if 0 ≤ p ∧ p ≤ 63 then (if 0 ≤ w ∧ w ≤ 99 then 0 else -2) else -1) ∧ ((y = 0 ∧ (0 ≤ p ∧ p ≤ 63) ∧ (0 ≤ w ∧ w ≤ 99)) ∨ (y < 0 ∧ y = F_grow z p w ∧ ¬ ((0 ≤ p ∧ p ≤ 63) ∧ (0 ≤ w ∧ w ≤ 99)))) := ⟨_, rfl, by unfold F_grow; (repeat' split) <;> omega⟩
  rw [← e_e0]
  refine j_istore_n (lv' := [(3, .int (jI e0)), (0, .ref h), (1, .int (jI p)), (2, .int (jI w))]) G dX5_grow_6 (by decide) rfl ?_
  refine j_iload_n G 0 dX5_grow_7 rfl ?_
  refine j_if_ge (tgt := 13) G dX5_grow_8 (by decide) (by omega) (fun c8 => ?_) (fun c8 => ?_)
  · refine j_aload_n G 1 dX5_grow_13 rfl ?_
    refine j_get (q := 0) (C := RX5) (T := TX5) (N := 17) (v := .ref (q 0)) G 0 hinX5 dX5_grow_14 rfl rfl (by decide) (by decide +kernel) rfl ?_
    refine j_bipush G dX5_grow_17 (v := 28) rfl ?_
    refine j_iload_n G 2 dX5_grow_19 rfl ?_
    refine j_iadd G dX5_grow_20 ?_
    refine j_iald (v := z (28 + p)) G 1 dX5_grow_21 rfl (by omega) rfl ?_
    have f22 := hI.wo p (by omega) (by omega)
    have hF : F_grow z p w = if z (28 + p) = w then -5 else z (28 + p) := by unfold F_grow; rw [if_pos (by omega), if_pos (by omega)]
    refine j_istore (lv' := [(4, .int (jI (z (28 + p)))), (3, .int (jI e0)), (0, .ref h), (1, .int (jI p)), (2, .int (jI w))]) G dX5_grow_22 (by decide) rfl ?_
    refine j_iload G 0 dX5_grow_24 rfl ?_
    refine j_iload_n G 4 dX5_grow_26 rfl ?_
    refine j_icmp_ne (tgt := 33) G dX5_grow_27 (by decide) (by omega) (by omega) (fun c27 => ?_) (fun c27 => ?_)
    · refine j_aload_n G 2 dX5_grow_33 rfl ?_
      refine j_callV (nA := 0) (As := []) (st := []) (wc := (mV Y h q z sp pa st ke ik tx ln sn se dn up fa lo to tm so)) (wr := []) G (c_X5_record l D Y h q z sp pa st ke ik tx ln sn se dn up fa lo to tm so (by first | assumption | omega)) dX5_grow_34 rfl gX5_grow_X5_record rfl rfl rfl (by decide +kernel) ⟨by decide, by decide⟩ rfl 0 rfl rfl rfl (jLe.nil (jLe.rf _)) (Nat.le_of_ble_eq_true rfl) ⟨Nat.zero_le _, Nat.zero_le _⟩ (fun v_ w_ hp_ => ?_)
      obtain ⟨rfl, rfl⟩ := hp_
      show J x 0 0 (mV Y h q z sp (paP st pa z) (hUp st) ke ik tx ln sn se dn up fa lo to tm so) 37 [(4, .int (jI (z (28 + p)))), (3, .int (jI e0)), (0, .ref h), (1, .int (jI p)), (2, .int (jI w))] []
      refine j_aload_n G 2 dX5_grow_37 rfl ?_
      refine j_get (q := 0) (C := RX5) (T := TX5) (N := 17) (v := .ref (q 0)) G 0 hinX5 dX5_grow_38 rfl rfl (by decide) (by decide +kernel) rfl ?_
      refine j_bipush G dX5_grow_41 (v := 28) rfl ?_
      refine j_iload_n G 3 dX5_grow_43 rfl ?_
      refine j_iadd G dX5_grow_44 ?_
      refine j_iload_n G 4 dX5_grow_45 rfl ?_
      refine j_iast (ws' := mV Y h q (upZ z (28 + p) w) sp (paP st pa z) (hUp st) ke ik tx ln sn se dn up fa lo to tm so) G 1 dX5_grow_46 rfl (by omega) rfl ?_
      refine j_iload G 0 dX5_grow_47 rfl ?_
      exact j_reti G dX5_grow_49 (by rw [hF, if_neg c27]) (by rw [if_neg c27] at hF; rw [show G_grow z p w = upZ z (28 + p) w from if_pos (by omega), show mPa (F_grow z p w) st pa z = paP st pa z from if_pos (by omega), show hSz (F_grow z p w) st = hUp st from if_pos (by omega)]; exact jLe.rf _) kr
    · refine j_bipush G dX5_grow_30 (v := (-5)) rfl ?_
      exact j_reti G dX5_grow_32 (by rw [hF, if_pos c27]) (by rw [if_pos c27] at hF; rw [show mPa (F_grow z p w) st pa z = pa from if_neg (by omega), show hSz (F_grow z p w) st = st from if_neg (by omega)]; exact mV_zl (fun j h0 h1 => by rw [show G_grow z p w = upZ z (28 + p) w from if_pos (by omega)]; by_cases e : j = 28 + p; rw [upZ_eq _ _ _ e, e]; omega; rw [upZ_ne _ _ _ e])) kr
  · refine j_iload_n G 0 dX5_grow_11 rfl ?_
    exact j_reti G dX5_grow_12 (by omega) (by have hF : F_grow z p w < 0 := (by omega); rw [show G_grow z p w = z from if_neg (by omega), show mPa (F_grow z p w) st pa z = pa from if_neg (by omega), show hSz (F_grow z p w) st = st from if_neg (by omega)]; exact jLe.rf _) kr

set_option maxHeartbeats 4000000 in
set_option maxRecDepth 100000 in
theorem c_X5_rainNow (l : Launch) (D : va_G) (Y : Nat → ClassId) (h : Nat) (q : Nat → Nat) (z : Int → Int) (sp : Int → Int) (pa : Int → Int) (st : Int) (ke : Int → Int) (ik : Int) (tx : Int → Int) (ln : Int) (sn : Int) (se : Int) (dn : Int → Int) (up : Int → Int) (fa : Int → Int) (lo : Int → Int) (to : Int → Int) (tm : Int) (so : Int) (m : Int) (hI : Inv z) (hm : 1 ≤ m ∧ m ≤ 9) : jM l yX5_rainNow wsX5_rainNow { frames := 0, cells := 0, slots := 0, locals := 0 } D Y [.ref h, .int (jI m)] (mV Y h q z sp pa st ke ik tx ln sn se dn up fa lo to tm so) (fun v_ w_ => v_ = some (.int (jI (if 8 < z 92 + m then 64 else 0))) ∧ w_ = (mV Y h q (GR z m) sp pa st ke ik tx ln sn se dn up fa lo to tm so)) 0 0 := by
  refine jM_of (cc := cX5_rainNow) (maxL := 5) (ret := (some .int)) (by decide) rfl (Nat.le_of_ble_eq_true rfl) (fun v w' h => Or.inr (Or.inl ⟨_, _, rfl, h.1, rfl⟩)) ?_
  intro x G kr0
  have kr := kr0 _ _ ⟨rfl, rfl⟩
  have G : jG x l D Y cX5_rainNow RX5 wsX5_rainNow 5 ({ frames := 0, cells := 0, slots := 0, locals := 0 } : Room) (some .int) "rainNow" := G
  have hinX5 : ∀ w ∈ wsX50, w ∈ wsX5_rainNow := fun _ h => List.mem_cons_of_mem _ (List.mem_append_right _ h)
  show J x 0 0 (mV Y h q z sp pa st ke ik tx ln sn se dn up fa lo to tm so) 0 [(0, .ref h), (1, .int (jI m))] []
  refine j_iconst G dX5_rainNow_0 (v := 0) rfl ?_
  refine j_istore_n (lv' := [(2, .int (jI 0)), (0, .ref h), (1, .int (jI m))]) G dX5_rainNow_1 (by decide) rfl ?_
  refine j_iconst G dX5_rainNow_2 (v := 0) rfl ?_
  refine j_istore_n (lv' := [(3, .int (jI 0)), (2, .int (jI 0)), (0, .ref h), (1, .int (jI m))]) G dX5_rainNow_3 (by decide) rfl ?_
  have lp4 : ∀ (n_ : Nat) (i : Int) (s : Int) (g : Int → Int), (0 ≤ i ∧ i ≤ 64) → (s = if 8 < z 92 + m then i else 0) → (∀ j : Int, 0 ≤ j → j < 220 → g j = if 92 ≤ j ∧ j < 92 + i then (if 9 < z j + m then 9 else z j + m) else z j) → (64 - i) < (n_ : Int) → J x 0 0 (mV Y h q g sp pa st ke ik tx ln sn se dn up fa lo to tm so) 4 [(0, .ref h), (1, .int (jI m)), (2, .int (jI s)), (3, .int (jI i))] [] := by
    intro n_
    induction n_ with
    | zero =>
      intro i s g hi hs hg hm_
      exact absurd hm_ (by omega)
    | succ n_ ih4 =>
      intro i s g hi hs hg hm_
      refine j_iload_n G 3 dX5_rainNow_4 rfl ?_
      refine j_bipush G dX5_rainNow_5 (v := 64) rfl ?_
      refine j_icmp_ge (tgt := 67) G dX5_rainNow_7 (by decide) (by omega) (by omega) (fun c7 => ?_) (fun c7 => ?_)
      · refine j_iload_n G 2 dX5_rainNow_67 rfl ?_
        exact j_reti G dX5_rainNow_68 (by rw [hs]; split <;> omega) (by exact mV_zl (fun j h0 h1 => by rw [hg j h0 h1]; unfold GR; (repeat' split) <;> first | rfl | omega)) kr
      · refine j_aload_n G 0 dX5_rainNow_10 rfl ?_
        refine j_get (q := 0) (C := RX5) (T := TX5) (N := 17) (v := .ref (q 0)) G 0 hinX5 dX5_rainNow_11 rfl rfl (by decide) (by decide +kernel) rfl ?_
        refine j_bipush G dX5_rainNow_14 (v := 92) rfl ?_
        refine j_iload_n G 3 dX5_rainNow_16 rfl ?_
        refine j_iadd G dX5_rainNow_17 ?_
        refine j_iald (v := g (92 + i)) G 1 dX5_rainNow_18 rfl (by omega) rfl ?_
        have f19 : g (92 + i) = z (92 + i) := by rw [hg (92 + i) (by omega) (by omega), if_neg (by omega)]
        have f20 := hI.mp i (by omega) (by omega)
        have f21 := hI.mu
        refine j_iload_n G 1 dX5_rainNow_19 rfl ?_
        refine j_iadd G dX5_rainNow_20 ?_
        refine j_istore (lv' := [(4, .int (jI ((g (92 + i)) + m))), (0, .ref h), (1, .int (jI m)), (2, .int (jI s)), (3, .int (jI i))]) G dX5_rainNow_21 (by decide) rfl ?_
        refine j_aload_n G 1 dX5_rainNow_23 rfl ?_
        refine j_get (q := 0) (C := RX5) (T := TX5) (N := 17) (v := .ref (q 0)) G 0 hinX5 dX5_rainNow_24 rfl rfl (by decide) (by decide +kernel) rfl ?_
        refine j_bipush G dX5_rainNow_27 (v := 92) rfl ?_
        refine j_iload_n G 4 dX5_rainNow_29 rfl ?_
        refine j_iadd G dX5_rainNow_30 ?_
        refine j_iload G 0 dX5_rainNow_31 rfl ?_
        refine j_bipush G dX5_rainNow_33 (v := 9) rfl ?_
        refine j_icmp_le (tgt := 43) G dX5_rainNow_35 (by decide) (by omega) (by omega) (fun c35 => ?_) (fun c35 => ?_)
        · refine j_iload G 0 dX5_rainNow_43 rfl ?_
          refine j_iast (ws' := mV Y h q (upZ g (92 + i) ((g (92 + i)) + m)) sp pa st ke ik tx ln sn se dn up fa lo to tm so) G 1 dX5_rainNow_45 rfl (by omega) rfl ?_
          refine j_iload_n G 3 dX5_rainNow_46 rfl ?_
          refine j_iload G 0 dX5_rainNow_47 rfl ?_
          refine j_bipush G dX5_rainNow_49 (v := 8) rfl ?_
          refine j_icmp_le (tgt := 58) G dX5_rainNow_51 (by decide) (by omega) (by omega) (fun c51 => ?_) (fun c51 => ?_)
          · refine j_iconst G dX5_rainNow_58 (v := 0) rfl ?_
            refine j_iadd G dX5_rainNow_59 ?_
            refine j_istore_n (lv' := [(2, .int (jI (s + 0))), (4, .int (jI ((g (92 + i)) + m))), (0, .ref h), (1, .int (jI m)), (3, .int (jI i))]) G dX5_rainNow_60 (by decide) rfl ?_
            refine j_iinc (w := i + 1) (lv' := [(3, .int (jI (i + 1))), (2, .int (jI (s + 0))), (4, .int (jI ((g (92 + i)) + m))), (0, .ref h), (1, .int (jI m))]) G 4 dX5_rainNow_61 rfl rfl (by decide) rfl ?_
            refine j_goto (tgt := 4) G dX5_rainNow_64 (by decide) ?_
            refine j_lv [3, 4, 1, 0] (lv' := [(0, .ref h), (1, .int (jI m)), (2, .int (jI (s + 0))), (3, .int (jI (i + 1)))]) rfl ?_
            exact ih4 (i + 1) (s + 0) (upZ g (92 + i) ((g (92 + i)) + m)) (by omega) (by rw [hs]; split <;> omega) (by exact ar_step (F := fun j => if 9 < z j + m then 9 else z j + m) hi.1 hg (by show _ = if 9 < z (92 + i) + m then (9 : Int) else z (92 + i) + m; first | rw [if_pos (by omega)] | (rw [if_neg (by omega)]; omega))) (by omega)
          · refine j_iconst G dX5_rainNow_54 (v := 1) rfl ?_
            refine j_goto (tgt := 59) G dX5_rainNow_55 (by decide) ?_
            refine j_iadd G dX5_rainNow_59 ?_
            refine j_istore_n (lv' := [(2, .int (jI (s + 1))), (4, .int (jI ((g (92 + i)) + m))), (0, .ref h), (1, .int (jI m)), (3, .int (jI i))]) G dX5_rainNow_60 (by decide) rfl ?_
            refine j_iinc (w := i + 1) (lv' := [(3, .int (jI (i + 1))), (2, .int (jI (s + 1))), (4, .int (jI ((g (92 + i)) + m))), (0, .ref h), (1, .int (jI m))]) G 4 dX5_rainNow_61 rfl rfl (by decide) rfl ?_
            refine j_goto (tgt := 4) G dX5_rainNow_64 (by decide) ?_
            refine j_lv [3, 4, 1, 0] (lv' := [(0, .ref h), (1, .int (jI m)), (2, .int (jI (s + 1))), (3, .int (jI (i + 1)))]) rfl ?_
            exact ih4 (i + 1) (s + 1) (upZ g (92 + i) ((g (92 + i)) + m)) (by omega) (by rw [hs]; split <;> omega) (by exact ar_step (F := fun j => if 9 < z j + m then 9 else z j + m) hi.1 hg (by show _ = if 9 < z (92 + i) + m then (9 : Int) else z (92 + i) + m; first | rw [if_pos (by omega)] | (rw [if_neg (by omega)]; omega))) (by omega)
        · refine j_bipush G dX5_rainNow_38 (v := 9) rfl ?_
          refine j_goto (tgt := 45) G dX5_rainNow_40 (by decide) ?_
          refine j_iast (ws' := mV Y h q (upZ g (92 + i) 9) sp pa st ke ik tx ln sn se dn up fa lo to tm so) G 1 dX5_rainNow_45 rfl (by omega) rfl ?_
          refine j_iload_n G 3 dX5_rainNow_46 rfl ?_
          refine j_iload G 0 dX5_rainNow_47 rfl ?_
          refine j_bipush G dX5_rainNow_49 (v := 8) rfl ?_
          refine j_icmp_le (tgt := 58) G dX5_rainNow_51 (by decide) (by omega) (by omega) (fun c51 => ?_) (fun c51 => ?_)
          · refine j_iconst G dX5_rainNow_58 (v := 0) rfl ?_
            refine j_iadd G dX5_rainNow_59 ?_
            refine j_istore_n (lv' := [(2, .int (jI (s + 0))), (4, .int (jI ((g (92 + i)) + m))), (0, .ref h), (1, .int (jI m)), (3, .int (jI i))]) G dX5_rainNow_60 (by decide) rfl ?_
            refine j_iinc (w := i + 1) (lv' := [(3, .int (jI (i + 1))), (2, .int (jI (s + 0))), (4, .int (jI ((g (92 + i)) + m))), (0, .ref h), (1, .int (jI m))]) G 4 dX5_rainNow_61 rfl rfl (by decide) rfl ?_
            refine j_goto (tgt := 4) G dX5_rainNow_64 (by decide) ?_
            refine j_lv [3, 4, 1, 0] (lv' := [(0, .ref h), (1, .int (jI m)), (2, .int (jI (s + 0))), (3, .int (jI (i + 1)))]) rfl ?_
            exact ih4 (i + 1) (s + 0) (upZ g (92 + i) 9) (by omega) (by rw [hs]; split <;> omega) (by exact ar_step (F := fun j => if 9 < z j + m then 9 else z j + m) hi.1 hg (by show _ = if 9 < z (92 + i) + m then (9 : Int) else z (92 + i) + m; first | rw [if_pos (by omega)] | (rw [if_neg (by omega)]; omega))) (by omega)
          · refine j_iconst G dX5_rainNow_54 (v := 1) rfl ?_
            refine j_goto (tgt := 59) G dX5_rainNow_55 (by decide) ?_
            refine j_iadd G dX5_rainNow_59 ?_
            refine j_istore_n (lv' := [(2, .int (jI (s + 1))), (4, .int (jI ((g (92 + i)) + m))), (0, .ref h), (1, .int (jI m)), (3, .int (jI i))]) G dX5_rainNow_60 (by decide) rfl ?_
            refine j_iinc (w := i + 1) (lv' := [(3, .int (jI (i + 1))), (2, .int (jI (s + 1))), (4, .int (jI ((g (92 + i)) + m))), (0, .ref h), (1, .int (jI m))]) G 4 dX5_rainNow_61 rfl rfl (by decide) rfl ?_
            refine j_goto (tgt := 4) G dX5_rainNow_64 (by decide) ?_
            refine j_lv [3, 4, 1, 0] (lv' := [(0, .ref h), (1, .int (jI m)), (2, .int (jI (s + 1))), (3, .int (jI (i + 1)))]) rfl ?_
            exact ih4 (i + 1) (s + 1) (upZ g (92 + i) 9) (by omega) (by rw [hs]; split <;> omega) (by exact ar_step (F := fun j => if 9 < z j + m then 9 else z j + m) hi.1 hg (by show _ = if 9 < z (92 + i) + m then (9 : Int) else z (92 + i) + m; first | rw [if_pos (by omega)] | (rw [if_neg (by omega)]; omega))) (by omega)
  refine j_lv [2, 3, 1, 0] (lv' := [(0, .ref h), (1, .int (jI m)), (2, .int (jI 0)), (3, .int (jI 0))]) rfl ?_
  exact lp4 (Int.toNat ((64 - 0) + 1)) 0 0 z (by omega) (by split <;> rfl) (by intro j h0 h1; exact (if_neg (by omega)).symm) (by omega)

set_option maxHeartbeats 4000000 in
set_option maxRecDepth 100000 in
theorem c_X5_rain (l : Launch) (D : va_G) (Y : Nat → ClassId) (h : Nat) (q : Nat → Nat) (z : Int → Int) (sp : Int → Int) (pa : Int → Int) (st : Int) (ke : Int → Int) (ik : Int) (tx : Int → Int) (ln : Int) (sn : Int) (se : Int) (dn : Int → Int) (up : Int → Int) (fa : Int → Int) (lo : Int → Int) (to : Int → Int) (tm : Int) (so : Int) (m : Int) (hI : Inv z) (hst : 0 ≤ st ∧ st ≤ 4) (h_m : -2147483648 ≤ m ∧ m < 2147483648) : jM l yX5_rain wsX5_rain { frames := 3, cells := 0, slots := 0, locals := 66 } D Y [.ref h, .int (jI m)] (mV Y h q z sp pa st ke ik tx ln sn se dn up fa lo to tm so) (fun v_ w_ => v_ = some (.int (jI (F_rain z m))) ∧ w_ = (mV Y h q (G_rain z m) sp (mPa (F_rain z m) st pa z) (hSz (F_rain z m) st) ke ik tx ln sn se dn up fa lo to tm so)) 0 0 := by
  refine jM_of (cc := cX5_rain) (maxL := 2) (ret := (some .int)) (by decide) rfl (Nat.le_of_ble_eq_true rfl) (fun v w' h => Or.inr (Or.inl ⟨_, _, rfl, h.1, rfl⟩)) ?_
  intro x G kr0
  have kr := kr0 _ _ ⟨rfl, rfl⟩
  have G : jG x l D Y cX5_rain RX5 wsX5_rain 2 ({ frames := 3, cells := 0, slots := 0, locals := 66 } : Room) (some .int) "rain" := G
  show J x 0 0 (mV Y h q z sp pa st ke ik tx ln sn se dn up fa lo to tm so) 0 [(0, .ref h), (1, .int (jI m))] []
  refine j_iload_n G 1 dX5_rain_0 rfl ?_
  refine j_iconst G dX5_rain_1 (v := 1) rfl ?_
  refine j_bipush G dX5_rain_2 (v := 9) rfl ?_
  refine j_callS (nA := 3) (As := [.int (jI m), .int (jI 1), .int (jI 9)]) (st := []) (wc := []) (wr := (mV Y h q z sp pa st ke ik tx ln sn se dn up fa lo to tm so)) G (c_X5_in l D Y m 1 9 (by first | assumption | omega) (by first | assumption | omega) (by first | assumption | omega)) dX5_rain_4 rfl gX5_rain_X5_in rfl rfl rfl (by decide +kernel) ⟨by decide, by decide⟩ rfl (jLe.rf _) (Nat.le_of_ble_eq_true rfl) ⟨Nat.zero_le _, Nat.zero_le _⟩ (fun v_ w_ hp_ => ?_)
  obtain ⟨rfl, rfl⟩ := hp_
  show J x 0 0 (mV Y h q z sp pa st ke ik tx ln sn se dn up fa lo to tm so) 7 [(0, .ref h), (1, .int (jI m))] [.int (jI (if 1 ≤ m ∧ m ≤ 9 then 1 else 0))]
  refine j_ifz_ne (tgt := 13) G dX5_rain_7 (by decide) (fun c7 => ?_) (fun c7 => ?_)
  · refine j_aload_n G 0 dX5_rain_13 rfl ?_
    refine j_callV (nA := 0) (As := []) (st := []) (wc := (mV Y h q z sp pa st ke ik tx ln sn se dn up fa lo to tm so)) (wr := []) G (c_X5_record l D Y h q z sp pa st ke ik tx ln sn se dn up fa lo to tm so (by first | assumption | omega)) dX5_rain_14 rfl gX5_rain_X5_record rfl rfl rfl (by decide +kernel) ⟨by decide, by decide⟩ rfl 0 rfl rfl rfl (jLe.nil (jLe.rf _)) (Nat.le_of_ble_eq_true rfl) ⟨Nat.zero_le _, Nat.zero_le _⟩ (fun v_ w_ hp_ => ?_)
    obtain ⟨rfl, rfl⟩ := hp_
    show J x 0 0 (mV Y h q z sp (paP st pa z) (hUp st) ke ik tx ln sn se dn up fa lo to tm so) 17 [(0, .ref h), (1, .int (jI m))] []
    refine j_aload_n G 0 dX5_rain_17 rfl ?_
    refine j_iload_n G 1 dX5_rain_18 rfl ?_
    refine j_callV (nA := 1) (As := [.int (jI m)]) (st := []) (wc := (mV Y h q z sp (paP st pa z) (hUp st) ke ik tx ln sn se dn up fa lo to tm so)) (wr := []) G (c_X5_rainNow l D Y h q z sp (paP st pa z) (hUp st) ke ik tx ln sn se dn up fa lo to tm so m (by first | assumption | omega) (by first | assumption | omega)) dX5_rain_19 rfl gX5_rain_X5_rainNow rfl rfl rfl (by decide +kernel) ⟨by decide, by decide⟩ rfl 0 rfl rfl rfl (jLe.nil (jLe.rf _)) (Nat.le_of_ble_eq_true rfl) ⟨Nat.zero_le _, Nat.zero_le _⟩ (fun v_ w_ hp_ => ?_)
    obtain ⟨rfl, rfl⟩ := hp_
    show J x 0 0 (mV Y h q (GR z m) sp (paP st pa z) (hUp st) ke ik tx ln sn se dn up fa lo to tm so) 22 [(0, .ref h), (1, .int (jI m))] [.int (jI (if 8 < z 92 + m then 64 else 0))]
    exact j_reti G dX5_rain_22 (by show _ = if 1 ≤ m ∧ m ≤ 9 then (if 8 < z 92 + m then (64 : Int) else 0) else -2; rw [if_pos (show 1 ≤ m ∧ m ≤ 9 by omega)]) (by have hF : 0 ≤ F_rain z m := (by unfold F_rain; rw [if_pos (by omega)]; split <;> omega); rw [show G_rain z m = GR z m from if_pos (by omega), show mPa (F_rain z m) st pa z = paP st pa z from if_pos (by omega), show hSz (F_rain z m) st = hUp st from if_pos (by omega)]; exact jLe.rf _) kr
  · refine j_bipush G dX5_rain_10 (v := (-2)) rfl ?_
    exact j_reti G dX5_rain_12 (by unfold F_rain; rw [if_neg (by omega)]) (by have hF : F_rain z m < 0 := (by unfold F_rain; rw [if_neg (by omega)]; omega); rw [show G_rain z m = z from if_neg (by omega), show mPa (F_rain z m) st pa z = pa from if_neg (by omega), show hSz (F_rain z m) st = st from if_neg (by omega)]; exact jLe.rf _) kr

set_option maxHeartbeats 4000000 in
set_option maxRecDepth 100000 in
theorem c_X5_whyNotEnd (l : Launch) (D : va_G) (Y : Nat → ClassId) (h : Nat) (q : Nat → Nat) (z : Int → Int) (sp : Int → Int) (pa : Int → Int) (st : Int) (ke : Int → Int) (ik : Int) (tx : Int → Int) (ln : Int) (sn : Int) (se : Int) (dn : Int → Int) (up : Int → Int) (fa : Int → Int) (lo : Int → Int) (to : Int → Int) (tm : Int) (so : Int) (n : Int) (hI : Inv z) (h_n : -2147483648 ≤ n ∧ n < 2147483648) : jM l yX5_whyNotEnd wsX5_whyNotEnd { frames := 1, cells := 0, slots := 0, locals := 22 } D Y [.ref h, .int (jI n)] (mV Y h q z sp pa st ke ik tx ln sn se dn up fa lo to tm so) (fun v_ w_ => v_ = some (.int (jI (if 1 ≤ n ∧ n ≤ 99 then (if 9999 < z 3 + n then -3 else 0) else -2))) ∧ w_ = (mV Y h q z sp pa st ke ik tx ln sn se dn up fa lo to tm so)) 0 0 := by
  refine jM_of (cc := cX5_whyNotEnd) (maxL := 2) (ret := (some .int)) (by decide) rfl (Nat.le_of_ble_eq_true rfl) (fun v w' h => Or.inr (Or.inl ⟨_, _, rfl, h.1, rfl⟩)) ?_
  intro x G kr0
  have kr := kr0 _ _ ⟨rfl, rfl⟩
  have G : jG x l D Y cX5_whyNotEnd RX5 wsX5_whyNotEnd 2 ({ frames := 1, cells := 0, slots := 0, locals := 22 } : Room) (some .int) "whyNotEnd" := G
  have hinX5 : ∀ w ∈ wsX50, w ∈ wsX5_whyNotEnd := fun _ h => List.mem_cons_of_mem _ (List.mem_append_right _ h)
  have f0 := hI.da
  show J x 0 0 (mV Y h q z sp pa st ke ik tx ln sn se dn up fa lo to tm so) 0 [(0, .ref h), (1, .int (jI n))] []
  refine j_iload_n G 1 dX5_whyNotEnd_0 rfl ?_
  refine j_iconst G dX5_whyNotEnd_1 (v := 1) rfl ?_
  refine j_bipush G dX5_whyNotEnd_2 (v := 99) rfl ?_
  refine j_callS (nA := 3) (As := [.int (jI n), .int (jI 1), .int (jI 99)]) (st := []) (wc := []) (wr := (mV Y h q z sp pa st ke ik tx ln sn se dn up fa lo to tm so)) G (c_X5_in l D Y n 1 99 (by first | assumption | omega) (by first | assumption | omega) (by first | assumption | omega)) dX5_whyNotEnd_4 rfl gX5_whyNotEnd_X5_in rfl rfl rfl (by decide +kernel) ⟨by decide, by decide⟩ rfl (jLe.rf _) (Nat.le_of_ble_eq_true rfl) ⟨Nat.zero_le _, Nat.zero_le _⟩ (fun v_ w_ hp_ => ?_)
  obtain ⟨rfl, rfl⟩ := hp_
  show J x 0 0 (mV Y h q z sp pa st ke ik tx ln sn se dn up fa lo to tm so) 7 [(0, .ref h), (1, .int (jI n))] [.int (jI (if 1 ≤ n ∧ n ≤ 99 then 1 else 0))]
  refine j_ifz_ne (tgt := 15) G dX5_whyNotEnd_7 (by decide) (fun c7 => ?_) (fun c7 => ?_)
  · refine j_aload_n G 0 dX5_whyNotEnd_15 rfl ?_
    refine j_get (q := 0) (C := RX5) (T := TX5) (N := 17) (v := .ref (q 0)) G 0 hinX5 dX5_whyNotEnd_16 rfl rfl (by decide) (by decide +kernel) rfl ?_
    refine j_iconst G dX5_whyNotEnd_19 (v := 3) rfl ?_
    refine j_iald (v := z 3) G 1 dX5_whyNotEnd_20 rfl (by omega) rfl ?_
    refine j_iload_n G 1 dX5_whyNotEnd_21 rfl ?_
    refine j_iadd G dX5_whyNotEnd_22 ?_
    refine j_sipush G dX5_whyNotEnd_23 (v := 9999) rfl ?_
    refine j_icmp_le (tgt := 34) G dX5_whyNotEnd_26 (by decide) (by omega) (by omega) (fun c26 => ?_) (fun c26 => ?_)
    · refine j_iconst G dX5_whyNotEnd_34 (v := 0) rfl ?_
      exact j_reti G dX5_whyNotEnd_35 (by (repeat' split) <;> omega) (jLe.rf _) kr
    · refine j_bipush G dX5_whyNotEnd_29 (v := (-3)) rfl ?_
      refine j_goto (tgt := 35) G dX5_whyNotEnd_31 (by decide) ?_
      exact j_reti G dX5_whyNotEnd_35 (by (repeat' split) <;> omega) (jLe.rf _) kr
  · refine j_bipush G dX5_whyNotEnd_10 (v := (-2)) rfl ?_
    refine j_goto (tgt := 35) G dX5_whyNotEnd_12 (by decide) ?_
    exact j_reti G dX5_whyNotEnd_35 (by (repeat' split) <;> omega) (jLe.rf _) kr

set_option maxHeartbeats 4000000 in
set_option maxRecDepth 100000 in
theorem c_X5_endNow (l : Launch) (D : va_G) (Y : Nat → ClassId) (h : Nat) (q : Nat → Nat) (z : Int → Int) (sp : Int → Int) (pa : Int → Int) (st : Int) (ke : Int → Int) (ik : Int) (tx : Int → Int) (ln : Int) (sn : Int) (se : Int) (dn : Int → Int) (up : Int → Int) (fa : Int → Int) (lo : Int → Int) (to : Int → Int) (tm : Int) (so : Int) (n : Int) (hI : Inv z) (hn : 1 ≤ n ∧ n ≤ 99) : jM l yX5_endNow wsX5_endNow { frames := 2, cells := 0, slots := 0, locals := 44 } D Y [.ref h, .int (jI n)] (mV Y h q z sp pa st ke ik tx ln sn se dn up fa lo to tm so) (fun v_ w_ => v_ = some (.int (jI (z 3 + n))) ∧ w_ = (mV Y h q (GE z n) sp pa st ke ik tx ln sn se dn up fa lo to tm so)) 0 0 := by
  refine jM_of (cc := cX5_endNow) (maxL := 3) (ret := (some .int)) (by decide) rfl (Nat.le_of_ble_eq_true rfl) (fun v w' h => Or.inr (Or.inl ⟨_, _, rfl, h.1, rfl⟩)) ?_
  intro x G kr0
  have kr := kr0 _ _ ⟨rfl, rfl⟩
  have G : jG x l D Y cX5_endNow RX5 wsX5_endNow 3 ({ frames := 2, cells := 0, slots := 0, locals := 44 } : Room) (some .int) "endNow" := G
  have hinX5 : ∀ w ∈ wsX50, w ∈ wsX5_endNow := fun _ h => List.mem_cons_of_mem _ (List.mem_append_right _ h)
  show J x 0 0 (mV Y h q z sp pa st ke ik tx ln sn se dn up fa lo to tm so) 0 [(0, .ref h), (1, .int (jI n))] []
  refine j_iconst G dX5_endNow_0 (v := 0) rfl ?_
  refine j_istore_n (lv' := [(2, .int (jI 0)), (0, .ref h), (1, .int (jI n))]) G dX5_endNow_1 (by decide) rfl ?_
  have lp2 : ∀ (n_ : Nat) (i : Int) (g : Int → Int), (0 ≤ i ∧ i ≤ 64) → (∀ j : Int, 0 ≤ j → j < 220 → g j = if 92 ≤ j ∧ j < 92 + i then (if n < z j then z j - n else 0) else z j) → (64 - i) < (n_ : Int) → J x 0 0 (mV Y h q g sp pa st ke ik tx ln sn se dn up fa lo to tm so) 2 [(0, .ref h), (1, .int (jI n)), (2, .int (jI i))] [] := by
    intro n_
    induction n_ with
    | zero =>
      intro i g hi hg hm_
      exact absurd hm_ (by omega)
    | succ n_ ih2 =>
      intro i g hi hg hm_
      refine j_iload_n G 2 dX5_endNow_2 rfl ?_
      refine j_bipush G dX5_endNow_3 (v := 64) rfl ?_
      refine j_icmp_ge (tgt := 51) G dX5_endNow_5 (by decide) (by omega) (by omega) (fun c5 => ?_) (fun c5 => ?_)
      · have k3 := hg 3 (by omega) (by omega)
        have k0 := hg 0 (by omega) (by omega)
        rw [if_neg (by omega)] at k3 k0
        have f22 := hI.da
        refine j_aload_n G 0 dX5_endNow_51 rfl ?_
        refine j_get (q := 0) (C := RX5) (T := TX5) (N := 17) (v := .ref (q 0)) G 0 hinX5 dX5_endNow_52 rfl rfl (by decide) (by decide +kernel) rfl ?_
        refine j_iconst G dX5_endNow_55 (v := 3) rfl ?_
        refine j_dup2 G dX5_endNow_56 rfl rfl ?_
        refine j_iald (v := g 3) G 1 dX5_endNow_57 rfl (by omega) rfl ?_
        refine j_iload_n G 1 dX5_endNow_58 rfl ?_
        refine j_iadd G dX5_endNow_59 ?_
        refine j_iast (ws' := mV Y h q (upZ g 3 ((g 3) + n)) sp pa st ke ik tx ln sn se dn up fa lo to tm so) G 1 dX5_endNow_60 rfl (by omega) rfl ?_
        refine j_aload_n G 0 dX5_endNow_61 rfl ?_
        refine j_callV (nA := 0) (As := []) (st := []) (wc := (mV Y h q (upZ g 3 ((g 3) + n)) sp pa st ke ik tx ln sn se dn up fa lo to tm so)) (wr := []) G (c_X5_refresh l D Y h q (upZ g 3 ((g 3) + n)) sp pa st ke ik tx ln sn se dn up fa lo to tm so ) dX5_endNow_62 rfl gX5_endNow_X5_refresh rfl rfl rfl (by decide +kernel) ⟨by decide, by decide⟩ rfl 0 rfl rfl rfl (jLe.nil (jLe.rf _)) (Nat.le_of_ble_eq_true rfl) ⟨Nat.zero_le _, Nat.zero_le _⟩ (fun v_ w_ hp_ => ?_)
        obtain ⟨rfl, rfl⟩ := hp_
        show J x 0 0 (mV Y h q (GRf (upZ g 3 ((g 3) + n))) sp pa st ke ik tx ln sn se dn up fa lo to tm so) 65 [(0, .ref h), (1, .int (jI n)), (2, .int (jI i))] []
        refine j_aload_n G 0 dX5_endNow_65 rfl ?_
        refine j_get (q := 0) (C := RX5) (T := TX5) (N := 17) (v := .ref (q 0)) G 0 hinX5 dX5_endNow_66 rfl rfl (by decide) (by decide +kernel) rfl ?_
        refine j_iconst G dX5_endNow_69 (v := 3) rfl ?_
        refine j_iald (v := (GRf (upZ g 3 ((g 3) + n))) 3) G 1 dX5_endNow_70 rfl (by omega) rfl ?_
        exact j_reti G dX5_endNow_71 (by show (if (3 : Int) = 16 ∨ (3 : Int) = 20 ∨ (3 : Int) = 24 then _ else _) = _; rw [if_neg (by omega), upZ_eq _ _ _ rfl, k3]) (by exact mV_zl (fun j h0 h1 => by have kj := hg j h0 h1; simp only [GRf, upZ, GE]; (repeat' split) <;> (repeat' split at kj) <;> omega)) kr
      · have f19 : g (92 + i) = z (92 + i) := by rw [hg (92 + i) (by omega) (by omega), if_neg (by omega)]
        have f20 := hI.mp i (by omega) (by omega)
        have f21 := hI.mu
        refine j_aload_n G 0 dX5_endNow_8 rfl ?_
        refine j_get (q := 0) (C := RX5) (T := TX5) (N := 17) (v := .ref (q 0)) G 0 hinX5 dX5_endNow_9 rfl rfl (by decide) (by decide +kernel) rfl ?_
        refine j_bipush G dX5_endNow_12 (v := 92) rfl ?_
        refine j_iload_n G 2 dX5_endNow_14 rfl ?_
        refine j_iadd G dX5_endNow_15 ?_
        refine j_aload_n G 0 dX5_endNow_16 rfl ?_
        refine j_get (q := 0) (C := RX5) (T := TX5) (N := 17) (v := .ref (q 0)) G 0 hinX5 dX5_endNow_17 rfl rfl (by decide) (by decide +kernel) rfl ?_
        refine j_bipush G dX5_endNow_20 (v := 92) rfl ?_
        refine j_iload_n G 2 dX5_endNow_22 rfl ?_
        refine j_iadd G dX5_endNow_23 ?_
        refine j_iald (v := g (92 + i)) G 1 dX5_endNow_24 rfl (by omega) rfl ?_
        refine j_iload_n G 1 dX5_endNow_25 rfl ?_
        refine j_icmp_le (tgt := 43) G dX5_endNow_26 (by decide) (by omega) (by omega) (fun c26 => ?_) (fun c26 => ?_)
        · refine j_iconst G dX5_endNow_43 (v := 0) rfl ?_
          refine j_iast (ws' := mV Y h q (upZ g (92 + i) 0) sp pa st ke ik tx ln sn se dn up fa lo to tm so) G 1 dX5_endNow_44 rfl (by omega) rfl ?_
          refine j_iinc (w := i + 1) (lv' := [(2, .int (jI (i + 1))), (0, .ref h), (1, .int (jI n))]) G 2 dX5_endNow_45 rfl rfl (by decide) rfl ?_
          refine j_goto (tgt := 2) G dX5_endNow_48 (by decide) ?_
          refine j_lv [1, 2, 0] (lv' := [(0, .ref h), (1, .int (jI n)), (2, .int (jI (i + 1)))]) rfl ?_
          exact ih2 (i + 1) (upZ g (92 + i) 0) (by omega) (by exact ar_step (F := fun j => if n < z j then z j - n else 0) hi.1 hg (by show _ = if n < z (92 + i) then z (92 + i) - n else (0 : Int); first | rw [if_neg (by omega)] | (rw [if_pos (by omega)]; omega))) (by omega)
        · refine j_aload_n G 0 dX5_endNow_29 rfl ?_
          refine j_get (q := 0) (C := RX5) (T := TX5) (N := 17) (v := .ref (q 0)) G 0 hinX5 dX5_endNow_30 rfl rfl (by decide) (by decide +kernel) rfl ?_
          refine j_bipush G dX5_endNow_33 (v := 92) rfl ?_
          refine j_iload_n G 2 dX5_endNow_35 rfl ?_
          refine j_iadd G dX5_endNow_36 ?_
          refine j_iald (v := g (92 + i)) G 1 dX5_endNow_37 rfl (by omega) rfl ?_
          refine j_iload_n G 1 dX5_endNow_38 rfl ?_
          refine j_isub G dX5_endNow_39 ?_
          refine j_goto (tgt := 44) G dX5_endNow_40 (by decide) ?_
          refine j_iast (ws' := mV Y h q (upZ g (92 + i) ((g (92 + i)) - n)) sp pa st ke ik tx ln sn se dn up fa lo to tm so) G 1 dX5_endNow_44 rfl (by omega) rfl ?_
          refine j_iinc (w := i + 1) (lv' := [(2, .int (jI (i + 1))), (0, .ref h), (1, .int (jI n))]) G 2 dX5_endNow_45 rfl rfl (by decide) rfl ?_
          refine j_goto (tgt := 2) G dX5_endNow_48 (by decide) ?_
          refine j_lv [1, 2, 0] (lv' := [(0, .ref h), (1, .int (jI n)), (2, .int (jI (i + 1)))]) rfl ?_
          exact ih2 (i + 1) (upZ g (92 + i) ((g (92 + i)) - n)) (by omega) (by exact ar_step (F := fun j => if n < z j then z j - n else 0) hi.1 hg (by show _ = if n < z (92 + i) then z (92 + i) - n else (0 : Int); first | rw [if_neg (by omega)] | (rw [if_pos (by omega)]; omega))) (by omega)
  refine j_lv [1, 2, 0] (lv' := [(0, .ref h), (1, .int (jI n)), (2, .int (jI 0))]) rfl ?_
  exact lp2 (Int.toNat ((64 - 0) + 1)) 0 z (by omega) (by intro j h0 h1; exact (if_neg (by omega)).symm) (by omega)

set_option maxHeartbeats 4000000 in
set_option maxRecDepth 100000 in
theorem c_X5_endDays (l : Launch) (D : va_G) (Y : Nat → ClassId) (h : Nat) (q : Nat → Nat) (z : Int → Int) (sp : Int → Int) (pa : Int → Int) (st : Int) (ke : Int → Int) (ik : Int) (tx : Int → Int) (ln : Int) (sn : Int) (se : Int) (dn : Int → Int) (up : Int → Int) (fa : Int → Int) (lo : Int → Int) (to : Int → Int) (tm : Int) (so : Int) (n : Int) (hI : Inv z) (hst : 0 ≤ st ∧ st ≤ 4) (h_n : -2147483648 ≤ n ∧ n < 2147483648) : jM l yX5_endDays wsX5_endDays { frames := 3, cells := 0, slots := 0, locals := 66 } D Y [.ref h, .int (jI n)] (mV Y h q z sp pa st ke ik tx ln sn se dn up fa lo to tm so) (fun v_ w_ => v_ = some (.int (jI (F_end z n))) ∧ w_ = (mV Y h q (G_end z n) sp (mPa (F_end z n) st pa z) (hSz (F_end z n) st) ke ik tx ln sn se dn up fa lo to tm so)) 0 0 := by
  refine jM_of (cc := cX5_endDays) (maxL := 3) (ret := (some .int)) (by decide) rfl (Nat.le_of_ble_eq_true rfl) (fun v w' h => Or.inr (Or.inl ⟨_, _, rfl, h.1, rfl⟩)) ?_
  intro x G kr0
  have kr := kr0 _ _ ⟨rfl, rfl⟩
  have G : jG x l D Y cX5_endDays RX5 wsX5_endDays 3 ({ frames := 3, cells := 0, slots := 0, locals := 66 } : Room) (some .int) "endDays" := G
  show J x 0 0 (mV Y h q z sp pa st ke ik tx ln sn se dn up fa lo to tm so) 0 [(0, .ref h), (1, .int (jI n))] []
  refine j_aload_n G 0 dX5_endDays_0 rfl ?_
  refine j_iload_n G 1 dX5_endDays_1 rfl ?_
  refine j_callV (nA := 1) (As := [.int (jI n)]) (st := []) (wc := (mV Y h q z sp pa st ke ik tx ln sn se dn up fa lo to tm so)) (wr := []) G (c_X5_whyNotEnd l D Y h q z sp pa st ke ik tx ln sn se dn up fa lo to tm so n (by first | assumption | omega) (by first | assumption | omega)) dX5_endDays_2 rfl gX5_endDays_X5_whyNotEnd rfl rfl rfl (by decide +kernel) ⟨by decide, by decide⟩ rfl 0 rfl rfl rfl (jLe.nil (jLe.rf _)) (Nat.le_of_ble_eq_true rfl) ⟨Nat.zero_le _, Nat.zero_le _⟩ (fun v_ w_ hp_ => ?_)
  obtain ⟨rfl, rfl⟩ := hp_
  show J x 0 0 (mV Y h q z sp pa st ke ik tx ln sn se dn up fa lo to tm so) 5 [(0, .ref h), (1, .int (jI n))] [.int (jI (if 1 ≤ n ∧ n ≤ 99 then (if 9999 < z 3 + n then -3 else 0) else -2))]
  obtain ⟨e0, e_e0, h_e0⟩ : ∃ y : Int, y = (if 1 ≤ n ∧ n ≤ 99 then (if 9999 < z 3 + n then -3 else 0) else -2) ∧ ((y = 0 ∧ (1 ≤ n ∧ n ≤ 99) ∧ z 3 + n ≤ 9999) ∨ (y < 0 ∧ y = F_end z n ∧ ¬ ((1 ≤ n ∧ n ≤ 99) ∧ z 3 + n ≤ 9999))) := ⟨_, rfl, by unfold F_end; (repeat' split) <;> omega⟩
  rw [← e_e0]
  refine j_istore_n (lv' := [(2, .int (jI e0)), (0, .ref h), (1, .int (jI n))]) G dX5_endDays_5 (by decide) rfl ?_
  refine j_iload_n G 0 dX5_endDays_6 rfl ?_
  refine j_if_ge (tgt := 12) G dX5_endDays_7 (by decide) (by omega) (fun c7 => ?_) (fun c7 => ?_)
  · refine j_aload_n G 1 dX5_endDays_12 rfl ?_
    refine j_callV (nA := 0) (As := []) (st := []) (wc := (mV Y h q z sp pa st ke ik tx ln sn se dn up fa lo to tm so)) (wr := []) G (c_X5_record l D Y h q z sp pa st ke ik tx ln sn se dn up fa lo to tm so (by first | assumption | omega)) dX5_endDays_13 rfl gX5_endDays_X5_record rfl rfl rfl (by decide +kernel) ⟨by decide, by decide⟩ rfl 0 rfl rfl rfl (jLe.nil (jLe.rf _)) (Nat.le_of_ble_eq_true rfl) ⟨Nat.zero_le _, Nat.zero_le _⟩ (fun v_ w_ hp_ => ?_)
    obtain ⟨rfl, rfl⟩ := hp_
    show J x 0 0 (mV Y h q z sp (paP st pa z) (hUp st) ke ik tx ln sn se dn up fa lo to tm so) 16 [(2, .int (jI e0)), (0, .ref h), (1, .int (jI n))] []
    refine j_aload_n G 1 dX5_endDays_16 rfl ?_
    refine j_iload_n G 2 dX5_endDays_17 rfl ?_
    refine j_callV (nA := 1) (As := [.int (jI n)]) (st := []) (wc := (mV Y h q z sp (paP st pa z) (hUp st) ke ik tx ln sn se dn up fa lo to tm so)) (wr := []) G (c_X5_endNow l D Y h q z sp (paP st pa z) (hUp st) ke ik tx ln sn se dn up fa lo to tm so n (by first | assumption | omega) (by first | assumption | omega)) dX5_endDays_18 rfl gX5_endDays_X5_endNow rfl rfl rfl (by decide +kernel) ⟨by decide, by decide⟩ rfl 0 rfl rfl rfl (jLe.nil (jLe.rf _)) (Nat.le_of_ble_eq_true rfl) ⟨Nat.zero_le _, Nat.zero_le _⟩ (fun v_ w_ hp_ => ?_)
    obtain ⟨rfl, rfl⟩ := hp_
    show J x 0 0 (mV Y h q (GE z n) sp (paP st pa z) (hUp st) ke ik tx ln sn se dn up fa lo to tm so) 21 [(2, .int (jI e0)), (0, .ref h), (1, .int (jI n))] [.int (jI (z 3 + n))]
    exact j_reti G dX5_endDays_21 (by unfold F_end; rw [if_pos (by omega), if_neg (by omega)]) (by have f0 := hI.da; have hF : 0 ≤ F_end z n := (by unfold F_end; rw [if_pos (by omega), if_neg (by omega)]; omega); rw [show G_end z n = GE z n from if_pos (by omega), show mPa (F_end z n) st pa z = paP st pa z from if_pos (by omega), show hSz (F_end z n) st = hUp st from if_pos (by omega)]; exact jLe.rf _) kr
  · refine j_iload_n G 0 dX5_endDays_10 rfl ?_
    exact j_reti G dX5_endDays_11 (by omega) (by have hF : F_end z n < 0 := (by omega); rw [show G_end z n = z from if_neg (by omega), show mPa (F_end z n) st pa z = pa from if_neg (by omega), show hSz (F_end z n) st = st from if_neg (by omega)]; exact jLe.rf _) kr

set_option maxHeartbeats 4000000 in
set_option maxRecDepth 100000 in
theorem c_X5_set (l : Launch) (D : va_G) (Y : Nat → ClassId) (h : Nat) (q : Nat → Nat) (z : Int → Int) (sp : Int → Int) (pa : Int → Int) (st : Int) (ke : Int → Int) (ik : Int) (tx : Int → Int) (ln : Int) (sn : Int) (se : Int) (dn : Int → Int) (up : Int → Int) (fa : Int → Int) (lo : Int → Int) (to : Int → Int) (tm : Int) (so : Int) (i : Int) (v : Int) (hI : Inv z) (hst : 0 ≤ st ∧ st ≤ 4) (h_i : -2147483648 ≤ i ∧ i < 2147483648) (h_v : -2147483648 ≤ v ∧ v < 2147483648) : jM l yX5_set wsX5_set { frames := 3, cells := 0, slots := 0, locals := 66 } D Y [.ref h, .int (jI i), .int (jI v)] (mV Y h q z sp pa st ke ik tx ln sn se dn up fa lo to tm so) (fun v_ w_ => v_ = some (.int (jI (F_set z i v))) ∧ w_ = (mV Y h q (G_set z i v) sp (mPa (F_set z i v) st pa z) (hSz (F_set z i v) st) ke ik tx ln sn se dn up fa lo to tm so)) 0 0 := by
  refine jM_of (cc := cX5_set) (maxL := 4) (ret := (some .int)) (by decide) rfl (Nat.le_of_ble_eq_true rfl) (fun v w' h => Or.inr (Or.inl ⟨_, _, rfl, h.1, rfl⟩)) ?_
  intro x G kr0
  have kr := kr0 _ _ ⟨rfl, rfl⟩
  have G : jG x l D Y cX5_set RX5 wsX5_set 4 ({ frames := 3, cells := 0, slots := 0, locals := 66 } : Room) (some .int) "set" := G
  have hinX5 : ∀ w ∈ wsX50, w ∈ wsX5_set := fun _ h => List.mem_cons_of_mem _ (List.mem_append_right _ h)
  show J x 0 0 (mV Y h q z sp pa st ke ik tx ln sn se dn up fa lo to tm so) 0 [(0, .ref h), (1, .int (jI i)), (2, .int (jI v))] []
  refine j_iload_n G 1 dX5_set_0 rfl ?_
  refine j_iconst G dX5_set_1 (v := 0) rfl ?_
  refine j_iconst G dX5_set_2 (v := 2) rfl ?_
  refine j_callS (nA := 3) (As := [.int (jI i), .int (jI 0), .int (jI 2)]) (st := []) (wc := []) (wr := (mV Y h q z sp pa st ke ik tx ln sn se dn up fa lo to tm so)) G (c_X5_in l D Y i 0 2 (by first | assumption | omega) (by first | assumption | omega) (by first | assumption | omega)) dX5_set_3 rfl gX5_set_X5_in rfl rfl rfl (by decide +kernel) ⟨by decide, by decide⟩ rfl (jLe.rf _) (Nat.le_of_ble_eq_true rfl) ⟨Nat.zero_le _, Nat.zero_le _⟩ (fun v_ w_ hp_ => ?_)
  obtain ⟨rfl, rfl⟩ := hp_
  show J x 0 0 (mV Y h q z sp pa st ke ik tx ln sn se dn up fa lo to tm so) 6 [(0, .ref h), (1, .int (jI i)), (2, .int (jI v))] [.int (jI (if 0 ≤ i ∧ i ≤ 2 then 1 else 0))]
  refine j_ifz_ne (tgt := 11) G dX5_set_6 (by decide) (fun c6 => ?_) (fun c6 => ?_)
  · refine j_iload_n G 2 dX5_set_11 rfl ?_
    refine j_iload_n G 1 dX5_set_12 rfl ?_
    refine j_iconst G dX5_set_13 (v := 1) rfl ?_
    refine j_icmp_ne (tgt := 21) G dX5_set_14 (by decide) (by omega) (by omega) (fun c14 => ?_) (fun c14 => ?_)
    · refine j_iconst G dX5_set_21 (v := 1) rfl ?_
      refine j_iload_n G 1 dX5_set_22 rfl ?_
      refine j_if_ne (tgt := 31) G dX5_set_23 (by decide) (by omega) (fun c23 => ?_) (fun c23 => ?_)
      · refine j_iload_n G 1 dX5_set_31 rfl ?_
        refine j_iconst G dX5_set_32 (v := 1) rfl ?_
        refine j_icmp_ne (tgt := 40) G dX5_set_33 (by decide) (by omega) (by omega) (fun c33 => ?_) (fun c33 => ?_)
        · refine j_bipush G dX5_set_40 (v := 9) rfl ?_
          refine j_callS (nA := 3) (As := [.int (jI v), .int (jI 1), .int (jI 9)]) (st := []) (wc := []) (wr := (mV Y h q z sp pa st ke ik tx ln sn se dn up fa lo to tm so)) G (c_X5_in l D Y v 1 9 (by first | assumption | omega) (by first | assumption | omega) (by first | assumption | omega)) dX5_set_42 rfl gX5_set_X5_in rfl rfl rfl (by decide +kernel) ⟨by decide, by decide⟩ rfl (jLe.rf _) (Nat.le_of_ble_eq_true rfl) ⟨Nat.zero_le _, Nat.zero_le _⟩ (fun v_ w_ hp_ => ?_)
          obtain ⟨rfl, rfl⟩ := hp_
          show J x 0 0 (mV Y h q z sp pa st ke ik tx ln sn se dn up fa lo to tm so) 45 [(0, .ref h), (1, .int (jI i)), (2, .int (jI v))] [.int (jI (if 1 ≤ v ∧ v ≤ 9 then 1 else 0))]
          refine j_ifz_ne (tgt := 51) G dX5_set_45 (by decide) (fun c45 => ?_) (fun c45 => ?_)
          · refine j_aload_n G 0 dX5_set_51 rfl ?_
            refine j_get (q := 0) (C := RX5) (T := TX5) (N := 17) (v := .ref (q 0)) G 0 hinX5 dX5_set_52 rfl rfl (by decide) (by decide +kernel) rfl ?_
            refine j_iload_n G 1 dX5_set_55 rfl ?_
            refine j_iald (v := z i) G 1 dX5_set_56 rfl (by omega) rfl ?_
            have f31 : -2147483648 ≤ z i ∧ z i < 2147483648 := by
              have a0 := hI.s0
              have a1 := hI.s1
              have a2 := hI.s2
              rcases (show i = 0 ∨ i = 1 ∨ i = 2 by omega) with e | e | e <;> subst e <;> omega
            have f32 : 0 ≤ z i := by
              have a0 := hI.s0
              have a1 := hI.s1
              have a2 := hI.s2
              rcases (show i = 0 ∨ i = 1 ∨ i = 2 by omega) with e | e | e <;> subst e <;> omega
            have q1 : sLo i ≤ v ∧ v ≤ sHi i := (by unfold sLo sHi; (repeat' split) <;> omega)
            have hF : F_set z i v = if z i = v then -5 else z i := by unfold F_set; rw [if_pos (by omega), if_pos q1]
            refine j_istore_n (lv' := [(3, .int (jI (z i))), (0, .ref h), (1, .int (jI i)), (2, .int (jI v))]) G dX5_set_57 (by decide) rfl ?_
            refine j_iload_n G 0 dX5_set_58 rfl ?_
            refine j_iload_n G 3 dX5_set_59 rfl ?_
            refine j_icmp_ne (tgt := 66) G dX5_set_60 (by decide) (by omega) (by omega) (fun c60 => ?_) (fun c60 => ?_)
            · refine j_aload_n G 1 dX5_set_66 rfl ?_
              refine j_callV (nA := 0) (As := []) (st := []) (wc := (mV Y h q z sp pa st ke ik tx ln sn se dn up fa lo to tm so)) (wr := []) G (c_X5_record l D Y h q z sp pa st ke ik tx ln sn se dn up fa lo to tm so (by first | assumption | omega)) dX5_set_67 rfl gX5_set_X5_record rfl rfl rfl (by decide +kernel) ⟨by decide, by decide⟩ rfl 0 rfl rfl rfl (jLe.nil (jLe.rf _)) (Nat.le_of_ble_eq_true rfl) ⟨Nat.zero_le _, Nat.zero_le _⟩ (fun v_ w_ hp_ => ?_)
              obtain ⟨rfl, rfl⟩ := hp_
              show J x 0 0 (mV Y h q z sp (paP st pa z) (hUp st) ke ik tx ln sn se dn up fa lo to tm so) 70 [(3, .int (jI (z i))), (0, .ref h), (1, .int (jI i)), (2, .int (jI v))] []
              refine j_aload_n G 1 dX5_set_70 rfl ?_
              refine j_get (q := 0) (C := RX5) (T := TX5) (N := 17) (v := .ref (q 0)) G 0 hinX5 dX5_set_71 rfl rfl (by decide) (by decide +kernel) rfl ?_
              refine j_iload_n G 2 dX5_set_74 rfl ?_
              refine j_iload_n G 3 dX5_set_75 rfl ?_
              refine j_iast (ws' := mV Y h q (upZ z i v) sp (paP st pa z) (hUp st) ke ik tx ln sn se dn up fa lo to tm so) G 1 dX5_set_76 rfl (by omega) rfl ?_
              refine j_iload_n G 0 dX5_set_77 rfl ?_
              exact j_reti G dX5_set_78 (by rw [hF, if_neg c60]) (by rw [if_neg c60] at hF; rw [show G_set z i v = upZ z i v from if_pos ⟨by omega, q1⟩, show mPa (F_set z i v) st pa z = paP st pa z from if_pos (by omega), show hSz (F_set z i v) st = hUp st from if_pos (by omega)]; exact jLe.rf _) kr
            · refine j_bipush G dX5_set_63 (v := (-5)) rfl ?_
              exact j_reti G dX5_set_65 (by rw [hF, if_pos c60]) (by rw [if_pos c60] at hF; rw [show mPa (F_set z i v) st pa z = pa from if_neg (by omega), show hSz (F_set z i v) st = st from if_neg (by omega)]; exact mV_zl (fun j h0 h1 => by rw [show G_set z i v = upZ z i v from if_pos ⟨by omega, q1⟩]; by_cases e : j = i; rw [upZ_eq _ _ _ e, e]; omega; rw [upZ_ne _ _ _ e])) kr
          · refine j_bipush G dX5_set_48 (v := (-2)) rfl ?_
            exact j_reti G dX5_set_50 (by have q1 : ¬ (sLo i ≤ v ∧ v ≤ sHi i) := (by unfold sLo sHi; (repeat' split) <;> omega); unfold F_set; rw [if_pos (by omega), if_neg q1]) (by have q1 : ¬ (sLo i ≤ v ∧ v ≤ sHi i) := (by unfold sLo sHi; (repeat' split) <;> omega); have hF : F_set z i v < 0 := (by unfold F_set; rw [if_pos (by omega), if_neg q1]; omega); rw [show G_set z i v = z from if_neg (fun y => q1 y.2), show mPa (F_set z i v) st pa z = pa from if_neg (by omega), show hSz (F_set z i v) st = st from if_neg (by omega)]; exact jLe.rf _) kr
        · refine j_iconst G dX5_set_36 (v := 2) rfl ?_
          refine j_goto (tgt := 42) G dX5_set_37 (by decide) ?_
          refine j_callS (nA := 3) (As := [.int (jI v), .int (jI 1), .int (jI 2)]) (st := []) (wc := []) (wr := (mV Y h q z sp pa st ke ik tx ln sn se dn up fa lo to tm so)) G (c_X5_in l D Y v 1 2 (by first | assumption | omega) (by first | assumption | omega) (by first | assumption | omega)) dX5_set_42 rfl gX5_set_X5_in rfl rfl rfl (by decide +kernel) ⟨by decide, by decide⟩ rfl (jLe.rf _) (Nat.le_of_ble_eq_true rfl) ⟨Nat.zero_le _, Nat.zero_le _⟩ (fun v_ w_ hp_ => ?_)
          obtain ⟨rfl, rfl⟩ := hp_
          show J x 0 0 (mV Y h q z sp pa st ke ik tx ln sn se dn up fa lo to tm so) 45 [(0, .ref h), (1, .int (jI i)), (2, .int (jI v))] [.int (jI (if 1 ≤ v ∧ v ≤ 2 then 1 else 0))]
          refine j_ifz_ne (tgt := 51) G dX5_set_45 (by decide) (fun c45 => ?_) (fun c45 => ?_)
          · refine j_aload_n G 0 dX5_set_51 rfl ?_
            refine j_get (q := 0) (C := RX5) (T := TX5) (N := 17) (v := .ref (q 0)) G 0 hinX5 dX5_set_52 rfl rfl (by decide) (by decide +kernel) rfl ?_
            refine j_iload_n G 1 dX5_set_55 rfl ?_
            refine j_iald (v := z i) G 1 dX5_set_56 rfl (by omega) rfl ?_
            have f31 : -2147483648 ≤ z i ∧ z i < 2147483648 := by
              have a0 := hI.s0
              have a1 := hI.s1
              have a2 := hI.s2
              rcases (show i = 0 ∨ i = 1 ∨ i = 2 by omega) with e | e | e <;> subst e <;> omega
            have f32 : 0 ≤ z i := by
              have a0 := hI.s0
              have a1 := hI.s1
              have a2 := hI.s2
              rcases (show i = 0 ∨ i = 1 ∨ i = 2 by omega) with e | e | e <;> subst e <;> omega
            have q1 : sLo i ≤ v ∧ v ≤ sHi i := (by unfold sLo sHi; (repeat' split) <;> omega)
            have hF : F_set z i v = if z i = v then -5 else z i := by unfold F_set; rw [if_pos (by omega), if_pos q1]
            refine j_istore_n (lv' := [(3, .int (jI (z i))), (0, .ref h), (1, .int (jI i)), (2, .int (jI v))]) G dX5_set_57 (by decide) rfl ?_
            refine j_iload_n G 0 dX5_set_58 rfl ?_
            refine j_iload_n G 3 dX5_set_59 rfl ?_
            refine j_icmp_ne (tgt := 66) G dX5_set_60 (by decide) (by omega) (by omega) (fun c60 => ?_) (fun c60 => ?_)
            · refine j_aload_n G 1 dX5_set_66 rfl ?_
              refine j_callV (nA := 0) (As := []) (st := []) (wc := (mV Y h q z sp pa st ke ik tx ln sn se dn up fa lo to tm so)) (wr := []) G (c_X5_record l D Y h q z sp pa st ke ik tx ln sn se dn up fa lo to tm so (by first | assumption | omega)) dX5_set_67 rfl gX5_set_X5_record rfl rfl rfl (by decide +kernel) ⟨by decide, by decide⟩ rfl 0 rfl rfl rfl (jLe.nil (jLe.rf _)) (Nat.le_of_ble_eq_true rfl) ⟨Nat.zero_le _, Nat.zero_le _⟩ (fun v_ w_ hp_ => ?_)
              obtain ⟨rfl, rfl⟩ := hp_
              show J x 0 0 (mV Y h q z sp (paP st pa z) (hUp st) ke ik tx ln sn se dn up fa lo to tm so) 70 [(3, .int (jI (z i))), (0, .ref h), (1, .int (jI i)), (2, .int (jI v))] []
              refine j_aload_n G 1 dX5_set_70 rfl ?_
              refine j_get (q := 0) (C := RX5) (T := TX5) (N := 17) (v := .ref (q 0)) G 0 hinX5 dX5_set_71 rfl rfl (by decide) (by decide +kernel) rfl ?_
              refine j_iload_n G 2 dX5_set_74 rfl ?_
              refine j_iload_n G 3 dX5_set_75 rfl ?_
              refine j_iast (ws' := mV Y h q (upZ z i v) sp (paP st pa z) (hUp st) ke ik tx ln sn se dn up fa lo to tm so) G 1 dX5_set_76 rfl (by omega) rfl ?_
              refine j_iload_n G 0 dX5_set_77 rfl ?_
              exact j_reti G dX5_set_78 (by rw [hF, if_neg c60]) (by rw [if_neg c60] at hF; rw [show G_set z i v = upZ z i v from if_pos ⟨by omega, q1⟩, show mPa (F_set z i v) st pa z = paP st pa z from if_pos (by omega), show hSz (F_set z i v) st = hUp st from if_pos (by omega)]; exact jLe.rf _) kr
            · refine j_bipush G dX5_set_63 (v := (-5)) rfl ?_
              exact j_reti G dX5_set_65 (by rw [hF, if_pos c60]) (by rw [if_pos c60] at hF; rw [show mPa (F_set z i v) st pa z = pa from if_neg (by omega), show hSz (F_set z i v) st = st from if_neg (by omega)]; exact mV_zl (fun j h0 h1 => by rw [show G_set z i v = upZ z i v from if_pos ⟨by omega, q1⟩]; by_cases e : j = i; rw [upZ_eq _ _ _ e, e]; omega; rw [upZ_ne _ _ _ e])) kr
          · refine j_bipush G dX5_set_48 (v := (-2)) rfl ?_
            exact j_reti G dX5_set_50 (by have q1 : ¬ (sLo i ≤ v ∧ v ≤ sHi i) := (by unfold sLo sHi; (repeat' split) <;> omega); unfold F_set; rw [if_pos (by omega), if_neg q1]) (by have q1 : ¬ (sLo i ≤ v ∧ v ≤ sHi i) := (by unfold sLo sHi; (repeat' split) <;> omega); have hF : F_set z i v < 0 := (by unfold F_set; rw [if_pos (by omega), if_neg q1]; omega); rw [show G_set z i v = z from if_neg (fun y => q1 y.2), show mPa (F_set z i v) st pa z = pa from if_neg (by omega), show hSz (F_set z i v) st = st from if_neg (by omega)]; exact jLe.rf _) kr
      · refine j_bipush G dX5_set_26 (v := 30) rfl ?_
        refine j_goto (tgt := 42) G dX5_set_28 (by decide) ?_
        refine j_callS (nA := 3) (As := [.int (jI v), .int (jI 1), .int (jI 30)]) (st := []) (wc := []) (wr := (mV Y h q z sp pa st ke ik tx ln sn se dn up fa lo to tm so)) G (c_X5_in l D Y v 1 30 (by first | assumption | omega) (by first | assumption | omega) (by first | assumption | omega)) dX5_set_42 rfl gX5_set_X5_in rfl rfl rfl (by decide +kernel) ⟨by decide, by decide⟩ rfl (jLe.rf _) (Nat.le_of_ble_eq_true rfl) ⟨Nat.zero_le _, Nat.zero_le _⟩ (fun v_ w_ hp_ => ?_)
        obtain ⟨rfl, rfl⟩ := hp_
        show J x 0 0 (mV Y h q z sp pa st ke ik tx ln sn se dn up fa lo to tm so) 45 [(0, .ref h), (1, .int (jI i)), (2, .int (jI v))] [.int (jI (if 1 ≤ v ∧ v ≤ 30 then 1 else 0))]
        refine j_ifz_ne (tgt := 51) G dX5_set_45 (by decide) (fun c45 => ?_) (fun c45 => ?_)
        · refine j_aload_n G 0 dX5_set_51 rfl ?_
          refine j_get (q := 0) (C := RX5) (T := TX5) (N := 17) (v := .ref (q 0)) G 0 hinX5 dX5_set_52 rfl rfl (by decide) (by decide +kernel) rfl ?_
          refine j_iload_n G 1 dX5_set_55 rfl ?_
          refine j_iald (v := z i) G 1 dX5_set_56 rfl (by omega) rfl ?_
          have f31 : -2147483648 ≤ z i ∧ z i < 2147483648 := by
            have a0 := hI.s0
            have a1 := hI.s1
            have a2 := hI.s2
            rcases (show i = 0 ∨ i = 1 ∨ i = 2 by omega) with e | e | e <;> subst e <;> omega
          have f32 : 0 ≤ z i := by
            have a0 := hI.s0
            have a1 := hI.s1
            have a2 := hI.s2
            rcases (show i = 0 ∨ i = 1 ∨ i = 2 by omega) with e | e | e <;> subst e <;> omega
          have q1 : sLo i ≤ v ∧ v ≤ sHi i := (by unfold sLo sHi; (repeat' split) <;> omega)
          have hF : F_set z i v = if z i = v then -5 else z i := by unfold F_set; rw [if_pos (by omega), if_pos q1]
          refine j_istore_n (lv' := [(3, .int (jI (z i))), (0, .ref h), (1, .int (jI i)), (2, .int (jI v))]) G dX5_set_57 (by decide) rfl ?_
          refine j_iload_n G 0 dX5_set_58 rfl ?_
          refine j_iload_n G 3 dX5_set_59 rfl ?_
          refine j_icmp_ne (tgt := 66) G dX5_set_60 (by decide) (by omega) (by omega) (fun c60 => ?_) (fun c60 => ?_)
          · refine j_aload_n G 1 dX5_set_66 rfl ?_
            refine j_callV (nA := 0) (As := []) (st := []) (wc := (mV Y h q z sp pa st ke ik tx ln sn se dn up fa lo to tm so)) (wr := []) G (c_X5_record l D Y h q z sp pa st ke ik tx ln sn se dn up fa lo to tm so (by first | assumption | omega)) dX5_set_67 rfl gX5_set_X5_record rfl rfl rfl (by decide +kernel) ⟨by decide, by decide⟩ rfl 0 rfl rfl rfl (jLe.nil (jLe.rf _)) (Nat.le_of_ble_eq_true rfl) ⟨Nat.zero_le _, Nat.zero_le _⟩ (fun v_ w_ hp_ => ?_)
            obtain ⟨rfl, rfl⟩ := hp_
            show J x 0 0 (mV Y h q z sp (paP st pa z) (hUp st) ke ik tx ln sn se dn up fa lo to tm so) 70 [(3, .int (jI (z i))), (0, .ref h), (1, .int (jI i)), (2, .int (jI v))] []
            refine j_aload_n G 1 dX5_set_70 rfl ?_
            refine j_get (q := 0) (C := RX5) (T := TX5) (N := 17) (v := .ref (q 0)) G 0 hinX5 dX5_set_71 rfl rfl (by decide) (by decide +kernel) rfl ?_
            refine j_iload_n G 2 dX5_set_74 rfl ?_
            refine j_iload_n G 3 dX5_set_75 rfl ?_
            refine j_iast (ws' := mV Y h q (upZ z i v) sp (paP st pa z) (hUp st) ke ik tx ln sn se dn up fa lo to tm so) G 1 dX5_set_76 rfl (by omega) rfl ?_
            refine j_iload_n G 0 dX5_set_77 rfl ?_
            exact j_reti G dX5_set_78 (by rw [hF, if_neg c60]) (by rw [if_neg c60] at hF; rw [show G_set z i v = upZ z i v from if_pos ⟨by omega, q1⟩, show mPa (F_set z i v) st pa z = paP st pa z from if_pos (by omega), show hSz (F_set z i v) st = hUp st from if_pos (by omega)]; exact jLe.rf _) kr
          · refine j_bipush G dX5_set_63 (v := (-5)) rfl ?_
            exact j_reti G dX5_set_65 (by rw [hF, if_pos c60]) (by rw [if_pos c60] at hF; rw [show mPa (F_set z i v) st pa z = pa from if_neg (by omega), show hSz (F_set z i v) st = st from if_neg (by omega)]; exact mV_zl (fun j h0 h1 => by rw [show G_set z i v = upZ z i v from if_pos ⟨by omega, q1⟩]; by_cases e : j = i; rw [upZ_eq _ _ _ e, e]; omega; rw [upZ_ne _ _ _ e])) kr
        · refine j_bipush G dX5_set_48 (v := (-2)) rfl ?_
          exact j_reti G dX5_set_50 (by have q1 : ¬ (sLo i ≤ v ∧ v ≤ sHi i) := (by unfold sLo sHi; (repeat' split) <;> omega); unfold F_set; rw [if_pos (by omega), if_neg q1]) (by have q1 : ¬ (sLo i ≤ v ∧ v ≤ sHi i) := (by unfold sLo sHi; (repeat' split) <;> omega); have hF : F_set z i v < 0 := (by unfold F_set; rw [if_pos (by omega), if_neg q1]; omega); rw [show G_set z i v = z from if_neg (fun y => q1 y.2), show mPa (F_set z i v) st pa z = pa from if_neg (by omega), show hSz (F_set z i v) st = st from if_neg (by omega)]; exact jLe.rf _) kr
    · refine j_iconst G dX5_set_17 (v := 0) rfl ?_
      refine j_goto (tgt := 22) G dX5_set_18 (by decide) ?_
      refine j_iload_n G 1 dX5_set_22 rfl ?_
      refine j_if_ne (tgt := 31) G dX5_set_23 (by decide) (by omega) (fun c23 => ?_) (fun c23 => ?_)
      · refine j_iload_n G 1 dX5_set_31 rfl ?_
        refine j_iconst G dX5_set_32 (v := 1) rfl ?_
        refine j_icmp_ne (tgt := 40) G dX5_set_33 (by decide) (by omega) (by omega) (fun c33 => ?_) (fun c33 => ?_)
        · refine j_bipush G dX5_set_40 (v := 9) rfl ?_
          refine j_callS (nA := 3) (As := [.int (jI v), .int (jI 0), .int (jI 9)]) (st := []) (wc := []) (wr := (mV Y h q z sp pa st ke ik tx ln sn se dn up fa lo to tm so)) G (c_X5_in l D Y v 0 9 (by first | assumption | omega) (by first | assumption | omega) (by first | assumption | omega)) dX5_set_42 rfl gX5_set_X5_in rfl rfl rfl (by decide +kernel) ⟨by decide, by decide⟩ rfl (jLe.rf _) (Nat.le_of_ble_eq_true rfl) ⟨Nat.zero_le _, Nat.zero_le _⟩ (fun v_ w_ hp_ => ?_)
          obtain ⟨rfl, rfl⟩ := hp_
          show J x 0 0 (mV Y h q z sp pa st ke ik tx ln sn se dn up fa lo to tm so) 45 [(0, .ref h), (1, .int (jI i)), (2, .int (jI v))] [.int (jI (if 0 ≤ v ∧ v ≤ 9 then 1 else 0))]
          refine j_ifz_ne (tgt := 51) G dX5_set_45 (by decide) (fun c45 => ?_) (fun c45 => ?_)
          · refine j_aload_n G 0 dX5_set_51 rfl ?_
            refine j_get (q := 0) (C := RX5) (T := TX5) (N := 17) (v := .ref (q 0)) G 0 hinX5 dX5_set_52 rfl rfl (by decide) (by decide +kernel) rfl ?_
            refine j_iload_n G 1 dX5_set_55 rfl ?_
            refine j_iald (v := z i) G 1 dX5_set_56 rfl (by omega) rfl ?_
            have f31 : -2147483648 ≤ z i ∧ z i < 2147483648 := by
              have a0 := hI.s0
              have a1 := hI.s1
              have a2 := hI.s2
              rcases (show i = 0 ∨ i = 1 ∨ i = 2 by omega) with e | e | e <;> subst e <;> omega
            have f32 : 0 ≤ z i := by
              have a0 := hI.s0
              have a1 := hI.s1
              have a2 := hI.s2
              rcases (show i = 0 ∨ i = 1 ∨ i = 2 by omega) with e | e | e <;> subst e <;> omega
            have q1 : sLo i ≤ v ∧ v ≤ sHi i := (by unfold sLo sHi; (repeat' split) <;> omega)
            have hF : F_set z i v = if z i = v then -5 else z i := by unfold F_set; rw [if_pos (by omega), if_pos q1]
            refine j_istore_n (lv' := [(3, .int (jI (z i))), (0, .ref h), (1, .int (jI i)), (2, .int (jI v))]) G dX5_set_57 (by decide) rfl ?_
            refine j_iload_n G 0 dX5_set_58 rfl ?_
            refine j_iload_n G 3 dX5_set_59 rfl ?_
            refine j_icmp_ne (tgt := 66) G dX5_set_60 (by decide) (by omega) (by omega) (fun c60 => ?_) (fun c60 => ?_)
            · refine j_aload_n G 1 dX5_set_66 rfl ?_
              refine j_callV (nA := 0) (As := []) (st := []) (wc := (mV Y h q z sp pa st ke ik tx ln sn se dn up fa lo to tm so)) (wr := []) G (c_X5_record l D Y h q z sp pa st ke ik tx ln sn se dn up fa lo to tm so (by first | assumption | omega)) dX5_set_67 rfl gX5_set_X5_record rfl rfl rfl (by decide +kernel) ⟨by decide, by decide⟩ rfl 0 rfl rfl rfl (jLe.nil (jLe.rf _)) (Nat.le_of_ble_eq_true rfl) ⟨Nat.zero_le _, Nat.zero_le _⟩ (fun v_ w_ hp_ => ?_)
              obtain ⟨rfl, rfl⟩ := hp_
              show J x 0 0 (mV Y h q z sp (paP st pa z) (hUp st) ke ik tx ln sn se dn up fa lo to tm so) 70 [(3, .int (jI (z i))), (0, .ref h), (1, .int (jI i)), (2, .int (jI v))] []
              refine j_aload_n G 1 dX5_set_70 rfl ?_
              refine j_get (q := 0) (C := RX5) (T := TX5) (N := 17) (v := .ref (q 0)) G 0 hinX5 dX5_set_71 rfl rfl (by decide) (by decide +kernel) rfl ?_
              refine j_iload_n G 2 dX5_set_74 rfl ?_
              refine j_iload_n G 3 dX5_set_75 rfl ?_
              refine j_iast (ws' := mV Y h q (upZ z i v) sp (paP st pa z) (hUp st) ke ik tx ln sn se dn up fa lo to tm so) G 1 dX5_set_76 rfl (by omega) rfl ?_
              refine j_iload_n G 0 dX5_set_77 rfl ?_
              exact j_reti G dX5_set_78 (by rw [hF, if_neg c60]) (by rw [if_neg c60] at hF; rw [show G_set z i v = upZ z i v from if_pos ⟨by omega, q1⟩, show mPa (F_set z i v) st pa z = paP st pa z from if_pos (by omega), show hSz (F_set z i v) st = hUp st from if_pos (by omega)]; exact jLe.rf _) kr
            · refine j_bipush G dX5_set_63 (v := (-5)) rfl ?_
              exact j_reti G dX5_set_65 (by rw [hF, if_pos c60]) (by rw [if_pos c60] at hF; rw [show mPa (F_set z i v) st pa z = pa from if_neg (by omega), show hSz (F_set z i v) st = st from if_neg (by omega)]; exact mV_zl (fun j h0 h1 => by rw [show G_set z i v = upZ z i v from if_pos ⟨by omega, q1⟩]; by_cases e : j = i; rw [upZ_eq _ _ _ e, e]; omega; rw [upZ_ne _ _ _ e])) kr
          · refine j_bipush G dX5_set_48 (v := (-2)) rfl ?_
            exact j_reti G dX5_set_50 (by have q1 : ¬ (sLo i ≤ v ∧ v ≤ sHi i) := (by unfold sLo sHi; (repeat' split) <;> omega); unfold F_set; rw [if_pos (by omega), if_neg q1]) (by have q1 : ¬ (sLo i ≤ v ∧ v ≤ sHi i) := (by unfold sLo sHi; (repeat' split) <;> omega); have hF : F_set z i v < 0 := (by unfold F_set; rw [if_pos (by omega), if_neg q1]; omega); rw [show G_set z i v = z from if_neg (fun y => q1 y.2), show mPa (F_set z i v) st pa z = pa from if_neg (by omega), show hSz (F_set z i v) st = st from if_neg (by omega)]; exact jLe.rf _) kr
        · refine j_iconst G dX5_set_36 (v := 2) rfl ?_
          refine j_goto (tgt := 42) G dX5_set_37 (by decide) ?_
          refine j_callS (nA := 3) (As := [.int (jI v), .int (jI 0), .int (jI 2)]) (st := []) (wc := []) (wr := (mV Y h q z sp pa st ke ik tx ln sn se dn up fa lo to tm so)) G (c_X5_in l D Y v 0 2 (by first | assumption | omega) (by first | assumption | omega) (by first | assumption | omega)) dX5_set_42 rfl gX5_set_X5_in rfl rfl rfl (by decide +kernel) ⟨by decide, by decide⟩ rfl (jLe.rf _) (Nat.le_of_ble_eq_true rfl) ⟨Nat.zero_le _, Nat.zero_le _⟩ (fun v_ w_ hp_ => ?_)
          obtain ⟨rfl, rfl⟩ := hp_
          show J x 0 0 (mV Y h q z sp pa st ke ik tx ln sn se dn up fa lo to tm so) 45 [(0, .ref h), (1, .int (jI i)), (2, .int (jI v))] [.int (jI (if 0 ≤ v ∧ v ≤ 2 then 1 else 0))]
          refine j_ifz_ne (tgt := 51) G dX5_set_45 (by decide) (fun c45 => ?_) (fun c45 => ?_)
          · refine j_aload_n G 0 dX5_set_51 rfl ?_
            refine j_get (q := 0) (C := RX5) (T := TX5) (N := 17) (v := .ref (q 0)) G 0 hinX5 dX5_set_52 rfl rfl (by decide) (by decide +kernel) rfl ?_
            refine j_iload_n G 1 dX5_set_55 rfl ?_
            refine j_iald (v := z i) G 1 dX5_set_56 rfl (by omega) rfl ?_
            have f31 : -2147483648 ≤ z i ∧ z i < 2147483648 := by
              have a0 := hI.s0
              have a1 := hI.s1
              have a2 := hI.s2
              rcases (show i = 0 ∨ i = 1 ∨ i = 2 by omega) with e | e | e <;> subst e <;> omega
            have f32 : 0 ≤ z i := by
              have a0 := hI.s0
              have a1 := hI.s1
              have a2 := hI.s2
              rcases (show i = 0 ∨ i = 1 ∨ i = 2 by omega) with e | e | e <;> subst e <;> omega
            have q1 : sLo i ≤ v ∧ v ≤ sHi i := (by unfold sLo sHi; (repeat' split) <;> omega)
            have hF : F_set z i v = if z i = v then -5 else z i := by unfold F_set; rw [if_pos (by omega), if_pos q1]
            refine j_istore_n (lv' := [(3, .int (jI (z i))), (0, .ref h), (1, .int (jI i)), (2, .int (jI v))]) G dX5_set_57 (by decide) rfl ?_
            refine j_iload_n G 0 dX5_set_58 rfl ?_
            refine j_iload_n G 3 dX5_set_59 rfl ?_
            refine j_icmp_ne (tgt := 66) G dX5_set_60 (by decide) (by omega) (by omega) (fun c60 => ?_) (fun c60 => ?_)
            · refine j_aload_n G 1 dX5_set_66 rfl ?_
              refine j_callV (nA := 0) (As := []) (st := []) (wc := (mV Y h q z sp pa st ke ik tx ln sn se dn up fa lo to tm so)) (wr := []) G (c_X5_record l D Y h q z sp pa st ke ik tx ln sn se dn up fa lo to tm so (by first | assumption | omega)) dX5_set_67 rfl gX5_set_X5_record rfl rfl rfl (by decide +kernel) ⟨by decide, by decide⟩ rfl 0 rfl rfl rfl (jLe.nil (jLe.rf _)) (Nat.le_of_ble_eq_true rfl) ⟨Nat.zero_le _, Nat.zero_le _⟩ (fun v_ w_ hp_ => ?_)
              obtain ⟨rfl, rfl⟩ := hp_
              show J x 0 0 (mV Y h q z sp (paP st pa z) (hUp st) ke ik tx ln sn se dn up fa lo to tm so) 70 [(3, .int (jI (z i))), (0, .ref h), (1, .int (jI i)), (2, .int (jI v))] []
              refine j_aload_n G 1 dX5_set_70 rfl ?_
              refine j_get (q := 0) (C := RX5) (T := TX5) (N := 17) (v := .ref (q 0)) G 0 hinX5 dX5_set_71 rfl rfl (by decide) (by decide +kernel) rfl ?_
              refine j_iload_n G 2 dX5_set_74 rfl ?_
              refine j_iload_n G 3 dX5_set_75 rfl ?_
              refine j_iast (ws' := mV Y h q (upZ z i v) sp (paP st pa z) (hUp st) ke ik tx ln sn se dn up fa lo to tm so) G 1 dX5_set_76 rfl (by omega) rfl ?_
              refine j_iload_n G 0 dX5_set_77 rfl ?_
              exact j_reti G dX5_set_78 (by rw [hF, if_neg c60]) (by rw [if_neg c60] at hF; rw [show G_set z i v = upZ z i v from if_pos ⟨by omega, q1⟩, show mPa (F_set z i v) st pa z = paP st pa z from if_pos (by omega), show hSz (F_set z i v) st = hUp st from if_pos (by omega)]; exact jLe.rf _) kr
            · refine j_bipush G dX5_set_63 (v := (-5)) rfl ?_
              exact j_reti G dX5_set_65 (by rw [hF, if_pos c60]) (by rw [if_pos c60] at hF; rw [show mPa (F_set z i v) st pa z = pa from if_neg (by omega), show hSz (F_set z i v) st = st from if_neg (by omega)]; exact mV_zl (fun j h0 h1 => by rw [show G_set z i v = upZ z i v from if_pos ⟨by omega, q1⟩]; by_cases e : j = i; rw [upZ_eq _ _ _ e, e]; omega; rw [upZ_ne _ _ _ e])) kr
          · refine j_bipush G dX5_set_48 (v := (-2)) rfl ?_
            exact j_reti G dX5_set_50 (by have q1 : ¬ (sLo i ≤ v ∧ v ≤ sHi i) := (by unfold sLo sHi; (repeat' split) <;> omega); unfold F_set; rw [if_pos (by omega), if_neg q1]) (by have q1 : ¬ (sLo i ≤ v ∧ v ≤ sHi i) := (by unfold sLo sHi; (repeat' split) <;> omega); have hF : F_set z i v < 0 := (by unfold F_set; rw [if_pos (by omega), if_neg q1]; omega); rw [show G_set z i v = z from if_neg (fun y => q1 y.2), show mPa (F_set z i v) st pa z = pa from if_neg (by omega), show hSz (F_set z i v) st = st from if_neg (by omega)]; exact jLe.rf _) kr
      · refine j_bipush G dX5_set_26 (v := 30) rfl ?_
        refine j_goto (tgt := 42) G dX5_set_28 (by decide) ?_
        refine j_callS (nA := 3) (As := [.int (jI v), .int (jI 0), .int (jI 30)]) (st := []) (wc := []) (wr := (mV Y h q z sp pa st ke ik tx ln sn se dn up fa lo to tm so)) G (c_X5_in l D Y v 0 30 (by first | assumption | omega) (by first | assumption | omega) (by first | assumption | omega)) dX5_set_42 rfl gX5_set_X5_in rfl rfl rfl (by decide +kernel) ⟨by decide, by decide⟩ rfl (jLe.rf _) (Nat.le_of_ble_eq_true rfl) ⟨Nat.zero_le _, Nat.zero_le _⟩ (fun v_ w_ hp_ => ?_)
        obtain ⟨rfl, rfl⟩ := hp_
        show J x 0 0 (mV Y h q z sp pa st ke ik tx ln sn se dn up fa lo to tm so) 45 [(0, .ref h), (1, .int (jI i)), (2, .int (jI v))] [.int (jI (if 0 ≤ v ∧ v ≤ 30 then 1 else 0))]
        refine j_ifz_ne (tgt := 51) G dX5_set_45 (by decide) (fun c45 => ?_) (fun c45 => ?_)
        · refine j_aload_n G 0 dX5_set_51 rfl ?_
          refine j_get (q := 0) (C := RX5) (T := TX5) (N := 17) (v := .ref (q 0)) G 0 hinX5 dX5_set_52 rfl rfl (by decide) (by decide +kernel) rfl ?_
          refine j_iload_n G 1 dX5_set_55 rfl ?_
          refine j_iald (v := z i) G 1 dX5_set_56 rfl (by omega) rfl ?_
          have f31 : -2147483648 ≤ z i ∧ z i < 2147483648 := by
            have a0 := hI.s0
            have a1 := hI.s1
            have a2 := hI.s2
            rcases (show i = 0 ∨ i = 1 ∨ i = 2 by omega) with e | e | e <;> subst e <;> omega
          have f32 : 0 ≤ z i := by
            have a0 := hI.s0
            have a1 := hI.s1
            have a2 := hI.s2
            rcases (show i = 0 ∨ i = 1 ∨ i = 2 by omega) with e | e | e <;> subst e <;> omega
          have q1 : sLo i ≤ v ∧ v ≤ sHi i := (by unfold sLo sHi; (repeat' split) <;> omega)
          have hF : F_set z i v = if z i = v then -5 else z i := by unfold F_set; rw [if_pos (by omega), if_pos q1]
          refine j_istore_n (lv' := [(3, .int (jI (z i))), (0, .ref h), (1, .int (jI i)), (2, .int (jI v))]) G dX5_set_57 (by decide) rfl ?_
          refine j_iload_n G 0 dX5_set_58 rfl ?_
          refine j_iload_n G 3 dX5_set_59 rfl ?_
          refine j_icmp_ne (tgt := 66) G dX5_set_60 (by decide) (by omega) (by omega) (fun c60 => ?_) (fun c60 => ?_)
          · refine j_aload_n G 1 dX5_set_66 rfl ?_
            refine j_callV (nA := 0) (As := []) (st := []) (wc := (mV Y h q z sp pa st ke ik tx ln sn se dn up fa lo to tm so)) (wr := []) G (c_X5_record l D Y h q z sp pa st ke ik tx ln sn se dn up fa lo to tm so (by first | assumption | omega)) dX5_set_67 rfl gX5_set_X5_record rfl rfl rfl (by decide +kernel) ⟨by decide, by decide⟩ rfl 0 rfl rfl rfl (jLe.nil (jLe.rf _)) (Nat.le_of_ble_eq_true rfl) ⟨Nat.zero_le _, Nat.zero_le _⟩ (fun v_ w_ hp_ => ?_)
            obtain ⟨rfl, rfl⟩ := hp_
            show J x 0 0 (mV Y h q z sp (paP st pa z) (hUp st) ke ik tx ln sn se dn up fa lo to tm so) 70 [(3, .int (jI (z i))), (0, .ref h), (1, .int (jI i)), (2, .int (jI v))] []
            refine j_aload_n G 1 dX5_set_70 rfl ?_
            refine j_get (q := 0) (C := RX5) (T := TX5) (N := 17) (v := .ref (q 0)) G 0 hinX5 dX5_set_71 rfl rfl (by decide) (by decide +kernel) rfl ?_
            refine j_iload_n G 2 dX5_set_74 rfl ?_
            refine j_iload_n G 3 dX5_set_75 rfl ?_
            refine j_iast (ws' := mV Y h q (upZ z i v) sp (paP st pa z) (hUp st) ke ik tx ln sn se dn up fa lo to tm so) G 1 dX5_set_76 rfl (by omega) rfl ?_
            refine j_iload_n G 0 dX5_set_77 rfl ?_
            exact j_reti G dX5_set_78 (by rw [hF, if_neg c60]) (by rw [if_neg c60] at hF; rw [show G_set z i v = upZ z i v from if_pos ⟨by omega, q1⟩, show mPa (F_set z i v) st pa z = paP st pa z from if_pos (by omega), show hSz (F_set z i v) st = hUp st from if_pos (by omega)]; exact jLe.rf _) kr
          · refine j_bipush G dX5_set_63 (v := (-5)) rfl ?_
            exact j_reti G dX5_set_65 (by rw [hF, if_pos c60]) (by rw [if_pos c60] at hF; rw [show mPa (F_set z i v) st pa z = pa from if_neg (by omega), show hSz (F_set z i v) st = st from if_neg (by omega)]; exact mV_zl (fun j h0 h1 => by rw [show G_set z i v = upZ z i v from if_pos ⟨by omega, q1⟩]; by_cases e : j = i; rw [upZ_eq _ _ _ e, e]; omega; rw [upZ_ne _ _ _ e])) kr
        · refine j_bipush G dX5_set_48 (v := (-2)) rfl ?_
          exact j_reti G dX5_set_50 (by have q1 : ¬ (sLo i ≤ v ∧ v ≤ sHi i) := (by unfold sLo sHi; (repeat' split) <;> omega); unfold F_set; rw [if_pos (by omega), if_neg q1]) (by have q1 : ¬ (sLo i ≤ v ∧ v ≤ sHi i) := (by unfold sLo sHi; (repeat' split) <;> omega); have hF : F_set z i v < 0 := (by unfold F_set; rw [if_pos (by omega), if_neg q1]; omega); rw [show G_set z i v = z from if_neg (fun y => q1 y.2), show mPa (F_set z i v) st pa z = pa from if_neg (by omega), show hSz (F_set z i v) st = st from if_neg (by omega)]; exact jLe.rf _) kr
  · refine j_iconst G dX5_set_9 (v := (-1)) rfl ?_
    exact j_reti G dX5_set_10 (by unfold F_set; rw [if_neg (by omega)]) (by have hF : F_set z i v < 0 := (by unfold F_set; rw [if_neg (by omega)]; omega); rw [show G_set z i v = z from if_neg (by omega), show mPa (F_set z i v) st pa z = pa from if_neg (by omega), show hSz (F_set z i v) st = st from if_neg (by omega)]; exact jLe.rf _) kr

set_option maxHeartbeats 4000000 in
set_option maxRecDepth 100000 in
theorem c_X5_whyNotGo (l : Launch) (D : va_G) (Y : Nat → ClassId) (h : Nat) (q : Nat → Nat) (z : Int → Int) (sp : Int → Int) (pa : Int → Int) (st : Int) (ke : Int → Int) (ik : Int) (tx : Int → Int) (ln : Int) (sn : Int) (se : Int) (dn : Int → Int) (up : Int → Int) (fa : Int → Int) (lo : Int → Int) (to : Int → Int) (tm : Int) (so : Int) (k : Int) (p : Int) (hI : Inv z) (h_k : -2147483648 ≤ k ∧ k < 2147483648) (h_p : -2147483648 ≤ p ∧ p < 2147483648) : jM l yX5_whyNotGo wsX5_whyNotGo { frames := 5, cells := 0, slots := 0, locals := 115 } D Y [.ref h, .int (jI k), .int (jI p)] (mV Y h q z sp pa st ke ik tx ln sn se dn up fa lo to tm so) (fun v_ w_ => ∃ (f2 : Int → Int), v_ = some (.int (jI (if (0 ≤ k ∧ k ≤ 2) ∧ (0 ≤ p ∧ p ≤ 63) then (if z (16 + 4 * k) < zWay z k p then -4 else 0) else -1))) ∧ w_ = (mV Y h q z sp pa st ke ik tx ln sn se dn up f2 lo to tm so)) 0 0 := by
  refine jM_of (cc := cX5_whyNotGo) (maxL := 3) (ret := (some .int)) (by decide) rfl (Nat.le_of_ble_eq_true rfl) (fun v w' h => by obtain ⟨_, h⟩ := h; exact Or.inr (Or.inl ⟨_, _, rfl, h.1, rfl⟩)) ?_
  intro x G kr0
  have G : jG x l D Y cX5_whyNotGo RX5 wsX5_whyNotGo 3 ({ frames := 5, cells := 0, slots := 0, locals := 115 } : Room) (some .int) "whyNotGo" := G
  show J x 0 0 (mV Y h q z sp pa st ke ik tx ln sn se dn up fa lo to tm so) 0 [(0, .ref h), (1, .int (jI k)), (2, .int (jI p))] []
  refine j_iload_n G 1 dX5_whyNotGo_0 rfl ?_
  refine j_callS (nA := 1) (As := [.int (jI k)]) (st := []) (wc := []) (wr := (mV Y h q z sp pa st ke ik tx ln sn se dn up fa lo to tm so)) G (c_X5_isCrew l D Y k (by first | assumption | omega)) dX5_whyNotGo_1 rfl gX5_whyNotGo_X5_isCrew rfl rfl rfl (by decide +kernel) ⟨by decide, by decide⟩ rfl (jLe.rf _) (Nat.le_of_ble_eq_true rfl) ⟨Nat.zero_le _, Nat.zero_le _⟩ (fun v_ w_ hp_ => ?_)
  obtain ⟨rfl, rfl⟩ := hp_
  show J x 0 0 (mV Y h q z sp pa st ke ik tx ln sn se dn up fa lo to tm so) 4 [(0, .ref h), (1, .int (jI k)), (2, .int (jI p))] [.int (jI (if 0 ≤ k ∧ k ≤ 2 then 1 else 0))]
  refine j_ifz_eq (tgt := 14) G dX5_whyNotGo_4 (by decide) (fun c4 => ?_) (fun c4 => ?_)
  · refine j_iconst G dX5_whyNotGo_14 (v := (-1)) rfl ?_
    refine j_goto (tgt := 39) G dX5_whyNotGo_15 (by decide) ?_
    exact j_reti G dX5_whyNotGo_39 (by (repeat' split) <;> omega) (jLe.rf _) (kr0 _ _ ⟨fa, rfl, rfl⟩)
  · refine j_iload_n G 2 dX5_whyNotGo_7 rfl ?_
    refine j_callS (nA := 1) (As := [.int (jI p)]) (st := []) (wc := []) (wr := (mV Y h q z sp pa st ke ik tx ln sn se dn up fa lo to tm so)) G (c_X5_isPlot l D Y p (by first | assumption | omega)) dX5_whyNotGo_8 rfl gX5_whyNotGo_X5_isPlot rfl rfl rfl (by decide +kernel) ⟨by decide, by decide⟩ rfl (jLe.rf _) (Nat.le_of_ble_eq_true rfl) ⟨Nat.zero_le _, Nat.zero_le _⟩ (fun v_ w_ hp_ => ?_)
    obtain ⟨rfl, rfl⟩ := hp_
    show J x 0 0 (mV Y h q z sp pa st ke ik tx ln sn se dn up fa lo to tm so) 11 [(0, .ref h), (1, .int (jI k)), (2, .int (jI p))] [.int (jI (if 0 ≤ p ∧ p ≤ 63 then 1 else 0))]
    refine j_ifz_ne (tgt := 18) G dX5_whyNotGo_11 (by decide) (fun c11 => ?_) (fun c11 => ?_)
    · have f18 := zWay_b hI (k := k) (p := p) (by omega) (by omega)
      have f19 := hI.st k (by omega) (by omega)
      refine j_aload_n G 0 dX5_whyNotGo_18 rfl ?_
      refine j_iload_n G 1 dX5_whyNotGo_19 rfl ?_
      refine j_iload_n G 2 dX5_whyNotGo_20 rfl ?_
      refine j_callV (nA := 2) (As := [.int (jI k), .int (jI p)]) (st := []) (wc := (mV Y h q z sp pa st ke ik tx ln sn se dn up fa lo to tm so)) (wr := []) G (c_X5_wayOf l D Y h q z sp pa st ke ik tx ln sn se dn up fa lo to tm so k p (by first | assumption | omega) (by first | assumption | omega) (by first | assumption | omega)) dX5_whyNotGo_21 rfl gX5_whyNotGo_X5_wayOf rfl rfl rfl (by decide +kernel) ⟨by decide, by decide⟩ rfl 0 rfl rfl rfl (jLe.nil (jLe.rf _)) (Nat.le_of_ble_eq_true rfl) ⟨Nat.zero_le _, Nat.zero_le _⟩ (fun v_ w_ hp_ => ?_)
      obtain ⟨rfl, rfl⟩ := hp_
      show J x 0 0 (mV Y h q z sp pa st ke ik tx ln sn se dn up (zW2 z (z (15 + 4 * k))) lo to tm so) 24 [(0, .ref h), (1, .int (jI k)), (2, .int (jI p))] [.int (jI (zWay z k p))]
      refine j_aload_n G 0 dX5_whyNotGo_24 rfl ?_
      refine j_iload_n G 1 dX5_whyNotGo_25 rfl ?_
      refine j_iconst G dX5_whyNotGo_26 (v := 1) rfl ?_
      refine j_callV (nA := 2) (As := [.int (jI k), .int (jI 1)]) (st := [.int (jI (zWay z k p))]) (wc := (mV Y h q z sp pa st ke ik tx ln sn se dn up (zW2 z (z (15 + 4 * k))) lo to tm so)) (wr := []) G (c_X5_of1 l D Y h q z sp pa st ke ik tx ln sn se dn up (zW2 z (z (15 + 4 * k))) lo to tm so k (by first | assumption | omega)) dX5_whyNotGo_27 rfl gX5_whyNotGo_X5_of rfl rfl rfl (by decide +kernel) ⟨by decide, by decide⟩ rfl 0 rfl rfl rfl (jLe.nil (jLe.rf _)) (Nat.le_of_ble_eq_true rfl) ⟨Nat.zero_le _, Nat.zero_le _⟩ (fun v_ w_ hp_ => ?_)
      obtain ⟨rfl, rfl⟩ := hp_
      show J x 0 0 (mV Y h q z sp pa st ke ik tx ln sn se dn up (zW2 z (z (15 + 4 * k))) lo to tm so) 30 [(0, .ref h), (1, .int (jI k)), (2, .int (jI p))] [.int (jI (z (16 + 4 * k))), .int (jI (zWay z k p))]
      refine j_icmp_le (tgt := 38) G dX5_whyNotGo_30 (by decide) (by omega) (by omega) (fun c30 => ?_) (fun c30 => ?_)
      · refine j_iconst G dX5_whyNotGo_38 (v := 0) rfl ?_
        exact j_reti G dX5_whyNotGo_39 (by (repeat' split) <;> omega) (jLe.rf _) (kr0 _ _ ⟨(zW2 z (z (15 + 4 * k))), rfl, rfl⟩)
      · refine j_bipush G dX5_whyNotGo_33 (v := (-4)) rfl ?_
        refine j_goto (tgt := 39) G dX5_whyNotGo_35 (by decide) ?_
        exact j_reti G dX5_whyNotGo_39 (by (repeat' split) <;> omega) (jLe.rf _) (kr0 _ _ ⟨(zW2 z (z (15 + 4 * k))), rfl, rfl⟩)
    · refine j_iconst G dX5_whyNotGo_14 (v := (-1)) rfl ?_
      refine j_goto (tgt := 39) G dX5_whyNotGo_15 (by decide) ?_
      exact j_reti G dX5_whyNotGo_39 (by (repeat' split) <;> omega) (jLe.rf _) (kr0 _ _ ⟨fa, rfl, rfl⟩)

set_option maxHeartbeats 4000000 in
set_option maxRecDepth 100000 in
theorem c_X5_goNow (l : Launch) (D : va_G) (Y : Nat → ClassId) (h : Nat) (q : Nat → Nat) (z : Int → Int) (sp : Int → Int) (pa : Int → Int) (st : Int) (ke : Int → Int) (ik : Int) (tx : Int → Int) (ln : Int) (sn : Int) (se : Int) (dn : Int → Int) (up : Int → Int) (fa : Int → Int) (lo : Int → Int) (to : Int → Int) (tm : Int) (so : Int) (k : Int) (p : Int) (hI : Inv z) (hk : 0 ≤ k ∧ k < 3) (hp : 0 ≤ p ∧ p < 64) : jM l yX5_goNow wsX5_goNow { frames := 5, cells := 0, slots := 0, locals := 115 } D Y [.ref h, .int (jI k), .int (jI p)] (mV Y h q z sp pa st ke ik tx ln sn se dn up fa lo to tm so) (fun v_ w_ => v_ = none ∧ w_ = (mV Y h q (GG z k p) sp pa st ke ik tx ln sn se dn up (zW2 z (z (15 + 4 * k))) lo to tm so)) 0 0 := by
  refine jM_of (cc := cX5_goNow) (maxL := 3) (ret := none) (by decide) rfl (Nat.le_of_ble_eq_true rfl) (fun v w' h => Or.inl ⟨rfl, h.1⟩) ?_
  intro x G kr0
  have kr := kr0 _ _ ⟨rfl, rfl⟩
  have G : jG x l D Y cX5_goNow RX5 wsX5_goNow 3 ({ frames := 5, cells := 0, slots := 0, locals := 115 } : Room) none "goNow" := G
  show J x 0 0 (mV Y h q z sp pa st ke ik tx ln sn se dn up fa lo to tm so) 0 [(0, .ref h), (1, .int (jI k)), (2, .int (jI p))] []
  refine j_aload_n G 0 dX5_goNow_0 rfl ?_
  refine j_iload_n G 1 dX5_goNow_1 rfl ?_
  refine j_iconst G dX5_goNow_2 (v := 1) rfl ?_
  refine j_aload_n G 0 dX5_goNow_3 rfl ?_
  refine j_iload_n G 1 dX5_goNow_4 rfl ?_
  refine j_iconst G dX5_goNow_5 (v := 1) rfl ?_
  refine j_callV (nA := 2) (As := [.int (jI k), .int (jI 1)]) (st := [.int (jI 1), .int (jI k), .ref h]) (wc := (mV Y h q z sp pa st ke ik tx ln sn se dn up fa lo to tm so)) (wr := []) G (c_X5_of1 l D Y h q z sp pa st ke ik tx ln sn se dn up fa lo to tm so k (by first | assumption | omega)) dX5_goNow_6 rfl gX5_goNow_X5_of rfl rfl rfl (by decide +kernel) ⟨by decide, by decide⟩ rfl 0 rfl rfl rfl (jLe.nil (jLe.rf _)) (Nat.le_of_ble_eq_true rfl) ⟨Nat.zero_le _, Nat.zero_le _⟩ (fun v_ w_ hp_ => ?_)
  obtain ⟨rfl, rfl⟩ := hp_
  show J x 0 0 (mV Y h q z sp pa st ke ik tx ln sn se dn up fa lo to tm so) 9 [(0, .ref h), (1, .int (jI k)), (2, .int (jI p))] [.int (jI (z (16 + 4 * k))), .int (jI 1), .int (jI k), .ref h]
  refine j_aload_n G 0 dX5_goNow_9 rfl ?_
  refine j_iload_n G 1 dX5_goNow_10 rfl ?_
  refine j_iload_n G 2 dX5_goNow_11 rfl ?_
  refine j_callV (nA := 2) (As := [.int (jI k), .int (jI p)]) (st := [.int (jI (z (16 + 4 * k))), .int (jI 1), .int (jI k), .ref h]) (wc := (mV Y h q z sp pa st ke ik tx ln sn se dn up fa lo to tm so)) (wr := []) G (c_X5_wayOf l D Y h q z sp pa st ke ik tx ln sn se dn up fa lo to tm so k p (by first | assumption | omega) (by first | assumption | omega) (by first | assumption | omega)) dX5_goNow_12 rfl gX5_goNow_X5_wayOf rfl rfl rfl (by decide +kernel) ⟨by decide, by decide⟩ rfl 0 rfl rfl rfl (jLe.nil (jLe.rf _)) (Nat.le_of_ble_eq_true rfl) ⟨Nat.zero_le _, Nat.zero_le _⟩ (fun v_ w_ hp_ => ?_)
  obtain ⟨rfl, rfl⟩ := hp_
  show J x 0 0 (mV Y h q z sp pa st ke ik tx ln sn se dn up (zW2 z (z (15 + 4 * k))) lo to tm so) 15 [(0, .ref h), (1, .int (jI k)), (2, .int (jI p))] [.int (jI (zWay z k p)), .int (jI (z (16 + 4 * k))), .int (jI 1), .int (jI k), .ref h]
  refine j_isub G dX5_goNow_15 ?_
  refine j_callV (nA := 3) (As := [.int (jI k), .int (jI 1), .int (jI ((z (16 + 4 * k)) - (zWay z k p)))]) (st := []) (wc := (mV Y h q z sp pa st ke ik tx ln sn se dn up (zW2 z (z (15 + 4 * k))) lo to tm so)) (wr := []) G (c_X5_lay1 l D Y h q z sp pa st ke ik tx ln sn se dn up (zW2 z (z (15 + 4 * k))) lo to tm so k ((z (16 + 4 * k)) - (zWay z k p)) (by first | assumption | omega)) dX5_goNow_16 rfl gX5_goNow_X5_lay rfl rfl rfl (by decide +kernel) ⟨by decide, by decide⟩ rfl 0 rfl rfl rfl (jLe.nil (jLe.rf _)) (Nat.le_of_ble_eq_true rfl) ⟨Nat.zero_le _, Nat.zero_le _⟩ (fun v_ w_ hp_ => ?_)
  obtain ⟨rfl, rfl⟩ := hp_
  show J x 0 0 (mV Y h q (upZ z (16 + 4 * k) ((z (16 + 4 * k)) - (zWay z k p))) sp pa st ke ik tx ln sn se dn up (zW2 z (z (15 + 4 * k))) lo to tm so) 19 [(0, .ref h), (1, .int (jI k)), (2, .int (jI p))] []
  refine j_aload_n G 0 dX5_goNow_19 rfl ?_
  refine j_iload_n G 1 dX5_goNow_20 rfl ?_
  refine j_iconst G dX5_goNow_21 (v := 0) rfl ?_
  refine j_iload_n G 2 dX5_goNow_22 rfl ?_
  refine j_callV (nA := 3) (As := [.int (jI k), .int (jI 0), .int (jI p)]) (st := []) (wc := (mV Y h q (upZ z (16 + 4 * k) ((z (16 + 4 * k)) - (zWay z k p))) sp pa st ke ik tx ln sn se dn up (zW2 z (z (15 + 4 * k))) lo to tm so)) (wr := []) G (c_X5_lay0 l D Y h q (upZ z (16 + 4 * k) ((z (16 + 4 * k)) - (zWay z k p))) sp pa st ke ik tx ln sn se dn up (zW2 z (z (15 + 4 * k))) lo to tm so k p (by first | assumption | omega)) dX5_goNow_23 rfl gX5_goNow_X5_lay rfl rfl rfl (by decide +kernel) ⟨by decide, by decide⟩ rfl 0 rfl rfl rfl (jLe.nil (jLe.rf _)) (Nat.le_of_ble_eq_true rfl) ⟨Nat.zero_le _, Nat.zero_le _⟩ (fun v_ w_ hp_ => ?_)
  obtain ⟨rfl, rfl⟩ := hp_
  show J x 0 0 (mV Y h q (upZ (upZ z (16 + 4 * k) ((z (16 + 4 * k)) - (zWay z k p))) (15 + 4 * k) p) sp pa st ke ik tx ln sn se dn up (zW2 z (z (15 + 4 * k))) lo to tm so) 26 [(0, .ref h), (1, .int (jI k)), (2, .int (jI p))] []
  exact j_retv G dX5_goNow_26 (jLe.rf _) kr

set_option maxHeartbeats 4000000 in
set_option maxRecDepth 100000 in
theorem c_X5_go (l : Launch) (D : va_G) (Y : Nat → ClassId) (h : Nat) (q : Nat → Nat) (z : Int → Int) (sp : Int → Int) (pa : Int → Int) (st : Int) (ke : Int → Int) (ik : Int) (tx : Int → Int) (ln : Int) (sn : Int) (se : Int) (dn : Int → Int) (up : Int → Int) (fa : Int → Int) (lo : Int → Int) (to : Int → Int) (tm : Int) (so : Int) (k : Int) (p : Int) (hI : Inv z) (hst : 0 ≤ st ∧ st ≤ 4) (h_k : -2147483648 ≤ k ∧ k < 2147483648) (h_p : -2147483648 ≤ p ∧ p < 2147483648) : jM l yX5_go wsX5_go { frames := 6, cells := 0, slots := 0, locals := 137 } D Y [.ref h, .int (jI k), .int (jI p)] (mV Y h q z sp pa st ke ik tx ln sn se dn up fa lo to tm so) (fun v_ w_ => ∃ (f2 : Int → Int), v_ = some (.int (jI (F_go z k p))) ∧ w_ = (mV Y h q (G_go z k p) sp (mPa (F_go z k p) st pa z) (hSz (F_go z k p) st) ke ik tx ln sn se dn up f2 lo to tm so)) 0 0 := by
  refine jM_of (cc := cX5_go) (maxL := 4) (ret := (some .int)) (by decide) rfl (Nat.le_of_ble_eq_true rfl) (fun v w' h => by obtain ⟨_, h⟩ := h; exact Or.inr (Or.inl ⟨_, _, rfl, h.1, rfl⟩)) ?_
  intro x G kr0
  have G : jG x l D Y cX5_go RX5 wsX5_go 4 ({ frames := 6, cells := 0, slots := 0, locals := 137 } : Room) (some .int) "go" := G
  show J x 0 0 (mV Y h q z sp pa st ke ik tx ln sn se dn up fa lo to tm so) 0 [(0, .ref h), (1, .int (jI k)), (2, .int (jI p))] []
  refine j_aload_n G 0 dX5_go_0 rfl ?_
  refine j_iload_n G 1 dX5_go_1 rfl ?_
  refine j_iload_n G 2 dX5_go_2 rfl ?_
  refine j_callV (nA := 2) (As := [.int (jI k), .int (jI p)]) (st := []) (wc := (mV Y h q z sp pa st ke ik tx ln sn se dn up fa lo to tm so)) (wr := []) G (c_X5_whyNotGo l D Y h q z sp pa st ke ik tx ln sn se dn up fa lo to tm so k p (by first | assumption | omega) (by first | assumption | omega) (by first | assumption | omega)) dX5_go_3 rfl gX5_go_X5_whyNotGo rfl rfl rfl (by decide +kernel) ⟨by decide, by decide⟩ rfl 0 rfl rfl rfl (jLe.nil (jLe.rf _)) (Nat.le_of_ble_eq_true rfl) ⟨Nat.zero_le _, Nat.zero_le _⟩ (fun v_ w_ hp_ => ?_)
  obtain ⟨f2_1, rfl, rfl⟩ := hp_
  show J x 0 0 (mV Y h q z sp pa st ke ik tx ln sn se dn up f2_1 lo to tm so) 6 [(0, .ref h), (1, .int (jI k)), (2, .int (jI p))] [.int (jI (if (0 ≤ k ∧ k ≤ 2) ∧ (0 ≤ p ∧ p ≤ 63) then (if z (16 + 4 * k) < zWay z k p then -4 else 0) else -1))]
  obtain ⟨e0, e_e0, h_e0⟩ : ∃ y : Int, y = (if (0 ≤ k ∧ k ≤ 2) ∧ (0 ≤ p ∧ p ≤ 63) then (if z (16 + 4 * k) < zWay z k p then -4 else 0) else -1) ∧ ((y = 0 ∧ ((0 ≤ k ∧ k ≤ 2) ∧ (0 ≤ p ∧ p ≤ 63)) ∧ zWay z k p ≤ z (16 + 4 * k)) ∨ (y < 0 ∧ y = F_go z k p ∧ ¬ (((0 ≤ k ∧ k ≤ 2) ∧ (0 ≤ p ∧ p ≤ 63)) ∧ zWay z k p ≤ z (16 + 4 * k)))) := ⟨_, rfl, by unfold F_go; (repeat' split) <;> omega⟩
  rw [← e_e0]
  refine j_istore_n (lv' := [(3, .int (jI e0)), (0, .ref h), (1, .int (jI k)), (2, .int (jI p))]) G dX5_go_6 (by decide) rfl ?_
  refine j_iload_n G 0 dX5_go_7 rfl ?_
  refine j_if_ge (tgt := 13) G dX5_go_8 (by decide) (by omega) (fun c8 => ?_) (fun c8 => ?_)
  · have f18 := zWay_b hI (k := k) (p := p) (by omega) (by omega)
    have f19 := hI.st k (by omega) (by omega)
    have f20 := hI.pl k (by omega) (by omega)
    have hF : F_go z k p = if z (15 + 4 * k) = p then -5 else z (16 + 4 * k) - zWay z k p := by unfold F_go; rw [if_pos (by omega), if_neg (by omega)]
    refine j_aload_n G 1 dX5_go_13 rfl ?_
    refine j_iload_n G 2 dX5_go_14 rfl ?_
    refine j_iconst G dX5_go_15 (v := 0) rfl ?_
    refine j_callV (nA := 2) (As := [.int (jI k), .int (jI 0)]) (st := []) (wc := (mV Y h q z sp pa st ke ik tx ln sn se dn up f2_1 lo to tm so)) (wr := []) G (c_X5_of0 l D Y h q z sp pa st ke ik tx ln sn se dn up f2_1 lo to tm so k (by first | assumption | omega)) dX5_go_16 rfl gX5_go_X5_of rfl rfl rfl (by decide +kernel) ⟨by decide, by decide⟩ rfl 0 rfl rfl rfl (jLe.nil (jLe.rf _)) (Nat.le_of_ble_eq_true rfl) ⟨Nat.zero_le _, Nat.zero_le _⟩ (fun v_ w_ hp_ => ?_)
    obtain ⟨rfl, rfl⟩ := hp_
    show J x 0 0 (mV Y h q z sp pa st ke ik tx ln sn se dn up f2_1 lo to tm so) 19 [(3, .int (jI e0)), (0, .ref h), (1, .int (jI k)), (2, .int (jI p))] [.int (jI (z (15 + 4 * k)))]
    refine j_iload_n G 3 dX5_go_19 rfl ?_
    refine j_icmp_ne (tgt := 26) G dX5_go_20 (by decide) (by omega) (by omega) (fun c20 => ?_) (fun c20 => ?_)
    · refine j_aload_n G 1 dX5_go_26 rfl ?_
      refine j_callV (nA := 0) (As := []) (st := []) (wc := (mV Y h q z sp pa st ke ik tx ln sn se dn up f2_1 lo to tm so)) (wr := []) G (c_X5_record l D Y h q z sp pa st ke ik tx ln sn se dn up f2_1 lo to tm so (by first | assumption | omega)) dX5_go_27 rfl gX5_go_X5_record rfl rfl rfl (by decide +kernel) ⟨by decide, by decide⟩ rfl 0 rfl rfl rfl (jLe.nil (jLe.rf _)) (Nat.le_of_ble_eq_true rfl) ⟨Nat.zero_le _, Nat.zero_le _⟩ (fun v_ w_ hp_ => ?_)
      obtain ⟨rfl, rfl⟩ := hp_
      show J x 0 0 (mV Y h q z sp (paP st pa z) (hUp st) ke ik tx ln sn se dn up f2_1 lo to tm so) 30 [(3, .int (jI e0)), (0, .ref h), (1, .int (jI k)), (2, .int (jI p))] []
      refine j_aload_n G 1 dX5_go_30 rfl ?_
      refine j_iload_n G 2 dX5_go_31 rfl ?_
      refine j_iload_n G 3 dX5_go_32 rfl ?_
      refine j_callV (nA := 2) (As := [.int (jI k), .int (jI p)]) (st := []) (wc := (mV Y h q z sp (paP st pa z) (hUp st) ke ik tx ln sn se dn up f2_1 lo to tm so)) (wr := []) G (c_X5_goNow l D Y h q z sp (paP st pa z) (hUp st) ke ik tx ln sn se dn up f2_1 lo to tm so k p (by first | assumption | omega) (by first | assumption | omega) (by first | assumption | omega)) dX5_go_33 rfl gX5_go_X5_goNow rfl rfl rfl (by decide +kernel) ⟨by decide, by decide⟩ rfl 0 rfl rfl rfl (jLe.nil (jLe.rf _)) (Nat.le_of_ble_eq_true rfl) ⟨Nat.zero_le _, Nat.zero_le _⟩ (fun v_ w_ hp_ => ?_)
      obtain ⟨rfl, rfl⟩ := hp_
      show J x 0 0 (mV Y h q (GG z k p) sp (paP st pa z) (hUp st) ke ik tx ln sn se dn up (zW2 z (z (15 + 4 * k))) lo to tm so) 36 [(3, .int (jI e0)), (0, .ref h), (1, .int (jI k)), (2, .int (jI p))] []
      refine j_aload_n G 1 dX5_go_36 rfl ?_
      refine j_iload_n G 2 dX5_go_37 rfl ?_
      refine j_iconst G dX5_go_38 (v := 1) rfl ?_
      refine j_callV (nA := 2) (As := [.int (jI k), .int (jI 1)]) (st := []) (wc := (mV Y h q (GG z k p) sp (paP st pa z) (hUp st) ke ik tx ln sn se dn up (zW2 z (z (15 + 4 * k))) lo to tm so)) (wr := []) G (c_X5_of1 l D Y h q (GG z k p) sp (paP st pa z) (hUp st) ke ik tx ln sn se dn up (zW2 z (z (15 + 4 * k))) lo to tm so k (by first | assumption | omega)) dX5_go_39 rfl gX5_go_X5_of rfl rfl rfl (by decide +kernel) ⟨by decide, by decide⟩ rfl 0 rfl rfl rfl (jLe.nil (jLe.rf _)) (Nat.le_of_ble_eq_true rfl) ⟨Nat.zero_le _, Nat.zero_le _⟩ (fun v_ w_ hp_ => ?_)
      obtain ⟨rfl, rfl⟩ := hp_
      show J x 0 0 (mV Y h q (GG z k p) sp (paP st pa z) (hUp st) ke ik tx ln sn se dn up (zW2 z (z (15 + 4 * k))) lo to tm so) 42 [(3, .int (jI e0)), (0, .ref h), (1, .int (jI k)), (2, .int (jI p))] [.int (jI ((GG z k p) (16 + 4 * k)))]
      exact j_reti G dX5_go_42 (by rw [hF, if_neg c20]; unfold GG; rw [upZ_ne _ _ _ (by omega), upZ_eq _ _ _ rfl]) (by rw [if_neg c20] at hF; rw [show G_go z k p = GG z k p from if_pos (by omega), show mPa (F_go z k p) st pa z = paP st pa z from if_pos (by omega), show hSz (F_go z k p) st = hUp st from if_pos (by omega)]; exact jLe.rf _) (kr0 _ _ ⟨(zW2 z (z (15 + 4 * k))), rfl, rfl⟩)
    · refine j_bipush G dX5_go_23 (v := (-5)) rfl ?_
      exact j_reti G dX5_go_25 (by rw [hF, if_pos c20]) (by rw [if_pos c20] at hF; have e0 := zWay_0 (z := z) (k := k) (p := p) c20; rw [show G_go z k p = GG z k p from if_pos (by omega), show mPa (F_go z k p) st pa z = pa from if_neg (by omega), show hSz (F_go z k p) st = st from if_neg (by omega)]; exact mV_zl (fun j h0 h1 => by simp only [GG, e0, upZ]; (repeat' split) <;> first | rfl | omega | grind)) (kr0 _ _ ⟨f2_1, rfl, rfl⟩)
  · refine j_iload_n G 0 dX5_go_11 rfl ?_
    exact j_reti G dX5_go_12 (by omega) (by have hF : F_go z k p < 0 := (by omega); rw [show G_go z k p = z from if_neg (by omega), show mPa (F_go z k p) st pa z = pa from if_neg (by omega), show hSz (F_go z k p) st = st from if_neg (by omega)]; exact jLe.rf _) (kr0 _ _ ⟨f2_1, rfl, rfl⟩)

set_option maxHeartbeats 4000000 in
set_option maxRecDepth 100000 in
theorem c_X5_whyNotFell (l : Launch) (D : va_G) (Y : Nat → ClassId) (h : Nat) (q : Nat → Nat) (z : Int → Int) (sp : Int → Int) (pa : Int → Int) (st : Int) (ke : Int → Int) (ik : Int) (tx : Int → Int) (ln : Int) (sn : Int) (se : Int) (dn : Int → Int) (up : Int → Int) (fa : Int → Int) (lo : Int → Int) (to : Int → Int) (tm : Int) (so : Int) (k : Int) (hI : Inv z) (h_k : -2147483648 ≤ k ∧ k < 2147483648) : jM l yX5_whyNotFell wsX5_whyNotFell { frames := 2, cells := 0, slots := 0, locals := 42 } D Y [.ref h, .int (jI k)] (mV Y h q z sp pa st ke ik tx ln sn se dn up fa lo to tm so) (fun v_ w_ => v_ = some (.int (jI (if 0 ≤ k ∧ k ≤ 2 then (if z (16 + 4 * k) < z 2 then -4 else 0) else -1))) ∧ w_ = (mV Y h q z sp pa st ke ik tx ln sn se dn up fa lo to tm so)) 0 0 := by
  refine jM_of (cc := cX5_whyNotFell) (maxL := 2) (ret := (some .int)) (by decide) rfl (Nat.le_of_ble_eq_true rfl) (fun v w' h => Or.inr (Or.inl ⟨_, _, rfl, h.1, rfl⟩)) ?_
  intro x G kr0
  have kr := kr0 _ _ ⟨rfl, rfl⟩
  have G : jG x l D Y cX5_whyNotFell RX5 wsX5_whyNotFell 2 ({ frames := 2, cells := 0, slots := 0, locals := 42 } : Room) (some .int) "whyNotFell" := G
  have hinX5 : ∀ w ∈ wsX50, w ∈ wsX5_whyNotFell := fun _ h => List.mem_cons_of_mem _ (List.mem_append_right _ h)
  show J x 0 0 (mV Y h q z sp pa st ke ik tx ln sn se dn up fa lo to tm so) 0 [(0, .ref h), (1, .int (jI k))] []
  refine j_iload_n G 1 dX5_whyNotFell_0 rfl ?_
  refine j_callS (nA := 1) (As := [.int (jI k)]) (st := []) (wc := []) (wr := (mV Y h q z sp pa st ke ik tx ln sn se dn up fa lo to tm so)) G (c_X5_isCrew l D Y k (by first | assumption | omega)) dX5_whyNotFell_1 rfl gX5_whyNotFell_X5_isCrew rfl rfl rfl (by decide +kernel) ⟨by decide, by decide⟩ rfl (jLe.rf _) (Nat.le_of_ble_eq_true rfl) ⟨Nat.zero_le _, Nat.zero_le _⟩ (fun v_ w_ hp_ => ?_)
  obtain ⟨rfl, rfl⟩ := hp_
  show J x 0 0 (mV Y h q z sp pa st ke ik tx ln sn se dn up fa lo to tm so) 4 [(0, .ref h), (1, .int (jI k))] [.int (jI (if 0 ≤ k ∧ k ≤ 2 then 1 else 0))]
  refine j_ifz_ne (tgt := 11) G dX5_whyNotFell_4 (by decide) (fun c4 => ?_) (fun c4 => ?_)
  · have f0 := hI.st k (by omega) (by omega)
    have f1 := hI.s2
    refine j_aload_n G 0 dX5_whyNotFell_11 rfl ?_
    refine j_iload_n G 1 dX5_whyNotFell_12 rfl ?_
    refine j_iconst G dX5_whyNotFell_13 (v := 1) rfl ?_
    refine j_callV (nA := 2) (As := [.int (jI k), .int (jI 1)]) (st := []) (wc := (mV Y h q z sp pa st ke ik tx ln sn se dn up fa lo to tm so)) (wr := []) G (c_X5_of1 l D Y h q z sp pa st ke ik tx ln sn se dn up fa lo to tm so k (by first | assumption | omega)) dX5_whyNotFell_14 rfl gX5_whyNotFell_X5_of rfl rfl rfl (by decide +kernel) ⟨by decide, by decide⟩ rfl 0 rfl rfl rfl (jLe.nil (jLe.rf _)) (Nat.le_of_ble_eq_true rfl) ⟨Nat.zero_le _, Nat.zero_le _⟩ (fun v_ w_ hp_ => ?_)
    obtain ⟨rfl, rfl⟩ := hp_
    show J x 0 0 (mV Y h q z sp pa st ke ik tx ln sn se dn up fa lo to tm so) 17 [(0, .ref h), (1, .int (jI k))] [.int (jI (z (16 + 4 * k)))]
    refine j_aload_n G 0 dX5_whyNotFell_17 rfl ?_
    refine j_get (q := 0) (C := RX5) (T := TX5) (N := 17) (v := .ref (q 0)) G 0 hinX5 dX5_whyNotFell_18 rfl rfl (by decide) (by decide +kernel) rfl ?_
    refine j_iconst G dX5_whyNotFell_21 (v := 2) rfl ?_
    refine j_iald (v := z 2) G 1 dX5_whyNotFell_22 rfl (by omega) rfl ?_
    refine j_icmp_ge (tgt := 31) G dX5_whyNotFell_23 (by decide) (by omega) (by omega) (fun c23 => ?_) (fun c23 => ?_)
    · refine j_iconst G dX5_whyNotFell_31 (v := 0) rfl ?_
      exact j_reti G dX5_whyNotFell_32 (by (repeat' split) <;> omega) (jLe.rf _) kr
    · refine j_bipush G dX5_whyNotFell_26 (v := (-4)) rfl ?_
      refine j_goto (tgt := 32) G dX5_whyNotFell_28 (by decide) ?_
      exact j_reti G dX5_whyNotFell_32 (by (repeat' split) <;> omega) (jLe.rf _) kr
  · refine j_iconst G dX5_whyNotFell_7 (v := (-1)) rfl ?_
    refine j_goto (tgt := 32) G dX5_whyNotFell_8 (by decide) ?_
    exact j_reti G dX5_whyNotFell_32 (by (repeat' split) <;> omega) (jLe.rf _) kr

set_option maxHeartbeats 4000000 in
set_option maxRecDepth 100000 in
theorem c_X5_fellNow (l : Launch) (D : va_G) (Y : Nat → ClassId) (h : Nat) (q : Nat → Nat) (z : Int → Int) (sp : Int → Int) (pa : Int → Int) (st : Int) (ke : Int → Int) (ik : Int) (tx : Int → Int) (ln : Int) (sn : Int) (se : Int) (dn : Int → Int) (up : Int → Int) (fa : Int → Int) (lo : Int → Int) (to : Int → Int) (tm : Int) (so : Int) (k : Int) (hI : Inv z) (hk : 0 ≤ k ∧ k < 3) : jM l yX5_fellNow wsX5_fellNow { frames := 1, cells := 0, slots := 0, locals := 23 } D Y [.ref h, .int (jI k)] (mV Y h q z sp pa st ke ik tx ln sn se dn up fa lo to tm so) (fun v_ w_ => v_ = some (.int (jI (z (28 + z (15 + 4 * k))))) ∧ w_ = (mV Y h q (if 0 < z (28 + z (15 + 4 * k)) then GF z k else z) sp pa st ke ik tx ln sn se dn up fa lo to tm so)) 0 0 := by
  refine jM_of (cc := cX5_fellNow) (maxL := 4) (ret := (some .int)) (by decide) rfl (Nat.le_of_ble_eq_true rfl) (fun v w' h => Or.inr (Or.inl ⟨_, _, rfl, h.1, rfl⟩)) ?_
  intro x G kr0
  have kr := kr0 _ _ ⟨rfl, rfl⟩
  have G : jG x l D Y cX5_fellNow RX5 wsX5_fellNow 4 ({ frames := 1, cells := 0, slots := 0, locals := 23 } : Room) (some .int) "fellNow" := G
  have hinX5 : ∀ w ∈ wsX50, w ∈ wsX5_fellNow := fun _ h => List.mem_cons_of_mem _ (List.mem_append_right _ h)
  have f0 := hI.pl k hk.1 hk.2
  have f1 := hI.wo (z (15 + 4 * k)) (by omega) (by omega)
  show J x 0 0 (mV Y h q z sp pa st ke ik tx ln sn se dn up fa lo to tm so) 0 [(0, .ref h), (1, .int (jI k))] []
  refine j_aload_n G 0 dX5_fellNow_0 rfl ?_
  refine j_iload_n G 1 dX5_fellNow_1 rfl ?_
  refine j_iconst G dX5_fellNow_2 (v := 0) rfl ?_
  refine j_callV (nA := 2) (As := [.int (jI k), .int (jI 0)]) (st := []) (wc := (mV Y h q z sp pa st ke ik tx ln sn se dn up fa lo to tm so)) (wr := []) G (c_X5_of0 l D Y h q z sp pa st ke ik tx ln sn se dn up fa lo to tm so k (by first | assumption | omega)) dX5_fellNow_3 rfl gX5_fellNow_X5_of rfl rfl rfl (by decide +kernel) ⟨by decide, by decide⟩ rfl 0 rfl rfl rfl (jLe.nil (jLe.rf _)) (Nat.le_of_ble_eq_true rfl) ⟨Nat.zero_le _, Nat.zero_le _⟩ (fun v_ w_ hp_ => ?_)
  obtain ⟨rfl, rfl⟩ := hp_
  show J x 0 0 (mV Y h q z sp pa st ke ik tx ln sn se dn up fa lo to tm so) 6 [(0, .ref h), (1, .int (jI k))] [.int (jI (z (15 + 4 * k)))]
  refine j_istore_n (lv' := [(2, .int (jI (z (15 + 4 * k)))), (0, .ref h), (1, .int (jI k))]) G dX5_fellNow_6 (by decide) rfl ?_
  refine j_aload_n G 1 dX5_fellNow_7 rfl ?_
  refine j_get (q := 0) (C := RX5) (T := TX5) (N := 17) (v := .ref (q 0)) G 0 hinX5 dX5_fellNow_8 rfl rfl (by decide) (by decide +kernel) rfl ?_
  refine j_bipush G dX5_fellNow_11 (v := 28) rfl ?_
  refine j_iload_n G 0 dX5_fellNow_13 rfl ?_
  refine j_iadd G dX5_fellNow_14 ?_
  refine j_iald (v := z (28 + (z (15 + 4 * k)))) G 1 dX5_fellNow_15 rfl (by omega) rfl ?_
  refine j_istore_n (lv' := [(3, .int (jI (z (28 + (z (15 + 4 * k)))))), (2, .int (jI (z (15 + 4 * k)))), (0, .ref h), (1, .int (jI k))]) G dX5_fellNow_16 (by decide) rfl ?_
  refine j_iload_n G 0 dX5_fellNow_17 rfl ?_
  refine j_if_le (tgt := 89) G dX5_fellNow_18 (by decide) (by omega) (fun c18 => ?_) (fun c18 => ?_)
  · refine j_iload_n G 0 dX5_fellNow_89 rfl ?_
    exact j_reti G dX5_fellNow_90 (by first | rfl | omega | exact ite_T (by omega) | exact ite_F (by omega)) (by first | (rw [if_pos (show 0 < z (28 + z (15 + 4 * k)) by omega)]; exact mV_zl (fun j h0 h1 => by simp only [GF, upZ]; (repeat' split) <;> first | rfl | omega | grind)) | (rw [if_neg (by omega)]; exact jLe.rf _)) kr
  · refine j_aload_n G 2 dX5_fellNow_21 rfl ?_
    refine j_get (q := 0) (C := RX5) (T := TX5) (N := 17) (v := .ref (q 0)) G 0 hinX5 dX5_fellNow_22 rfl rfl (by decide) (by decide +kernel) rfl ?_
    refine j_bipush G dX5_fellNow_25 (v := 28) rfl ?_
    refine j_iload_n G 1 dX5_fellNow_27 rfl ?_
    refine j_iadd G dX5_fellNow_28 ?_
    refine j_iconst G dX5_fellNow_29 (v := 0) rfl ?_
    refine j_iast (ws' := mV Y h q (upZ z (28 + (z (15 + 4 * k))) 0) sp pa st ke ik tx ln sn se dn up fa lo to tm so) G 1 dX5_fellNow_30 rfl (by omega) rfl ?_
    refine j_aload_n G 2 dX5_fellNow_31 rfl ?_
    refine j_get (q := 0) (C := RX5) (T := TX5) (N := 17) (v := .ref (q 0)) G 0 hinX5 dX5_fellNow_32 rfl rfl (by decide) (by decide +kernel) rfl ?_
    refine j_sipush G dX5_fellNow_35 (v := 156) rfl ?_
    refine j_iload_n G 1 dX5_fellNow_38 rfl ?_
    refine j_iadd G dX5_fellNow_39 ?_
    refine j_iconst G dX5_fellNow_40 (v := 1) rfl ?_
    refine j_iast (ws' := mV Y h q (upZ (upZ z (28 + (z (15 + 4 * k))) 0) (156 + (z (15 + 4 * k))) 1) sp pa st ke ik tx ln sn se dn up fa lo to tm so) G 1 dX5_fellNow_41 rfl (by omega) rfl ?_
    refine j_aload_n G 2 dX5_fellNow_42 rfl ?_
    refine j_iload_n G 3 dX5_fellNow_43 rfl ?_
    refine j_iconst G dX5_fellNow_44 (v := 1) rfl ?_
    refine j_aload_n G 2 dX5_fellNow_45 rfl ?_
    refine j_iload_n G 3 dX5_fellNow_46 rfl ?_
    refine j_iconst G dX5_fellNow_47 (v := 1) rfl ?_
    refine j_callV (nA := 2) (As := [.int (jI k), .int (jI 1)]) (st := [.int (jI 1), .int (jI k), .ref h]) (wc := (mV Y h q (upZ (upZ z (28 + (z (15 + 4 * k))) 0) (156 + (z (15 + 4 * k))) 1) sp pa st ke ik tx ln sn se dn up fa lo to tm so)) (wr := []) G (c_X5_of1 l D Y h q (upZ (upZ z (28 + (z (15 + 4 * k))) 0) (156 + (z (15 + 4 * k))) 1) sp pa st ke ik tx ln sn se dn up fa lo to tm so k (by first | assumption | omega)) dX5_fellNow_48 rfl gX5_fellNow_X5_of rfl rfl rfl (by decide +kernel) ⟨by decide, by decide⟩ rfl 0 rfl rfl rfl (jLe.nil (jLe.rf _)) (Nat.le_of_ble_eq_true rfl) ⟨Nat.zero_le _, Nat.zero_le _⟩ (fun v_ w_ hp_ => ?_)
    obtain ⟨rfl, rfl⟩ := hp_
    show J x 0 0 (mV Y h q (upZ (upZ z (28 + (z (15 + 4 * k))) 0) (156 + (z (15 + 4 * k))) 1) sp pa st ke ik tx ln sn se dn up fa lo to tm so) 51 [(3, .int (jI (z (28 + (z (15 + 4 * k)))))), (2, .int (jI (z (15 + 4 * k)))), (0, .ref h), (1, .int (jI k))] [.int (jI ((upZ (upZ z (28 + (z (15 + 4 * k))) 0) (156 + (z (15 + 4 * k))) 1) (16 + 4 * k))), .int (jI 1), .int (jI k), .ref h]
    refine j_aload_n G 2 dX5_fellNow_51 rfl ?_
    refine j_get (q := 0) (C := RX5) (T := TX5) (N := 17) (v := .ref (q 0)) G 0 hinX5 dX5_fellNow_52 rfl rfl (by decide) (by decide +kernel) rfl ?_
    refine j_iconst G dX5_fellNow_55 (v := 2) rfl ?_
    refine j_iald (v := (upZ (upZ z (28 + (z (15 + 4 * k))) 0) (156 + (z (15 + 4 * k))) 1) 2) G 1 dX5_fellNow_56 rfl (by omega) rfl ?_
    refine j_isub G dX5_fellNow_57 ?_
    refine j_callV (nA := 3) (As := [.int (jI k), .int (jI 1), .int (jI (((upZ (upZ z (28 + (z (15 + 4 * k))) 0) (156 + (z (15 + 4 * k))) 1) (16 + 4 * k)) - ((upZ (upZ z (28 + (z (15 + 4 * k))) 0) (156 + (z (15 + 4 * k))) 1) 2)))]) (st := []) (wc := (mV Y h q (upZ (upZ z (28 + (z (15 + 4 * k))) 0) (156 + (z (15 + 4 * k))) 1) sp pa st ke ik tx ln sn se dn up fa lo to tm so)) (wr := []) G (c_X5_lay1 l D Y h q (upZ (upZ z (28 + (z (15 + 4 * k))) 0) (156 + (z (15 + 4 * k))) 1) sp pa st ke ik tx ln sn se dn up fa lo to tm so k (((upZ (upZ z (28 + (z (15 + 4 * k))) 0) (156 + (z (15 + 4 * k))) 1) (16 + 4 * k)) - ((upZ (upZ z (28 + (z (15 + 4 * k))) 0) (156 + (z (15 + 4 * k))) 1) 2)) (by first | assumption | omega)) dX5_fellNow_58 rfl gX5_fellNow_X5_lay rfl rfl rfl (by decide +kernel) ⟨by decide, by decide⟩ rfl 0 rfl rfl rfl (jLe.nil (jLe.rf _)) (Nat.le_of_ble_eq_true rfl) ⟨Nat.zero_le _, Nat.zero_le _⟩ (fun v_ w_ hp_ => ?_)
    obtain ⟨rfl, rfl⟩ := hp_
    show J x 0 0 (mV Y h q (upZ (upZ (upZ z (28 + (z (15 + 4 * k))) 0) (156 + (z (15 + 4 * k))) 1) (16 + 4 * k) (((upZ (upZ z (28 + (z (15 + 4 * k))) 0) (156 + (z (15 + 4 * k))) 1) (16 + 4 * k)) - ((upZ (upZ z (28 + (z (15 + 4 * k))) 0) (156 + (z (15 + 4 * k))) 1) 2))) sp pa st ke ik tx ln sn se dn up fa lo to tm so) 61 [(3, .int (jI (z (28 + (z (15 + 4 * k)))))), (2, .int (jI (z (15 + 4 * k)))), (0, .ref h), (1, .int (jI k))] []
    refine j_aload_n G 2 dX5_fellNow_61 rfl ?_
    refine j_iload_n G 3 dX5_fellNow_62 rfl ?_
    refine j_iconst G dX5_fellNow_63 (v := 2) rfl ?_
    refine j_aload_n G 2 dX5_fellNow_64 rfl ?_
    refine j_iload_n G 3 dX5_fellNow_65 rfl ?_
    refine j_iconst G dX5_fellNow_66 (v := 2) rfl ?_
    refine j_callV (nA := 2) (As := [.int (jI k), .int (jI 2)]) (st := [.int (jI 2), .int (jI k), .ref h]) (wc := (mV Y h q (upZ (upZ (upZ z (28 + (z (15 + 4 * k))) 0) (156 + (z (15 + 4 * k))) 1) (16 + 4 * k) (((upZ (upZ z (28 + (z (15 + 4 * k))) 0) (156 + (z (15 + 4 * k))) 1) (16 + 4 * k)) - ((upZ (upZ z (28 + (z (15 + 4 * k))) 0) (156 + (z (15 + 4 * k))) 1) 2))) sp pa st ke ik tx ln sn se dn up fa lo to tm so)) (wr := []) G (c_X5_of2 l D Y h q (upZ (upZ (upZ z (28 + (z (15 + 4 * k))) 0) (156 + (z (15 + 4 * k))) 1) (16 + 4 * k) (((upZ (upZ z (28 + (z (15 + 4 * k))) 0) (156 + (z (15 + 4 * k))) 1) (16 + 4 * k)) - ((upZ (upZ z (28 + (z (15 + 4 * k))) 0) (156 + (z (15 + 4 * k))) 1) 2))) sp pa st ke ik tx ln sn se dn up fa lo to tm so k (by first | assumption | omega)) dX5_fellNow_67 rfl gX5_fellNow_X5_of rfl rfl rfl (by decide +kernel) ⟨by decide, by decide⟩ rfl 0 rfl rfl rfl (jLe.nil (jLe.rf _)) (Nat.le_of_ble_eq_true rfl) ⟨Nat.zero_le _, Nat.zero_le _⟩ (fun v_ w_ hp_ => ?_)
    obtain ⟨rfl, rfl⟩ := hp_
    show J x 0 0 (mV Y h q (upZ (upZ (upZ z (28 + (z (15 + 4 * k))) 0) (156 + (z (15 + 4 * k))) 1) (16 + 4 * k) (((upZ (upZ z (28 + (z (15 + 4 * k))) 0) (156 + (z (15 + 4 * k))) 1) (16 + 4 * k)) - ((upZ (upZ z (28 + (z (15 + 4 * k))) 0) (156 + (z (15 + 4 * k))) 1) 2))) sp pa st ke ik tx ln sn se dn up fa lo to tm so) 70 [(3, .int (jI (z (28 + (z (15 + 4 * k)))))), (2, .int (jI (z (15 + 4 * k)))), (0, .ref h), (1, .int (jI k))] [.int (jI ((upZ (upZ (upZ z (28 + (z (15 + 4 * k))) 0) (156 + (z (15 + 4 * k))) 1) (16 + 4 * k) (((upZ (upZ z (28 + (z (15 + 4 * k))) 0) (156 + (z (15 + 4 * k))) 1) (16 + 4 * k)) - ((upZ (upZ z (28 + (z (15 + 4 * k))) 0) (156 + (z (15 + 4 * k))) 1) 2))) (17 + 4 * k))), .int (jI 2), .int (jI k), .ref h]
    refine j_iload_n G 0 dX5_fellNow_70 rfl ?_
    refine j_iadd G dX5_fellNow_71 ?_
    refine j_callV (nA := 3) (As := [.int (jI k), .int (jI 2), .int (jI (((upZ (upZ (upZ z (28 + (z (15 + 4 * k))) 0) (156 + (z (15 + 4 * k))) 1) (16 + 4 * k) (((upZ (upZ z (28 + (z (15 + 4 * k))) 0) (156 + (z (15 + 4 * k))) 1) (16 + 4 * k)) - ((upZ (upZ z (28 + (z (15 + 4 * k))) 0) (156 + (z (15 + 4 * k))) 1) 2))) (17 + 4 * k)) + (z (28 + (z (15 + 4 * k))))))]) (st := []) (wc := (mV Y h q (upZ (upZ (upZ z (28 + (z (15 + 4 * k))) 0) (156 + (z (15 + 4 * k))) 1) (16 + 4 * k) (((upZ (upZ z (28 + (z (15 + 4 * k))) 0) (156 + (z (15 + 4 * k))) 1) (16 + 4 * k)) - ((upZ (upZ z (28 + (z (15 + 4 * k))) 0) (156 + (z (15 + 4 * k))) 1) 2))) sp pa st ke ik tx ln sn se dn up fa lo to tm so)) (wr := []) G (c_X5_lay2 l D Y h q (upZ (upZ (upZ z (28 + (z (15 + 4 * k))) 0) (156 + (z (15 + 4 * k))) 1) (16 + 4 * k) (((upZ (upZ z (28 + (z (15 + 4 * k))) 0) (156 + (z (15 + 4 * k))) 1) (16 + 4 * k)) - ((upZ (upZ z (28 + (z (15 + 4 * k))) 0) (156 + (z (15 + 4 * k))) 1) 2))) sp pa st ke ik tx ln sn se dn up fa lo to tm so k (((upZ (upZ (upZ z (28 + (z (15 + 4 * k))) 0) (156 + (z (15 + 4 * k))) 1) (16 + 4 * k) (((upZ (upZ z (28 + (z (15 + 4 * k))) 0) (156 + (z (15 + 4 * k))) 1) (16 + 4 * k)) - ((upZ (upZ z (28 + (z (15 + 4 * k))) 0) (156 + (z (15 + 4 * k))) 1) 2))) (17 + 4 * k)) + (z (28 + (z (15 + 4 * k))))) (by first | assumption | omega)) dX5_fellNow_72 rfl gX5_fellNow_X5_lay rfl rfl rfl (by decide +kernel) ⟨by decide, by decide⟩ rfl 0 rfl rfl rfl (jLe.nil (jLe.rf _)) (Nat.le_of_ble_eq_true rfl) ⟨Nat.zero_le _, Nat.zero_le _⟩ (fun v_ w_ hp_ => ?_)
    obtain ⟨rfl, rfl⟩ := hp_
    show J x 0 0 (mV Y h q (upZ (upZ (upZ (upZ z (28 + (z (15 + 4 * k))) 0) (156 + (z (15 + 4 * k))) 1) (16 + 4 * k) (((upZ (upZ z (28 + (z (15 + 4 * k))) 0) (156 + (z (15 + 4 * k))) 1) (16 + 4 * k)) - ((upZ (upZ z (28 + (z (15 + 4 * k))) 0) (156 + (z (15 + 4 * k))) 1) 2))) (17 + 4 * k) (((upZ (upZ (upZ z (28 + (z (15 + 4 * k))) 0) (156 + (z (15 + 4 * k))) 1) (16 + 4 * k) (((upZ (upZ z (28 + (z (15 + 4 * k))) 0) (156 + (z (15 + 4 * k))) 1) (16 + 4 * k)) - ((upZ (upZ z (28 + (z (15 + 4 * k))) 0) (156 + (z (15 + 4 * k))) 1) 2))) (17 + 4 * k)) + (z (28 + (z (15 + 4 * k)))))) sp pa st ke ik tx ln sn se dn up fa lo to tm so) 75 [(3, .int (jI (z (28 + (z (15 + 4 * k)))))), (2, .int (jI (z (15 + 4 * k)))), (0, .ref h), (1, .int (jI k))] []
    refine j_aload_n G 2 dX5_fellNow_75 rfl ?_
    refine j_iload_n G 3 dX5_fellNow_76 rfl ?_
    refine j_iconst G dX5_fellNow_77 (v := 3) rfl ?_
    refine j_aload_n G 2 dX5_fellNow_78 rfl ?_
    refine j_iload_n G 3 dX5_fellNow_79 rfl ?_
    refine j_iconst G dX5_fellNow_80 (v := 3) rfl ?_
    refine j_callV (nA := 2) (As := [.int (jI k), .int (jI 3)]) (st := [.int (jI 3), .int (jI k), .ref h]) (wc := (mV Y h q (upZ (upZ (upZ (upZ z (28 + (z (15 + 4 * k))) 0) (156 + (z (15 + 4 * k))) 1) (16 + 4 * k) (((upZ (upZ z (28 + (z (15 + 4 * k))) 0) (156 + (z (15 + 4 * k))) 1) (16 + 4 * k)) - ((upZ (upZ z (28 + (z (15 + 4 * k))) 0) (156 + (z (15 + 4 * k))) 1) 2))) (17 + 4 * k) (((upZ (upZ (upZ z (28 + (z (15 + 4 * k))) 0) (156 + (z (15 + 4 * k))) 1) (16 + 4 * k) (((upZ (upZ z (28 + (z (15 + 4 * k))) 0) (156 + (z (15 + 4 * k))) 1) (16 + 4 * k)) - ((upZ (upZ z (28 + (z (15 + 4 * k))) 0) (156 + (z (15 + 4 * k))) 1) 2))) (17 + 4 * k)) + (z (28 + (z (15 + 4 * k)))))) sp pa st ke ik tx ln sn se dn up fa lo to tm so)) (wr := []) G (c_X5_of3 l D Y h q (upZ (upZ (upZ (upZ z (28 + (z (15 + 4 * k))) 0) (156 + (z (15 + 4 * k))) 1) (16 + 4 * k) (((upZ (upZ z (28 + (z (15 + 4 * k))) 0) (156 + (z (15 + 4 * k))) 1) (16 + 4 * k)) - ((upZ (upZ z (28 + (z (15 + 4 * k))) 0) (156 + (z (15 + 4 * k))) 1) 2))) (17 + 4 * k) (((upZ (upZ (upZ z (28 + (z (15 + 4 * k))) 0) (156 + (z (15 + 4 * k))) 1) (16 + 4 * k) (((upZ (upZ z (28 + (z (15 + 4 * k))) 0) (156 + (z (15 + 4 * k))) 1) (16 + 4 * k)) - ((upZ (upZ z (28 + (z (15 + 4 * k))) 0) (156 + (z (15 + 4 * k))) 1) 2))) (17 + 4 * k)) + (z (28 + (z (15 + 4 * k)))))) sp pa st ke ik tx ln sn se dn up fa lo to tm so k (by first | assumption | omega)) dX5_fellNow_81 rfl gX5_fellNow_X5_of rfl rfl rfl (by decide +kernel) ⟨by decide, by decide⟩ rfl 0 rfl rfl rfl (jLe.nil (jLe.rf _)) (Nat.le_of_ble_eq_true rfl) ⟨Nat.zero_le _, Nat.zero_le _⟩ (fun v_ w_ hp_ => ?_)
    obtain ⟨rfl, rfl⟩ := hp_
    show J x 0 0 (mV Y h q (upZ (upZ (upZ (upZ z (28 + (z (15 + 4 * k))) 0) (156 + (z (15 + 4 * k))) 1) (16 + 4 * k) (((upZ (upZ z (28 + (z (15 + 4 * k))) 0) (156 + (z (15 + 4 * k))) 1) (16 + 4 * k)) - ((upZ (upZ z (28 + (z (15 + 4 * k))) 0) (156 + (z (15 + 4 * k))) 1) 2))) (17 + 4 * k) (((upZ (upZ (upZ z (28 + (z (15 + 4 * k))) 0) (156 + (z (15 + 4 * k))) 1) (16 + 4 * k) (((upZ (upZ z (28 + (z (15 + 4 * k))) 0) (156 + (z (15 + 4 * k))) 1) (16 + 4 * k)) - ((upZ (upZ z (28 + (z (15 + 4 * k))) 0) (156 + (z (15 + 4 * k))) 1) 2))) (17 + 4 * k)) + (z (28 + (z (15 + 4 * k)))))) sp pa st ke ik tx ln sn se dn up fa lo to tm so) 84 [(3, .int (jI (z (28 + (z (15 + 4 * k)))))), (2, .int (jI (z (15 + 4 * k)))), (0, .ref h), (1, .int (jI k))] [.int (jI ((upZ (upZ (upZ (upZ z (28 + (z (15 + 4 * k))) 0) (156 + (z (15 + 4 * k))) 1) (16 + 4 * k) (((upZ (upZ z (28 + (z (15 + 4 * k))) 0) (156 + (z (15 + 4 * k))) 1) (16 + 4 * k)) - ((upZ (upZ z (28 + (z (15 + 4 * k))) 0) (156 + (z (15 + 4 * k))) 1) 2))) (17 + 4 * k) (((upZ (upZ (upZ z (28 + (z (15 + 4 * k))) 0) (156 + (z (15 + 4 * k))) 1) (16 + 4 * k) (((upZ (upZ z (28 + (z (15 + 4 * k))) 0) (156 + (z (15 + 4 * k))) 1) (16 + 4 * k)) - ((upZ (upZ z (28 + (z (15 + 4 * k))) 0) (156 + (z (15 + 4 * k))) 1) 2))) (17 + 4 * k)) + (z (28 + (z (15 + 4 * k)))))) (18 + 4 * k))), .int (jI 3), .int (jI k), .ref h]
    refine j_iconst G dX5_fellNow_84 (v := 1) rfl ?_
    refine j_iadd G dX5_fellNow_85 ?_
    refine j_callV (nA := 3) (As := [.int (jI k), .int (jI 3), .int (jI (((upZ (upZ (upZ (upZ z (28 + (z (15 + 4 * k))) 0) (156 + (z (15 + 4 * k))) 1) (16 + 4 * k) (((upZ (upZ z (28 + (z (15 + 4 * k))) 0) (156 + (z (15 + 4 * k))) 1) (16 + 4 * k)) - ((upZ (upZ z (28 + (z (15 + 4 * k))) 0) (156 + (z (15 + 4 * k))) 1) 2))) (17 + 4 * k) (((upZ (upZ (upZ z (28 + (z (15 + 4 * k))) 0) (156 + (z (15 + 4 * k))) 1) (16 + 4 * k) (((upZ (upZ z (28 + (z (15 + 4 * k))) 0) (156 + (z (15 + 4 * k))) 1) (16 + 4 * k)) - ((upZ (upZ z (28 + (z (15 + 4 * k))) 0) (156 + (z (15 + 4 * k))) 1) 2))) (17 + 4 * k)) + (z (28 + (z (15 + 4 * k)))))) (18 + 4 * k)) + 1))]) (st := []) (wc := (mV Y h q (upZ (upZ (upZ (upZ z (28 + (z (15 + 4 * k))) 0) (156 + (z (15 + 4 * k))) 1) (16 + 4 * k) (((upZ (upZ z (28 + (z (15 + 4 * k))) 0) (156 + (z (15 + 4 * k))) 1) (16 + 4 * k)) - ((upZ (upZ z (28 + (z (15 + 4 * k))) 0) (156 + (z (15 + 4 * k))) 1) 2))) (17 + 4 * k) (((upZ (upZ (upZ z (28 + (z (15 + 4 * k))) 0) (156 + (z (15 + 4 * k))) 1) (16 + 4 * k) (((upZ (upZ z (28 + (z (15 + 4 * k))) 0) (156 + (z (15 + 4 * k))) 1) (16 + 4 * k)) - ((upZ (upZ z (28 + (z (15 + 4 * k))) 0) (156 + (z (15 + 4 * k))) 1) 2))) (17 + 4 * k)) + (z (28 + (z (15 + 4 * k)))))) sp pa st ke ik tx ln sn se dn up fa lo to tm so)) (wr := []) G (c_X5_lay3 l D Y h q (upZ (upZ (upZ (upZ z (28 + (z (15 + 4 * k))) 0) (156 + (z (15 + 4 * k))) 1) (16 + 4 * k) (((upZ (upZ z (28 + (z (15 + 4 * k))) 0) (156 + (z (15 + 4 * k))) 1) (16 + 4 * k)) - ((upZ (upZ z (28 + (z (15 + 4 * k))) 0) (156 + (z (15 + 4 * k))) 1) 2))) (17 + 4 * k) (((upZ (upZ (upZ z (28 + (z (15 + 4 * k))) 0) (156 + (z (15 + 4 * k))) 1) (16 + 4 * k) (((upZ (upZ z (28 + (z (15 + 4 * k))) 0) (156 + (z (15 + 4 * k))) 1) (16 + 4 * k)) - ((upZ (upZ z (28 + (z (15 + 4 * k))) 0) (156 + (z (15 + 4 * k))) 1) 2))) (17 + 4 * k)) + (z (28 + (z (15 + 4 * k)))))) sp pa st ke ik tx ln sn se dn up fa lo to tm so k (((upZ (upZ (upZ (upZ z (28 + (z (15 + 4 * k))) 0) (156 + (z (15 + 4 * k))) 1) (16 + 4 * k) (((upZ (upZ z (28 + (z (15 + 4 * k))) 0) (156 + (z (15 + 4 * k))) 1) (16 + 4 * k)) - ((upZ (upZ z (28 + (z (15 + 4 * k))) 0) (156 + (z (15 + 4 * k))) 1) 2))) (17 + 4 * k) (((upZ (upZ (upZ z (28 + (z (15 + 4 * k))) 0) (156 + (z (15 + 4 * k))) 1) (16 + 4 * k) (((upZ (upZ z (28 + (z (15 + 4 * k))) 0) (156 + (z (15 + 4 * k))) 1) (16 + 4 * k)) - ((upZ (upZ z (28 + (z (15 + 4 * k))) 0) (156 + (z (15 + 4 * k))) 1) 2))) (17 + 4 * k)) + (z (28 + (z (15 + 4 * k)))))) (18 + 4 * k)) + 1) (by first | assumption | omega)) dX5_fellNow_86 rfl gX5_fellNow_X5_lay rfl rfl rfl (by decide +kernel) ⟨by decide, by decide⟩ rfl 0 rfl rfl rfl (jLe.nil (jLe.rf _)) (Nat.le_of_ble_eq_true rfl) ⟨Nat.zero_le _, Nat.zero_le _⟩ (fun v_ w_ hp_ => ?_)
    obtain ⟨rfl, rfl⟩ := hp_
    show J x 0 0 (mV Y h q (upZ (upZ (upZ (upZ (upZ z (28 + (z (15 + 4 * k))) 0) (156 + (z (15 + 4 * k))) 1) (16 + 4 * k) (((upZ (upZ z (28 + (z (15 + 4 * k))) 0) (156 + (z (15 + 4 * k))) 1) (16 + 4 * k)) - ((upZ (upZ z (28 + (z (15 + 4 * k))) 0) (156 + (z (15 + 4 * k))) 1) 2))) (17 + 4 * k) (((upZ (upZ (upZ z (28 + (z (15 + 4 * k))) 0) (156 + (z (15 + 4 * k))) 1) (16 + 4 * k) (((upZ (upZ z (28 + (z (15 + 4 * k))) 0) (156 + (z (15 + 4 * k))) 1) (16 + 4 * k)) - ((upZ (upZ z (28 + (z (15 + 4 * k))) 0) (156 + (z (15 + 4 * k))) 1) 2))) (17 + 4 * k)) + (z (28 + (z (15 + 4 * k)))))) (18 + 4 * k) (((upZ (upZ (upZ (upZ z (28 + (z (15 + 4 * k))) 0) (156 + (z (15 + 4 * k))) 1) (16 + 4 * k) (((upZ (upZ z (28 + (z (15 + 4 * k))) 0) (156 + (z (15 + 4 * k))) 1) (16 + 4 * k)) - ((upZ (upZ z (28 + (z (15 + 4 * k))) 0) (156 + (z (15 + 4 * k))) 1) 2))) (17 + 4 * k) (((upZ (upZ (upZ z (28 + (z (15 + 4 * k))) 0) (156 + (z (15 + 4 * k))) 1) (16 + 4 * k) (((upZ (upZ z (28 + (z (15 + 4 * k))) 0) (156 + (z (15 + 4 * k))) 1) (16 + 4 * k)) - ((upZ (upZ z (28 + (z (15 + 4 * k))) 0) (156 + (z (15 + 4 * k))) 1) 2))) (17 + 4 * k)) + (z (28 + (z (15 + 4 * k)))))) (18 + 4 * k)) + 1)) sp pa st ke ik tx ln sn se dn up fa lo to tm so) 89 [(3, .int (jI (z (28 + (z (15 + 4 * k)))))), (2, .int (jI (z (15 + 4 * k)))), (0, .ref h), (1, .int (jI k))] []
    refine j_iload_n G 0 dX5_fellNow_89 rfl ?_
    exact j_reti G dX5_fellNow_90 (by first | rfl | omega | exact ite_T (by omega) | exact ite_F (by omega)) (by first | (rw [if_pos (show 0 < z (28 + z (15 + 4 * k)) by omega)]; exact mV_zl (fun j h0 h1 => by simp only [GF, upZ]; (repeat' split) <;> first | rfl | omega | grind)) | (rw [if_neg (by omega)]; exact jLe.rf _)) kr

set_option maxHeartbeats 4000000 in
set_option maxRecDepth 100000 in
theorem c_X5_fell (l : Launch) (D : va_G) (Y : Nat → ClassId) (h : Nat) (q : Nat → Nat) (z : Int → Int) (sp : Int → Int) (pa : Int → Int) (st : Int) (ke : Int → Int) (ik : Int) (tx : Int → Int) (ln : Int) (sn : Int) (se : Int) (dn : Int → Int) (up : Int → Int) (fa : Int → Int) (lo : Int → Int) (to : Int → Int) (tm : Int) (so : Int) (k : Int) (hI : Inv z) (hst : 0 ≤ st ∧ st ≤ 4) (h_k : -2147483648 ≤ k ∧ k < 2147483648) : jM l yX5_fell wsX5_fell { frames := 3, cells := 0, slots := 0, locals := 66 } D Y [.ref h, .int (jI k)] (mV Y h q z sp pa st ke ik tx ln sn se dn up fa lo to tm so) (fun v_ w_ => v_ = some (.int (jI (F_fell z k))) ∧ w_ = (mV Y h q (G_fell z k) sp (mPa (F_fell z k) st pa z) (hSz (F_fell z k) st) ke ik tx ln sn se dn up fa lo to tm so)) 0 0 := by
  refine jM_of (cc := cX5_fell) (maxL := 3) (ret := (some .int)) (by decide) rfl (Nat.le_of_ble_eq_true rfl) (fun v w' h => Or.inr (Or.inl ⟨_, _, rfl, h.1, rfl⟩)) ?_
  intro x G kr0
  have kr := kr0 _ _ ⟨rfl, rfl⟩
  have G : jG x l D Y cX5_fell RX5 wsX5_fell 3 ({ frames := 3, cells := 0, slots := 0, locals := 66 } : Room) (some .int) "fell" := G
  have hinX5 : ∀ w ∈ wsX50, w ∈ wsX5_fell := fun _ h => List.mem_cons_of_mem _ (List.mem_append_right _ h)
  show J x 0 0 (mV Y h q z sp pa st ke ik tx ln sn se dn up fa lo to tm so) 0 [(0, .ref h), (1, .int (jI k))] []
  refine j_aload_n G 0 dX5_fell_0 rfl ?_
  refine j_iload_n G 1 dX5_fell_1 rfl ?_
  refine j_callV (nA := 1) (As := [.int (jI k)]) (st := []) (wc := (mV Y h q z sp pa st ke ik tx ln sn se dn up fa lo to tm so)) (wr := []) G (c_X5_whyNotFell l D Y h q z sp pa st ke ik tx ln sn se dn up fa lo to tm so k (by first | assumption | omega) (by first | assumption | omega)) dX5_fell_2 rfl gX5_fell_X5_whyNotFell rfl rfl rfl (by decide +kernel) ⟨by decide, by decide⟩ rfl 0 rfl rfl rfl (jLe.nil (jLe.rf _)) (Nat.le_of_ble_eq_true rfl) ⟨Nat.zero_le _, Nat.zero_le _⟩ (fun v_ w_ hp_ => ?_)
  obtain ⟨rfl, rfl⟩ := hp_
  show J x 0 0 (mV Y h q z sp pa st ke ik tx ln sn se dn up fa lo to tm so) 5 [(0, .ref h), (1, .int (jI k))] [.int (jI (if 0 ≤ k ∧ k ≤ 2 then (if z (16 + 4 * k) < z 2 then -4 else 0) else -1))]
  obtain ⟨e0, e_e0, h_e0⟩ : ∃ y : Int, y = (if 0 ≤ k ∧ k ≤ 2 then (if z (16 + 4 * k) < z 2 then -4 else 0) else -1) ∧ ((y = 0 ∧ (0 ≤ k ∧ k ≤ 2) ∧ z 2 ≤ z (16 + 4 * k)) ∨ (y < 0 ∧ y = F_fell z k ∧ ¬ ((0 ≤ k ∧ k ≤ 2) ∧ z 2 ≤ z (16 + 4 * k)))) := ⟨_, rfl, by unfold F_fell; (repeat' split) <;> omega⟩
  rw [← e_e0]
  refine j_istore_n (lv' := [(2, .int (jI e0)), (0, .ref h), (1, .int (jI k))]) G dX5_fell_5 (by decide) rfl ?_
  refine j_iload_n G 0 dX5_fell_6 rfl ?_
  refine j_if_ge (tgt := 12) G dX5_fell_7 (by decide) (by omega) (fun c7 => ?_) (fun c7 => ?_)
  · have f0 := hI.pl k (by omega) (by omega)
    have f1 := hI.wo (z (15 + 4 * k)) (by omega) (by omega)
    have hF : F_fell z k = if z (28 + z (15 + 4 * k)) = 0 then -5 else z (28 + z (15 + 4 * k)) := by unfold F_fell; rw [if_pos (by omega), if_neg (by omega)]
    refine j_aload_n G 1 dX5_fell_12 rfl ?_
    refine j_get (q := 0) (C := RX5) (T := TX5) (N := 17) (v := .ref (q 0)) G 0 hinX5 dX5_fell_13 rfl rfl (by decide) (by decide +kernel) rfl ?_
    refine j_bipush G dX5_fell_16 (v := 28) rfl ?_
    refine j_aload_n G 1 dX5_fell_18 rfl ?_
    refine j_iload_n G 2 dX5_fell_19 rfl ?_
    refine j_iconst G dX5_fell_20 (v := 0) rfl ?_
    refine j_callV (nA := 2) (As := [.int (jI k), .int (jI 0)]) (st := [.int (jI 28), .ref (q 0)]) (wc := (mV Y h q z sp pa st ke ik tx ln sn se dn up fa lo to tm so)) (wr := []) G (c_X5_of0 l D Y h q z sp pa st ke ik tx ln sn se dn up fa lo to tm so k (by first | assumption | omega)) dX5_fell_21 rfl gX5_fell_X5_of rfl rfl rfl (by decide +kernel) ⟨by decide, by decide⟩ rfl 0 rfl rfl rfl (jLe.nil (jLe.rf _)) (Nat.le_of_ble_eq_true rfl) ⟨Nat.zero_le _, Nat.zero_le _⟩ (fun v_ w_ hp_ => ?_)
    obtain ⟨rfl, rfl⟩ := hp_
    show J x 0 0 (mV Y h q z sp pa st ke ik tx ln sn se dn up fa lo to tm so) 24 [(2, .int (jI e0)), (0, .ref h), (1, .int (jI k))] [.int (jI (z (15 + 4 * k))), .int (jI 28), .ref (q 0)]
    refine j_iadd G dX5_fell_24 ?_
    refine j_iald (v := z (28 + (z (15 + 4 * k)))) G 1 dX5_fell_25 rfl (by omega) rfl ?_
    refine j_if_ne (tgt := 32) G dX5_fell_26 (by decide) (by omega) (fun c26 => ?_) (fun c26 => ?_)
    · refine j_aload_n G 1 dX5_fell_32 rfl ?_
      refine j_callV (nA := 0) (As := []) (st := []) (wc := (mV Y h q z sp pa st ke ik tx ln sn se dn up fa lo to tm so)) (wr := []) G (c_X5_record l D Y h q z sp pa st ke ik tx ln sn se dn up fa lo to tm so (by first | assumption | omega)) dX5_fell_33 rfl gX5_fell_X5_record rfl rfl rfl (by decide +kernel) ⟨by decide, by decide⟩ rfl 0 rfl rfl rfl (jLe.nil (jLe.rf _)) (Nat.le_of_ble_eq_true rfl) ⟨Nat.zero_le _, Nat.zero_le _⟩ (fun v_ w_ hp_ => ?_)
      obtain ⟨rfl, rfl⟩ := hp_
      show J x 0 0 (mV Y h q z sp (paP st pa z) (hUp st) ke ik tx ln sn se dn up fa lo to tm so) 36 [(2, .int (jI e0)), (0, .ref h), (1, .int (jI k))] []
      refine j_aload_n G 1 dX5_fell_36 rfl ?_
      refine j_iload_n G 2 dX5_fell_37 rfl ?_
      refine j_callV (nA := 1) (As := [.int (jI k)]) (st := []) (wc := (mV Y h q z sp (paP st pa z) (hUp st) ke ik tx ln sn se dn up fa lo to tm so)) (wr := []) G (c_X5_fellNow l D Y h q z sp (paP st pa z) (hUp st) ke ik tx ln sn se dn up fa lo to tm so k (by first | assumption | omega) (by first | assumption | omega)) dX5_fell_38 rfl gX5_fell_X5_fellNow rfl rfl rfl (by decide +kernel) ⟨by decide, by decide⟩ rfl 0 rfl rfl rfl (jLe.nil (jLe.rf _)) (Nat.le_of_ble_eq_true rfl) ⟨Nat.zero_le _, Nat.zero_le _⟩ (fun v_ w_ hp_ => ?_)
      obtain ⟨rfl, rfl⟩ := hp_
      show J x 0 0 (mV Y h q (if 0 < z (28 + z (15 + 4 * k)) then GF z k else z) sp (paP st pa z) (hUp st) ke ik tx ln sn se dn up fa lo to tm so) 41 [(2, .int (jI e0)), (0, .ref h), (1, .int (jI k))] [.int (jI (z (28 + z (15 + 4 * k))))]
      exact j_reti G dX5_fell_41 (by rw [hF, if_neg c26]) (by rw [if_neg c26] at hF; rw [show G_fell z k = GF z k from if_pos (by omega), show mPa (F_fell z k) st pa z = paP st pa z from if_pos (by omega), show hSz (F_fell z k) st = hUp st from if_pos (by omega), if_pos (show 0 < z (28 + z (15 + 4 * k)) by omega)]; exact jLe.rf _) kr
    · refine j_bipush G dX5_fell_29 (v := (-5)) rfl ?_
      exact j_reti G dX5_fell_31 (by rw [hF, if_pos c26]) (by have hF : F_fell z k < 0 := (by rw [hF, if_pos c26]; omega); rw [show G_fell z k = z from if_neg (by omega), show mPa (F_fell z k) st pa z = pa from if_neg (by omega), show hSz (F_fell z k) st = st from if_neg (by omega)]; exact jLe.rf _) kr
  · refine j_iload_n G 0 dX5_fell_10 rfl ?_
    exact j_reti G dX5_fell_11 (by omega) (by have hF : F_fell z k < 0 := (by omega); rw [show G_fell z k = z from if_neg (by omega), show mPa (F_fell z k) st pa z = pa from if_neg (by omega), show hSz (F_fell z k) st = st from if_neg (by omega)]; exact jLe.rf _) kr

set_option maxHeartbeats 4000000 in
set_option maxRecDepth 100000 in
theorem c_X5_pathsAt (l : Launch) (D : va_G) (Y : Nat → ClassId) (h : Nat) (q : Nat → Nat) (z : Int → Int) (sp : Int → Int) (pa : Int → Int) (st : Int) (ke : Int → Int) (ik : Int) (tx : Int → Int) (ln : Int) (sn : Int) (se : Int) (dn : Int → Int) (up : Int → Int) (fa : Int → Int) (lo : Int → Int) (to : Int → Int) (tm : Int) (so : Int) (r : Int) (c : Int) (ht8 : ∀ r : Int, 0 ≤ r → r < 8 → -2147483648 ≤ z (7 + r) ∧ z (7 + r) < 2147483648) (hr : 0 ≤ r ∧ r < 8) (hc : 0 ≤ c ∧ c < 8) : jM l yX5_pathsAt wsX5_pathsAt { frames := 2, cells := 0, slots := 0, locals := 43 } D Y [.ref h, .int (jI r), .int (jI c)] (mV Y h q z sp pa st ke ik tx ln sn se dn up fa lo to tm so) (fun v_ w_ => v_ = some (.int (jI (pTh (tZ z) (r * 8 + c)))) ∧ w_ = (mV Y h q z sp pa st ke ik tx ln sn se (pAb (tZ z)) (pBe (tZ z)) fa lo to tm so)) 0 0 := by
  refine jM_of (cc := cX5_pathsAt) (maxL := 3) (ret := (some .int)) (by decide) rfl (Nat.le_of_ble_eq_true rfl) (fun v w' h => Or.inr (Or.inl ⟨_, _, rfl, h.1, rfl⟩)) ?_
  intro x G kr0
  have kr := kr0 _ _ ⟨rfl, rfl⟩
  have G : jG x l D Y cX5_pathsAt RX5 wsX5_pathsAt 3 ({ frames := 2, cells := 0, slots := 0, locals := 43 } : Room) (some .int) "pathsAt" := G
  have hinX5 : ∀ w ∈ wsX50, w ∈ wsX5_pathsAt := fun _ h => List.mem_cons_of_mem _ (List.mem_append_right _ h)
  show J x 0 0 (mV Y h q z sp pa st ke ik tx ln sn se dn up fa lo to tm so) 0 [(0, .ref h), (1, .int (jI r)), (2, .int (jI c))] []
  refine j_aload_n G 0 dX5_pathsAt_0 rfl ?_
  refine j_callV (nA := 0) (As := []) (st := []) (wc := (mV Y h q z sp pa st ke ik tx ln sn se dn up fa lo to tm so)) (wr := []) G (c_X5_countPaths l D Y h q z sp pa st ke ik tx ln sn se dn up fa lo to tm so (by first | assumption | exact hI.tR)) dX5_pathsAt_1 rfl gX5_pathsAt_X5_countPaths rfl rfl rfl (by decide +kernel) ⟨by decide, by decide⟩ rfl 0 rfl rfl rfl (jLe.nil (jLe.rf _)) (Nat.le_of_ble_eq_true rfl) ⟨Nat.zero_le _, Nat.zero_le _⟩ (fun v_ w_ hp_ => ?_)
  obtain ⟨rfl, rfl⟩ := hp_
  show J x 0 0 (mV Y h q z sp pa st ke ik tx ln sn se (pAb (tZ z)) (pBe (tZ z)) fa lo to tm so) 4 [(0, .ref h), (1, .int (jI r)), (2, .int (jI c))] []
  refine j_aload_n G 0 dX5_pathsAt_4 rfl ?_
  refine j_get (q := 10) (C := RX5) (T := TX5) (N := 17) (v := .ref (q 5)) G 0 hinX5 dX5_pathsAt_5 rfl rfl (by decide) (by decide +kernel) rfl ?_
  refine j_bipush G dX5_pathsAt_8 (v := 8) rfl ?_
  refine j_iload_n G 1 dX5_pathsAt_10 rfl ?_
  refine j_imul G dX5_pathsAt_11 ?_
  refine j_iload_n G 2 dX5_pathsAt_12 rfl ?_
  refine j_iadd G dX5_pathsAt_13 ?_
  refine j_iald (v := (pAb (tZ z)) ((8 * r) + c)) G 6 dX5_pathsAt_14 rfl (by omega) rfl ?_
  refine j_aload_n G 0 dX5_pathsAt_15 rfl ?_
  refine j_get (q := 11) (C := RX5) (T := TX5) (N := 17) (v := .ref (q 6)) G 0 hinX5 dX5_pathsAt_16 rfl rfl (by decide) (by decide +kernel) rfl ?_
  refine j_bipush G dX5_pathsAt_19 (v := 8) rfl ?_
  refine j_iload_n G 1 dX5_pathsAt_21 rfl ?_
  refine j_imul G dX5_pathsAt_22 ?_
  refine j_iload_n G 2 dX5_pathsAt_23 rfl ?_
  refine j_iadd G dX5_pathsAt_24 ?_
  refine j_iald (v := (pBe (tZ z)) ((8 * r) + c)) G 7 dX5_pathsAt_25 rfl (by omega) rfl ?_
  refine j_imul G dX5_pathsAt_26 ?_
  exact j_reti G dX5_pathsAt_27 (by rw [show 8 * r + c = r * 8 + c by omega]; rfl) (jLe.rf _) kr

set_option maxHeartbeats 4000000 in
set_option maxRecDepth 100000 in
theorem c_X5_whyNotHint (l : Launch) (D : va_G) (Y : Nat → ClassId) (h : Nat) (q : Nat → Nat) (z : Int → Int) (sp : Int → Int) (pa : Int → Int) (st : Int) (ke : Int → Int) (ik : Int) (tx : Int → Int) (ln : Int) (sn : Int) (se : Int) (dn : Int → Int) (up : Int → Int) (fa : Int → Int) (lo : Int → Int) (to : Int → Int) (tm : Int) (so : Int) (r : Int) (c : Int) (hI : Inv z) (h_r : -2147483648 ≤ r ∧ r < 2147483648) (h_c : -2147483648 ≤ c ∧ c < 2147483648) : jM l yX5_whyNotHint wsX5_whyNotHint { frames := 3, cells := 0, slots := 0, locals := 65 } D Y [.ref h, .int (jI r), .int (jI c)] (mV Y h q z sp pa st ke ik tx ln sn se dn up fa lo to tm so) (fun v_ w_ => ∃ (d2 : Int → Int) (u2 : Int → Int), v_ = some (.int (jI (if 0 ≤ r ∧ r ≤ 7 then (if 0 ≤ c ∧ c ≤ 7 then (if ¬ z (7 + r) = -5 ∨ pTh (tZ z) (r * 8 + c) = 0 then -4 else 0) else -2) else -1))) ∧ w_ = (mV Y h q z sp pa st ke ik tx ln sn se d2 u2 fa lo to tm so)) 0 0 := by
  refine jM_of (cc := cX5_whyNotHint) (maxL := 3) (ret := (some .int)) (by decide) rfl (Nat.le_of_ble_eq_true rfl) (fun v w' h => by obtain ⟨_, _, h⟩ := h; exact Or.inr (Or.inl ⟨_, _, rfl, h.1, rfl⟩)) ?_
  intro x G kr0
  have G : jG x l D Y cX5_whyNotHint RX5 wsX5_whyNotHint 3 ({ frames := 3, cells := 0, slots := 0, locals := 65 } : Room) (some .int) "whyNotHint" := G
  have hinX5 : ∀ w ∈ wsX50, w ∈ wsX5_whyNotHint := fun _ h => List.mem_cons_of_mem _ (List.mem_append_right _ h)
  show J x 0 0 (mV Y h q z sp pa st ke ik tx ln sn se dn up fa lo to tm so) 0 [(0, .ref h), (1, .int (jI r)), (2, .int (jI c))] []
  refine j_iload_n G 1 dX5_whyNotHint_0 rfl ?_
  refine j_callS (nA := 1) (As := [.int (jI r)]) (st := []) (wc := []) (wr := (mV Y h q z sp pa st ke ik tx ln sn se dn up fa lo to tm so)) G (c_X5_isLine l D Y r (by first | assumption | omega)) dX5_whyNotHint_1 rfl gX5_whyNotHint_X5_isLine rfl rfl rfl (by decide +kernel) ⟨by decide, by decide⟩ rfl (jLe.rf _) (Nat.le_of_ble_eq_true rfl) ⟨Nat.zero_le _, Nat.zero_le _⟩ (fun v_ w_ hp_ => ?_)
  obtain ⟨rfl, rfl⟩ := hp_
  show J x 0 0 (mV Y h q z sp pa st ke ik tx ln sn se dn up fa lo to tm so) 4 [(0, .ref h), (1, .int (jI r)), (2, .int (jI c))] [.int (jI (if 0 ≤ r ∧ r ≤ 7 then 1 else 0))]
  refine j_ifz_ne (tgt := 11) G dX5_whyNotHint_4 (by decide) (fun c4 => ?_) (fun c4 => ?_)
  · refine j_iload_n G 2 dX5_whyNotHint_11 rfl ?_
    refine j_callS (nA := 1) (As := [.int (jI c)]) (st := []) (wc := []) (wr := (mV Y h q z sp pa st ke ik tx ln sn se dn up fa lo to tm so)) G (c_X5_isLine l D Y c (by first | assumption | omega)) dX5_whyNotHint_12 rfl gX5_whyNotHint_X5_isLine rfl rfl rfl (by decide +kernel) ⟨by decide, by decide⟩ rfl (jLe.rf _) (Nat.le_of_ble_eq_true rfl) ⟨Nat.zero_le _, Nat.zero_le _⟩ (fun v_ w_ hp_ => ?_)
    obtain ⟨rfl, rfl⟩ := hp_
    show J x 0 0 (mV Y h q z sp pa st ke ik tx ln sn se dn up fa lo to tm so) 15 [(0, .ref h), (1, .int (jI r)), (2, .int (jI c))] [.int (jI (if 0 ≤ c ∧ c ≤ 7 then 1 else 0))]
    refine j_ifz_ne (tgt := 23) G dX5_whyNotHint_15 (by decide) (fun c15 => ?_) (fun c15 => ?_)
    · have f23 := hI.tR r (by omega) (by omega)
      have f24 : 0 ≤ pTh (tZ z) (r * 8 + c) ∧ pTh (tZ z) (r * 8 + c) ≤ 2187 := pTh_b (tZ z) (p := r * 8 + c) (by omega)
      refine j_aload_n G 0 dX5_whyNotHint_23 rfl ?_
      refine j_get (q := 0) (C := RX5) (T := TX5) (N := 17) (v := .ref (q 0)) G 0 hinX5 dX5_whyNotHint_24 rfl rfl (by decide) (by decide +kernel) rfl ?_
      refine j_bipush G dX5_whyNotHint_27 (v := 7) rfl ?_
      refine j_iload_n G 1 dX5_whyNotHint_29 rfl ?_
      refine j_iadd G dX5_whyNotHint_30 ?_
      refine j_iald (v := z (7 + r)) G 1 dX5_whyNotHint_31 rfl (by omega) rfl ?_
      refine j_bipush G dX5_whyNotHint_32 (v := (-5)) rfl ?_
      refine j_icmp_ne (tgt := 46) G dX5_whyNotHint_34 (by decide) (by omega) (by omega) (fun c34 => ?_) (fun c34 => ?_)
      · refine j_bipush G dX5_whyNotHint_46 (v := (-4)) rfl ?_
        refine j_goto (tgt := 52) G dX5_whyNotHint_48 (by decide) ?_
        exact j_reti G dX5_whyNotHint_52 (by (repeat' split) <;> omega) (jLe.rf _) (kr0 _ _ ⟨dn, up, rfl, rfl⟩)
      · refine j_aload_n G 0 dX5_whyNotHint_37 rfl ?_
        refine j_iload_n G 1 dX5_whyNotHint_38 rfl ?_
        refine j_iload_n G 2 dX5_whyNotHint_39 rfl ?_
        refine j_callV (nA := 2) (As := [.int (jI r), .int (jI c)]) (st := []) (wc := (mV Y h q z sp pa st ke ik tx ln sn se dn up fa lo to tm so)) (wr := []) G (c_X5_pathsAt l D Y h q z sp pa st ke ik tx ln sn se dn up fa lo to tm so r c (by first | assumption | exact hI.tR) (by first | assumption | omega) (by first | assumption | omega)) dX5_whyNotHint_40 rfl gX5_whyNotHint_X5_pathsAt rfl rfl rfl (by decide +kernel) ⟨by decide, by decide⟩ rfl 0 rfl rfl rfl (jLe.nil (jLe.rf _)) (Nat.le_of_ble_eq_true rfl) ⟨Nat.zero_le _, Nat.zero_le _⟩ (fun v_ w_ hp_ => ?_)
        obtain ⟨rfl, rfl⟩ := hp_
        show J x 0 0 (mV Y h q z sp pa st ke ik tx ln sn se (pAb (tZ z)) (pBe (tZ z)) fa lo to tm so) 43 [(0, .ref h), (1, .int (jI r)), (2, .int (jI c))] [.int (jI (pTh (tZ z) (r * 8 + c)))]
        refine j_if_ne (tgt := 51) G dX5_whyNotHint_43 (by decide) (by omega) (fun c43 => ?_) (fun c43 => ?_)
        · refine j_iconst G dX5_whyNotHint_51 (v := 0) rfl ?_
          exact j_reti G dX5_whyNotHint_52 (by (repeat' split) <;> omega) (jLe.rf _) (kr0 _ _ ⟨(pAb (tZ z)), (pBe (tZ z)), rfl, rfl⟩)
        · refine j_bipush G dX5_whyNotHint_46 (v := (-4)) rfl ?_
          refine j_goto (tgt := 52) G dX5_whyNotHint_48 (by decide) ?_
          exact j_reti G dX5_whyNotHint_52 (by (repeat' split) <;> omega) (jLe.rf _) (kr0 _ _ ⟨(pAb (tZ z)), (pBe (tZ z)), rfl, rfl⟩)
    · refine j_bipush G dX5_whyNotHint_18 (v := (-2)) rfl ?_
      refine j_goto (tgt := 52) G dX5_whyNotHint_20 (by decide) ?_
      exact j_reti G dX5_whyNotHint_52 (by (repeat' split) <;> omega) (jLe.rf _) (kr0 _ _ ⟨dn, up, rfl, rfl⟩)
  · refine j_iconst G dX5_whyNotHint_7 (v := (-1)) rfl ?_
    refine j_goto (tgt := 52) G dX5_whyNotHint_8 (by decide) ?_
    exact j_reti G dX5_whyNotHint_52 (by (repeat' split) <;> omega) (jLe.rf _) (kr0 _ _ ⟨dn, up, rfl, rfl⟩)

set_option maxHeartbeats 4000000 in
set_option maxRecDepth 100000 in
theorem c_X5_hint (l : Launch) (D : va_G) (Y : Nat → ClassId) (h : Nat) (q : Nat → Nat) (z : Int → Int) (sp : Int → Int) (pa : Int → Int) (st : Int) (ke : Int → Int) (ik : Int) (tx : Int → Int) (ln : Int) (sn : Int) (se : Int) (dn : Int → Int) (up : Int → Int) (fa : Int → Int) (lo : Int → Int) (to : Int → Int) (tm : Int) (so : Int) (r : Int) (c : Int) (hI : Inv z) (hst : 0 ≤ st ∧ st ≤ 4) (h_r : -2147483648 ≤ r ∧ r < 2147483648) (h_c : -2147483648 ≤ c ∧ c < 2147483648) : jM l yX5_hint wsX5_hint { frames := 4, cells := 0, slots := 0, locals := 87 } D Y [.ref h, .int (jI r), .int (jI c)] (mV Y h q z sp pa st ke ik tx ln sn se dn up fa lo to tm so) (fun v_ w_ => ∃ (d2 : Int → Int) (u2 : Int → Int), v_ = some (.int (jI (F_hint z r c))) ∧ w_ = (mV Y h q (G_hint z r c) sp (mPa (F_hint z r c) st pa z) (hSz (F_hint z r c) st) ke ik tx ln sn se d2 u2 fa lo to tm so)) 0 0 := by
  refine jM_of (cc := cX5_hint) (maxL := 4) (ret := (some .int)) (by decide) rfl (Nat.le_of_ble_eq_true rfl) (fun v w' h => by obtain ⟨_, _, h⟩ := h; exact Or.inr (Or.inl ⟨_, _, rfl, h.1, rfl⟩)) ?_
  intro x G kr0
  have G : jG x l D Y cX5_hint RX5 wsX5_hint 4 ({ frames := 4, cells := 0, slots := 0, locals := 87 } : Room) (some .int) "hint" := G
  have hinX5 : ∀ w ∈ wsX50, w ∈ wsX5_hint := fun _ h => List.mem_cons_of_mem _ (List.mem_append_right _ h)
  show J x 0 0 (mV Y h q z sp pa st ke ik tx ln sn se dn up fa lo to tm so) 0 [(0, .ref h), (1, .int (jI r)), (2, .int (jI c))] []
  refine j_aload_n G 0 dX5_hint_0 rfl ?_
  refine j_iload_n G 1 dX5_hint_1 rfl ?_
  refine j_iload_n G 2 dX5_hint_2 rfl ?_
  refine j_callV (nA := 2) (As := [.int (jI r), .int (jI c)]) (st := []) (wc := (mV Y h q z sp pa st ke ik tx ln sn se dn up fa lo to tm so)) (wr := []) G (c_X5_whyNotHint l D Y h q z sp pa st ke ik tx ln sn se dn up fa lo to tm so r c (by first | assumption | omega) (by first | assumption | omega) (by first | assumption | omega)) dX5_hint_3 rfl gX5_hint_X5_whyNotHint rfl rfl rfl (by decide +kernel) ⟨by decide, by decide⟩ rfl 0 rfl rfl rfl (jLe.nil (jLe.rf _)) (Nat.le_of_ble_eq_true rfl) ⟨Nat.zero_le _, Nat.zero_le _⟩ (fun v_ w_ hp_ => ?_)
  obtain ⟨d2_1, u2_2, rfl, rfl⟩ := hp_
  show J x 0 0 (mV Y h q z sp pa st ke ik tx ln sn se d2_1 u2_2 fa lo to tm so) 6 [(0, .ref h), (1, .int (jI r)), (2, .int (jI c))] [.int (jI (if 0 ≤ r ∧ r ≤ 7 then (if 0 ≤ c ∧ c ≤ 7 then (if ¬ z (7 + r) = -5 ∨ pTh (tZ z) (r * 8 + c) = 0 then -4 else 0) else -2) else -1))]
  obtain ⟨e0, e_e0, h_e0⟩ : ∃ y : Int, y = (if 0 ≤ r ∧ r ≤ 7 then (if 0 ≤ c ∧ c ≤ 7 then (if ¬ z (7 + r) = -5 ∨ pTh (tZ z) (r * 8 + c) = 0 then -4 else 0) else -2) else -1) ∧ ((y = 0 ∧ ((0 ≤ r ∧ r ≤ 7) ∧ (0 ≤ c ∧ c ≤ 7)) ∧ z (7 + r) = -5 ∧ ¬ pTh (tZ z) (r * 8 + c) = 0) ∨ (y < 0 ∧ y = F_hint z r c ∧ ¬ (((0 ≤ r ∧ r ≤ 7) ∧ (0 ≤ c ∧ c ≤ 7)) ∧ z (7 + r) = -5 ∧ ¬ pTh (tZ z) (r * 8 + c) = 0))) := ⟨_, rfl, by unfold F_hint; (repeat' split) <;> omega⟩
  rw [← e_e0]
  refine j_istore_n (lv' := [(3, .int (jI e0)), (0, .ref h), (1, .int (jI r)), (2, .int (jI c))]) G dX5_hint_6 (by decide) rfl ?_
  refine j_iload_n G 0 dX5_hint_7 rfl ?_
  refine j_if_ge (tgt := 13) G dX5_hint_8 (by decide) (by omega) (fun c8 => ?_) (fun c8 => ?_)
  · have f24 : 0 ≤ pTh (tZ z) (r * 8 + c) ∧ pTh (tZ z) (r * 8 + c) ≤ 2187 := pTh_b (tZ z) (p := r * 8 + c) (by omega)
    have hF : F_hint z r c = pTh (tZ z) (r * 8 + c) := by unfold F_hint; rw [if_pos (by omega), if_pos (by omega), if_neg (by omega)]
    have hA : pAll (tZ (upZ z (7 + r) c)) = pTh (tZ z) (r * 8 + c) := by rw [← tZ_up]; exact pAll_told (t := tZ z) (by omega) (by omega) (show z (7 + r) = -5 by omega)
    refine j_aload_n G 1 dX5_hint_13 rfl ?_
    refine j_callV (nA := 0) (As := []) (st := []) (wc := (mV Y h q z sp pa st ke ik tx ln sn se d2_1 u2_2 fa lo to tm so)) (wr := []) G (c_X5_record l D Y h q z sp pa st ke ik tx ln sn se d2_1 u2_2 fa lo to tm so (by first | assumption | omega)) dX5_hint_14 rfl gX5_hint_X5_record rfl rfl rfl (by decide +kernel) ⟨by decide, by decide⟩ rfl 0 rfl rfl rfl (jLe.nil (jLe.rf _)) (Nat.le_of_ble_eq_true rfl) ⟨Nat.zero_le _, Nat.zero_le _⟩ (fun v_ w_ hp_ => ?_)
    obtain ⟨rfl, rfl⟩ := hp_
    show J x 0 0 (mV Y h q z sp (paP st pa z) (hUp st) ke ik tx ln sn se d2_1 u2_2 fa lo to tm so) 17 [(3, .int (jI e0)), (0, .ref h), (1, .int (jI r)), (2, .int (jI c))] []
    refine j_aload_n G 1 dX5_hint_17 rfl ?_
    refine j_get (q := 0) (C := RX5) (T := TX5) (N := 17) (v := .ref (q 0)) G 0 hinX5 dX5_hint_18 rfl rfl (by decide) (by decide +kernel) rfl ?_
    refine j_bipush G dX5_hint_21 (v := 7) rfl ?_
    refine j_iload_n G 2 dX5_hint_23 rfl ?_
    refine j_iadd G dX5_hint_24 ?_
    refine j_iload_n G 3 dX5_hint_25 rfl ?_
    refine j_iast (ws' := mV Y h q (upZ z (7 + r) c) sp (paP st pa z) (hUp st) ke ik tx ln sn se d2_1 u2_2 fa lo to tm so) G 1 dX5_hint_26 rfl (by omega) rfl ?_
    refine j_aload_n G 1 dX5_hint_27 rfl ?_
    refine j_callV (nA := 0) (As := []) (st := []) (wc := (mV Y h q (upZ z (7 + r) c) sp (paP st pa z) (hUp st) ke ik tx ln sn se d2_1 u2_2 fa lo to tm so)) (wr := []) G (c_X5_paths l D Y h q (upZ z (7 + r) c) sp (paP st pa z) (hUp st) ke ik tx ln sn se d2_1 u2_2 fa lo to tm so (by intro q a b; have := hI.tR q a b; simp only [upZ]; split <;> omega)) dX5_hint_28 rfl gX5_hint_X5_paths rfl rfl rfl (by decide +kernel) ⟨by decide, by decide⟩ rfl 0 rfl rfl rfl (jLe.nil (jLe.rf _)) (Nat.le_of_ble_eq_true rfl) ⟨Nat.zero_le _, Nat.zero_le _⟩ (fun v_ w_ hp_ => ?_)
    obtain ⟨rfl, rfl⟩ := hp_
    show J x 0 0 (mV Y h q (upZ z (7 + r) c) sp (paP st pa z) (hUp st) ke ik tx ln sn se (pAb (tZ (upZ z (7 + r) c))) (pBe (tZ (upZ z (7 + r) c))) fa lo to tm so) 31 [(3, .int (jI e0)), (0, .ref h), (1, .int (jI r)), (2, .int (jI c))] [.int (jI (pAll (tZ (upZ z (7 + r) c))))]
    exact j_reti G dX5_hint_31 (by rw [hF, hA]) (by rw [show G_hint z r c = upZ z (7 + r) c from if_pos (by omega), show mPa (F_hint z r c) st pa z = paP st pa z from if_pos (by omega), show hSz (F_hint z r c) st = hUp st from if_pos (by omega)]; exact jLe.rf _) (kr0 _ _ ⟨(pAb (tZ (upZ z (7 + r) c))), (pBe (tZ (upZ z (7 + r) c))), rfl, rfl⟩)
  · refine j_iload_n G 0 dX5_hint_11 rfl ?_
    exact j_reti G dX5_hint_12 (by omega) (by have hF : F_hint z r c < 0 := (by omega); rw [show G_hint z r c = z from if_neg (by omega), show mPa (F_hint z r c) st pa z = pa from if_neg (by omega), show hSz (F_hint z r c) st = st from if_neg (by omega)]; exact jLe.rf _) (kr0 _ _ ⟨d2_1, u2_2, rfl, rfl⟩)

set_option maxHeartbeats 4000000 in
set_option maxRecDepth 100000 in
theorem c_X5_takeBack (l : Launch) (D : va_G) (Y : Nat → ClassId) (h : Nat) (q : Nat → Nat) (z : Int → Int) (sp : Int → Int) (pa : Int → Int) (st : Int) (ke : Int → Int) (ik : Int) (tx : Int → Int) (ln : Int) (sn : Int) (se : Int) (dn : Int → Int) (up : Int → Int) (fa : Int → Int) (lo : Int → Int) (to : Int → Int) (tm : Int) (so : Int) (r : Int) (hI : Inv z) (hst : 0 ≤ st ∧ st ≤ 4) (h_r : -2147483648 ≤ r ∧ r < 2147483648) : jM l yX5_takeBack wsX5_takeBack { frames := 3, cells := 0, slots := 0, locals := 66 } D Y [.ref h, .int (jI r)] (mV Y h q z sp pa st ke ik tx ln sn se dn up fa lo to tm so) (fun v_ w_ => ∃ (d2 : Int → Int) (u2 : Int → Int), v_ = some (.int (jI (F_back z r))) ∧ w_ = (mV Y h q (G_back z r) sp (mPa (F_back z r) st pa z) (hSz (F_back z r) st) ke ik tx ln sn se d2 u2 fa lo to tm so)) 0 0 := by
  refine jM_of (cc := cX5_takeBack) (maxL := 2) (ret := (some .int)) (by decide) rfl (Nat.le_of_ble_eq_true rfl) (fun v w' h => by obtain ⟨_, _, h⟩ := h; exact Or.inr (Or.inl ⟨_, _, rfl, h.1, rfl⟩)) ?_
  intro x G kr0
  have G : jG x l D Y cX5_takeBack RX5 wsX5_takeBack 2 ({ frames := 3, cells := 0, slots := 0, locals := 66 } : Room) (some .int) "takeBack" := G
  have hinX5 : ∀ w ∈ wsX50, w ∈ wsX5_takeBack := fun _ h => List.mem_cons_of_mem _ (List.mem_append_right _ h)
  show J x 0 0 (mV Y h q z sp pa st ke ik tx ln sn se dn up fa lo to tm so) 0 [(0, .ref h), (1, .int (jI r))] []
  refine j_iload_n G 1 dX5_takeBack_0 rfl ?_
  refine j_callS (nA := 1) (As := [.int (jI r)]) (st := []) (wc := []) (wr := (mV Y h q z sp pa st ke ik tx ln sn se dn up fa lo to tm so)) G (c_X5_isLine l D Y r (by first | assumption | omega)) dX5_takeBack_1 rfl gX5_takeBack_X5_isLine rfl rfl rfl (by decide +kernel) ⟨by decide, by decide⟩ rfl (jLe.rf _) (Nat.le_of_ble_eq_true rfl) ⟨Nat.zero_le _, Nat.zero_le _⟩ (fun v_ w_ hp_ => ?_)
  obtain ⟨rfl, rfl⟩ := hp_
  show J x 0 0 (mV Y h q z sp pa st ke ik tx ln sn se dn up fa lo to tm so) 4 [(0, .ref h), (1, .int (jI r))] [.int (jI (if 0 ≤ r ∧ r ≤ 7 then 1 else 0))]
  refine j_ifz_ne (tgt := 9) G dX5_takeBack_4 (by decide) (fun c4 => ?_) (fun c4 => ?_)
  · have f9 := hI.tR r (by omega) (by omega)
    have hF : F_back z r = if z (7 + r) = -5 then -5 else pAll (tZ (upZ z (7 + r) (-5))) := by unfold F_back; rw [if_pos (by omega)]
    have hA := pAll_b (tZ (upZ z (7 + r) (-5)))
    refine j_aload_n G 0 dX5_takeBack_9 rfl ?_
    refine j_get (q := 0) (C := RX5) (T := TX5) (N := 17) (v := .ref (q 0)) G 0 hinX5 dX5_takeBack_10 rfl rfl (by decide) (by decide +kernel) rfl ?_
    refine j_bipush G dX5_takeBack_13 (v := 7) rfl ?_
    refine j_iload_n G 1 dX5_takeBack_15 rfl ?_
    refine j_iadd G dX5_takeBack_16 ?_
    refine j_iald (v := z (7 + r)) G 1 dX5_takeBack_17 rfl (by omega) rfl ?_
    refine j_bipush G dX5_takeBack_18 (v := (-5)) rfl ?_
    refine j_icmp_ne (tgt := 26) G dX5_takeBack_20 (by decide) (by omega) (by omega) (fun c20 => ?_) (fun c20 => ?_)
    · refine j_aload_n G 0 dX5_takeBack_26 rfl ?_
      refine j_callV (nA := 0) (As := []) (st := []) (wc := (mV Y h q z sp pa st ke ik tx ln sn se dn up fa lo to tm so)) (wr := []) G (c_X5_record l D Y h q z sp pa st ke ik tx ln sn se dn up fa lo to tm so (by first | assumption | omega)) dX5_takeBack_27 rfl gX5_takeBack_X5_record rfl rfl rfl (by decide +kernel) ⟨by decide, by decide⟩ rfl 0 rfl rfl rfl (jLe.nil (jLe.rf _)) (Nat.le_of_ble_eq_true rfl) ⟨Nat.zero_le _, Nat.zero_le _⟩ (fun v_ w_ hp_ => ?_)
      obtain ⟨rfl, rfl⟩ := hp_
      show J x 0 0 (mV Y h q z sp (paP st pa z) (hUp st) ke ik tx ln sn se dn up fa lo to tm so) 30 [(0, .ref h), (1, .int (jI r))] []
      refine j_aload_n G 0 dX5_takeBack_30 rfl ?_
      refine j_get (q := 0) (C := RX5) (T := TX5) (N := 17) (v := .ref (q 0)) G 0 hinX5 dX5_takeBack_31 rfl rfl (by decide) (by decide +kernel) rfl ?_
      refine j_bipush G dX5_takeBack_34 (v := 7) rfl ?_
      refine j_iload_n G 1 dX5_takeBack_36 rfl ?_
      refine j_iadd G dX5_takeBack_37 ?_
      refine j_bipush G dX5_takeBack_38 (v := (-5)) rfl ?_
      refine j_iast (ws' := mV Y h q (upZ z (7 + r) (-5)) sp (paP st pa z) (hUp st) ke ik tx ln sn se dn up fa lo to tm so) G 1 dX5_takeBack_40 rfl (by omega) rfl ?_
      refine j_aload_n G 0 dX5_takeBack_41 rfl ?_
      refine j_callV (nA := 0) (As := []) (st := []) (wc := (mV Y h q (upZ z (7 + r) (-5)) sp (paP st pa z) (hUp st) ke ik tx ln sn se dn up fa lo to tm so)) (wr := []) G (c_X5_paths l D Y h q (upZ z (7 + r) (-5)) sp (paP st pa z) (hUp st) ke ik tx ln sn se dn up fa lo to tm so (by intro q a b; have := hI.tR q a b; simp only [upZ]; split <;> omega)) dX5_takeBack_42 rfl gX5_takeBack_X5_paths rfl rfl rfl (by decide +kernel) ⟨by decide, by decide⟩ rfl 0 rfl rfl rfl (jLe.nil (jLe.rf _)) (Nat.le_of_ble_eq_true rfl) ⟨Nat.zero_le _, Nat.zero_le _⟩ (fun v_ w_ hp_ => ?_)
      obtain ⟨rfl, rfl⟩ := hp_
      show J x 0 0 (mV Y h q (upZ z (7 + r) (-5)) sp (paP st pa z) (hUp st) ke ik tx ln sn se (pAb (tZ (upZ z (7 + r) (-5)))) (pBe (tZ (upZ z (7 + r) (-5)))) fa lo to tm so) 45 [(0, .ref h), (1, .int (jI r))] [.int (jI (pAll (tZ (upZ z (7 + r) (-5)))))]
      exact j_reti G dX5_takeBack_45 (by rw [hF, if_neg c20]) (by rw [if_neg c20] at hF; rw [show G_back z r = upZ z (7 + r) (-5) from if_pos (by omega), show mPa (F_back z r) st pa z = paP st pa z from if_pos (by omega), show hSz (F_back z r) st = hUp st from if_pos (by omega)]; exact jLe.rf _) (kr0 _ _ ⟨(pAb (tZ (upZ z (7 + r) (-5)))), (pBe (tZ (upZ z (7 + r) (-5)))), rfl, rfl⟩)
    · refine j_bipush G dX5_takeBack_23 (v := (-5)) rfl ?_
      exact j_reti G dX5_takeBack_25 (by rw [hF, if_pos c20]) (by have hF : F_back z r < 0 := (by rw [hF, if_pos c20]; omega); rw [show G_back z r = z from if_neg (by omega), show mPa (F_back z r) st pa z = pa from if_neg (by omega), show hSz (F_back z r) st = st from if_neg (by omega)]; exact jLe.rf _) (kr0 _ _ ⟨dn, up, rfl, rfl⟩)
  · refine j_iconst G dX5_takeBack_7 (v := (-1)) rfl ?_
    exact j_reti G dX5_takeBack_8 (by unfold F_back; rw [if_neg (by omega)]) (by have hF : F_back z r < 0 := (by unfold F_back; rw [if_neg (by omega)]; omega); rw [show G_back z r = z from if_neg (by omega), show mPa (F_back z r) st pa z = pa from if_neg (by omega), show hSz (F_back z r) st = st from if_neg (by omega)]; exact jLe.rf _) (kr0 _ _ ⟨dn, up, rfl, rfl⟩)

set_option maxHeartbeats 4000000 in
set_option maxRecDepth 100000 in
theorem c_X5_greatest (l : Launch) (D : va_G) (Y : Nat → ClassId) (h : Nat) (q : Nat → Nat) (z : Int → Int) (sp : Int → Int) (pa : Int → Int) (st : Int) (ke : Int → Int) (ik : Int) (tx : Int → Int) (ln : Int) (sn : Int) (se : Int) (dn : Int → Int) (up : Int → Int) (fa : Int → Int) (lo : Int → Int) (to : Int → Int) (tm : Int) (so : Int) (n : Int) (hn : 0 ≤ n ∧ n ≤ 64) (hL : ∀ p : Int, 0 ≤ p → p < 64 → 0 ≤ lo p ∧ lo p ≤ 99) : jM l yX5_greatest wsX5_greatest { frames := 0, cells := 0, slots := 0, locals := 0 } D Y [.ref h, .int (jI n)] (mV Y h q z sp pa st ke ik tx ln sn se dn up fa lo to tm so) (fun v_ w_ => ∃ (l2 : Int → Int), v_ = some (.int (jI (zTop lo n))) ∧ w_ = (mV Y h q z sp pa st ke ik tx ln sn se dn up fa l2 to tm so)) 0 0 := by
  refine jM_of (cc := cX5_greatest) (maxL := 6) (ret := (some .int)) (by decide) rfl (Nat.le_of_ble_eq_true rfl) (fun v w' h => by obtain ⟨_, h⟩ := h; exact Or.inr (Or.inl ⟨_, _, rfl, h.1, rfl⟩)) ?_
  intro x G kr0
  have G : jG x l D Y cX5_greatest RX5 wsX5_greatest 6 ({ frames := 0, cells := 0, slots := 0, locals := 0 } : Room) (some .int) "greatest" := G
  have hinX5 : ∀ w ∈ wsX50, w ∈ wsX5_greatest := fun _ h => List.mem_cons_of_mem _ (List.mem_append_right _ h)
  show J x 0 0 (mV Y h q z sp pa st ke ik tx ln sn se dn up fa lo to tm so) 0 [(0, .ref h), (1, .int (jI n))] []
  refine j_iconst G dX5_greatest_0 (v := 0) rfl ?_
  refine j_istore_n (lv' := [(2, .int (jI 0)), (0, .ref h), (1, .int (jI n))]) G dX5_greatest_1 (by decide) rfl ?_
  refine j_iconst G dX5_greatest_2 (v := 0) rfl ?_
  refine j_istore_n (lv' := [(3, .int (jI 0)), (2, .int (jI 0)), (0, .ref h), (1, .int (jI n))]) G dX5_greatest_3 (by decide) rfl ?_
  have lp4 : ∀ (n_ : Nat) (i : Int) (s : Int) (g : Int → Int), (0 ≤ i ∧ i ≤ n) → (zTop lo n = s + zTop g (n - i)) → (∀ p : Int, 0 ≤ p → p < 64 → 0 ≤ g p ∧ g p ≤ 99) → (n - i) < (n_ : Int) → J x 0 0 (mV Y h q z sp pa st ke ik tx ln sn se dn up fa g to tm so) 4 [(0, .ref h), (1, .int (jI n)), (2, .int (jI s)), (3, .int (jI i))] [] := by
    intro n_
    induction n_ with
    | zero =>
      intro i s g hi hs hg hm_
      exact absurd hm_ (by omega)
    | succ n_ ih4 =>
      intro i s g hi hs hg hm_
      refine j_iload_n G 3 dX5_greatest_4 rfl ?_
      refine j_iload_n G 1 dX5_greatest_5 rfl ?_
      refine j_icmp_ge (tgt := 78) G dX5_greatest_6 (by decide) (by omega) (by omega) (fun c6 => ?_) (fun c6 => ?_)
      · refine j_iload_n G 2 dX5_greatest_78 rfl ?_
        exact j_reti G dX5_greatest_79 (by rw [hs, show n - i = 0 by omega, zTop_0]; omega) (jLe.rf _) (kr0 _ _ ⟨g, rfl, rfl⟩)
      · refine j_iconst G dX5_greatest_9 (v := 0) rfl ?_
        refine j_istore (lv' := [(4, .int (jI 0)), (0, .ref h), (1, .int (jI n)), (2, .int (jI s)), (3, .int (jI i))]) G dX5_greatest_10 (by decide) rfl ?_
        refine j_iconst G dX5_greatest_12 (v := 0) rfl ?_
        refine j_istore (lv' := [(5, .int (jI 0)), (4, .int (jI 0)), (0, .ref h), (1, .int (jI n)), (2, .int (jI s)), (3, .int (jI i))]) G dX5_greatest_13 (by decide) rfl ?_
        have lp15 : ∀ (n_ : Nat) (j : Int) (b : Int), (0 ≤ j ∧ j ≤ 64) → (0 ≤ b ∧ b < 64) → (∀ p : Int, 0 ≤ p → p < j → g p ≤ g b) → (64 - j) < (n_ : Int) → J x 0 0 (mV Y h q z sp pa st ke ik tx ln sn se dn up fa g to tm so) 15 [(0, .ref h), (1, .int (jI n)), (2, .int (jI s)), (3, .int (jI i)), (4, .int (jI b)), (5, .int (jI j))] [] := by
          intro n_
          induction n_ with
          | zero =>
            intro j b hj hb hm hm_
            exact absurd hm_ (by omega)
          | succ n_ ih15 =>
            intro j b hj hb hm hm_
            refine j_iload G 5 dX5_greatest_15 rfl ?_
            refine j_bipush G dX5_greatest_17 (v := 64) rfl ?_
            refine j_icmp_ge (tgt := 54) G dX5_greatest_19 (by decide) (by omega) (by omega) (fun c19 => ?_) (fun c19 => ?_)
            · refine j_iload_n G 2 dX5_greatest_54 rfl ?_
              refine j_aload_n G 0 dX5_greatest_55 rfl ?_
              refine j_get (q := 13) (C := RX5) (T := TX5) (N := 17) (v := .ref (q 8)) G 0 hinX5 dX5_greatest_56 rfl rfl (by decide) (by decide +kernel) rfl ?_
              refine j_iload G 4 dX5_greatest_59 rfl ?_
              refine j_iald (v := g b) G 9 dX5_greatest_61 rfl (by omega) rfl ?_
              refine j_iadd G dX5_greatest_62 ?_
              refine j_istore_n (lv' := [(2, .int (jI (s + (g b)))), (0, .ref h), (1, .int (jI n)), (3, .int (jI i)), (4, .int (jI b)), (5, .int (jI j))]) G dX5_greatest_63 (by decide) rfl ?_
              refine j_aload_n G 1 dX5_greatest_64 rfl ?_
              refine j_get (q := 13) (C := RX5) (T := TX5) (N := 17) (v := .ref (q 8)) G 0 hinX5 dX5_greatest_65 rfl rfl (by decide) (by decide +kernel) rfl ?_
              refine j_iload G 4 dX5_greatest_68 rfl ?_
              refine j_iconst G dX5_greatest_70 (v := 0) rfl ?_
              refine j_iast (ws' := mV Y h q z sp pa st ke ik tx ln sn se dn up fa (upZ g b 0) to tm so) G 9 dX5_greatest_71 rfl (by omega) rfl ?_
              refine j_iinc (w := i + 1) (lv' := [(3, .int (jI (i + 1))), (2, .int (jI (s + (g b)))), (0, .ref h), (1, .int (jI n)), (4, .int (jI b)), (5, .int (jI j))]) G 3 dX5_greatest_72 rfl rfl (by decide) rfl ?_
              refine j_goto (tgt := 4) G dX5_greatest_75 (by decide) ?_
              refine j_lv [2, 3, 1, 0] (lv' := [(0, .ref h), (1, .int (jI n)), (2, .int (jI (s + (g b)))), (3, .int (jI (i + 1)))]) rfl ?_
              exact ih4 (i + 1) (s + (g b)) (upZ g b 0) (by omega) (by rw [hs, show n - i = n - (i + 1) + 1 by omega, zTop_S (by omega) hb hg (fun p a c => hm p a (by omega)), Int.add_assoc]) (by intro p a c; by_cases e : p = b; rw [upZ_eq _ _ _ e]; omega; rw [upZ_ne _ _ _ e]; exact hg p a c) (by omega)
            · have f22 := hg j hj.1 (by omega)
              have f23 := hg b hb.1 hb.2
              refine j_aload_n G 0 dX5_greatest_22 rfl ?_
              refine j_get (q := 13) (C := RX5) (T := TX5) (N := 17) (v := .ref (q 8)) G 0 hinX5 dX5_greatest_23 rfl rfl (by decide) (by decide +kernel) rfl ?_
              refine j_iload G 5 dX5_greatest_26 rfl ?_
              refine j_iald (v := g j) G 9 dX5_greatest_28 rfl (by omega) rfl ?_
              refine j_aload_n G 0 dX5_greatest_29 rfl ?_
              refine j_get (q := 13) (C := RX5) (T := TX5) (N := 17) (v := .ref (q 8)) G 0 hinX5 dX5_greatest_30 rfl rfl (by decide) (by decide +kernel) rfl ?_
              refine j_iload G 4 dX5_greatest_33 rfl ?_
              refine j_iald (v := g b) G 9 dX5_greatest_35 rfl (by omega) rfl ?_
              refine j_icmp_le (tgt := 44) G dX5_greatest_36 (by decide) (by omega) (by omega) (fun c36 => ?_) (fun c36 => ?_)
              · refine j_iload G 4 dX5_greatest_44 rfl ?_
                refine j_istore (lv' := [(4, .int (jI b)), (0, .ref h), (1, .int (jI n)), (2, .int (jI s)), (3, .int (jI i)), (5, .int (jI j))]) G dX5_greatest_46 (by decide) rfl ?_
                refine j_iinc (w := j + 1) (lv' := [(5, .int (jI (j + 1))), (4, .int (jI b)), (0, .ref h), (1, .int (jI n)), (2, .int (jI s)), (3, .int (jI i))]) G 5 dX5_greatest_48 rfl rfl (by decide) rfl ?_
                refine j_goto (tgt := 15) G dX5_greatest_51 (by decide) ?_
                refine j_lv [2, 3, 4, 5, 1, 0] (lv' := [(0, .ref h), (1, .int (jI n)), (2, .int (jI s)), (3, .int (jI i)), (4, .int (jI b)), (5, .int (jI (j + 1)))]) rfl ?_
                exact ih15 (j + 1) b (by omega) (by omega) (by first | exact (gr_step hb hm ⟨hj.1, by omega⟩).1 c36 | exact (gr_step hb hm ⟨hj.1, by omega⟩).1 (by omega) | exact (gr_step hb hm ⟨hj.1, by omega⟩).2 (by omega)) (by omega)
              · refine j_iload G 5 dX5_greatest_39 rfl ?_
                refine j_goto (tgt := 46) G dX5_greatest_41 (by decide) ?_
                refine j_istore (lv' := [(4, .int (jI j)), (0, .ref h), (1, .int (jI n)), (2, .int (jI s)), (3, .int (jI i)), (5, .int (jI j))]) G dX5_greatest_46 (by decide) rfl ?_
                refine j_iinc (w := j + 1) (lv' := [(5, .int (jI (j + 1))), (4, .int (jI j)), (0, .ref h), (1, .int (jI n)), (2, .int (jI s)), (3, .int (jI i))]) G 5 dX5_greatest_48 rfl rfl (by decide) rfl ?_
                refine j_goto (tgt := 15) G dX5_greatest_51 (by decide) ?_
                refine j_lv [2, 3, 4, 5, 1, 0] (lv' := [(0, .ref h), (1, .int (jI n)), (2, .int (jI s)), (3, .int (jI i)), (4, .int (jI j)), (5, .int (jI (j + 1)))]) rfl ?_
                exact ih15 (j + 1) j (by omega) (by omega) (by first | exact (gr_step hb hm ⟨hj.1, by omega⟩).1 c36 | exact (gr_step hb hm ⟨hj.1, by omega⟩).1 (by omega) | exact (gr_step hb hm ⟨hj.1, by omega⟩).2 (by omega)) (by omega)
        refine j_lv [2, 3, 4, 5, 1, 0] (lv' := [(0, .ref h), (1, .int (jI n)), (2, .int (jI s)), (3, .int (jI i)), (4, .int (jI 0)), (5, .int (jI 0))]) rfl ?_
        exact lp15 (Int.toNat ((64 - 0) + 1)) 0 0 (by omega) (by omega) (by intro p a c; omega) (by omega)
  refine j_lv [2, 3, 1, 0] (lv' := [(0, .ref h), (1, .int (jI n)), (2, .int (jI 0)), (3, .int (jI 0))]) rfl ?_
  exact lp4 (Int.toNat ((n - 0) + 1)) 0 0 lo (by omega) (by rw [Int.sub_zero, Int.zero_add]) (by exact hL) (by omega)

set_option maxHeartbeats 4000000 in
set_option maxRecDepth 100000 in
theorem c_X5_storm (l : Launch) (D : va_G) (Y : Nat → ClassId) (h : Nat) (q : Nat → Nat) (z : Int → Int) (sp : Int → Int) (pa : Int → Int) (st : Int) (ke : Int → Int) (ik : Int) (tx : Int → Int) (ln : Int) (sn : Int) (se : Int) (dn : Int → Int) (up : Int → Int) (fa : Int → Int) (lo : Int → Int) (to : Int → Int) (tm : Int) (so : Int) (hI : Inv z) (hst : 0 ≤ st ∧ st ≤ 4) : jM l yX5_storm wsX5_storm { frames := 3, cells := 0, slots := 0, locals := 66 } D Y [.ref h] (mV Y h q z sp pa st ke ik tx ln sn se dn up fa lo to tm so) (fun v_ w_ => ∃ (d2 : Int → Int) (u2 : Int → Int) (l2 : Int → Int), v_ = some (.int (jI (F_storm z))) ∧ w_ = (mV Y h q (G_storm z) sp (mPa (F_storm z) st pa z) (hSz (F_storm z) st) ke ik tx ln sn se d2 u2 fa l2 to tm so)) 0 0 := by
  refine jM_of (cc := cX5_storm) (maxL := 5) (ret := (some .int)) (by decide) rfl (Nat.le_of_ble_eq_true rfl) (fun v w' h => by obtain ⟨_, _, _, h⟩ := h; exact Or.inr (Or.inl ⟨_, _, rfl, h.1, rfl⟩)) ?_
  intro x G kr0
  have G : jG x l D Y cX5_storm RX5 wsX5_storm 5 ({ frames := 3, cells := 0, slots := 0, locals := 66 } : Room) (some .int) "storm" := G
  have hinX5 : ∀ w ∈ wsX50, w ∈ wsX5_storm := fun _ h => List.mem_cons_of_mem _ (List.mem_append_right _ h)
  have f0 := pAll_b (tZ z)
  show J x 0 0 (mV Y h q z sp pa st ke ik tx ln sn se dn up fa lo to tm so) 0 [(0, .ref h)] []
  refine j_aload_n G 0 dX5_storm_0 rfl ?_
  refine j_callV (nA := 0) (As := []) (st := []) (wc := (mV Y h q z sp pa st ke ik tx ln sn se dn up fa lo to tm so)) (wr := []) G (c_X5_paths l D Y h q z sp pa st ke ik tx ln sn se dn up fa lo to tm so (by first | assumption | exact hI.tR)) dX5_storm_1 rfl gX5_storm_X5_paths rfl rfl rfl (by decide +kernel) ⟨by decide, by decide⟩ rfl 0 rfl rfl rfl (jLe.nil (jLe.rf _)) (Nat.le_of_ble_eq_true rfl) ⟨Nat.zero_le _, Nat.zero_le _⟩ (fun v_ w_ hp_ => ?_)
  obtain ⟨rfl, rfl⟩ := hp_
  show J x 0 0 (mV Y h q z sp pa st ke ik tx ln sn se (pAb (tZ z)) (pBe (tZ z)) fa lo to tm so) 4 [(0, .ref h)] [.int (jI (pAll (tZ z)))]
  refine j_iconst G dX5_storm_4 (v := 1) rfl ?_
  refine j_icmp_le (tgt := 11) G dX5_storm_5 (by decide) (by omega) (by omega) (fun c5 => ?_) (fun c5 => ?_)
  · refine j_aload_n G 0 dX5_storm_11 rfl ?_
    refine j_callV (nA := 0) (As := []) (st := []) (wc := (mV Y h q z sp pa st ke ik tx ln sn se (pAb (tZ z)) (pBe (tZ z)) fa lo to tm so)) (wr := []) G (c_X5_record l D Y h q z sp pa st ke ik tx ln sn se (pAb (tZ z)) (pBe (tZ z)) fa lo to tm so (by assumption)) dX5_storm_12 rfl gX5_storm_X5_record rfl rfl rfl (by decide +kernel) ⟨by decide, by decide⟩ rfl 0 rfl rfl rfl (jLe.nil (jLe.rf _)) (Nat.le_of_ble_eq_true rfl) ⟨Nat.zero_le _, Nat.zero_le _⟩ (fun v_ w_ hp_ => ?_)
    obtain ⟨rfl, rfl⟩ := hp_
    show J x 0 0 (mV Y h q z sp (paP st pa z) (hUp st) ke ik tx ln sn se (pAb (tZ z)) (pBe (tZ z)) fa lo to tm so) 15 [(0, .ref h)] []
    refine j_iconst G dX5_storm_15 (v := 0) rfl ?_
    refine j_istore_n (lv' := [(1, .int (jI 0)), (0, .ref h)]) G dX5_storm_16 (by decide) rfl ?_
    refine j_iconst G dX5_storm_17 (v := 0) rfl ?_
    refine j_istore_n (lv' := [(2, .int (jI 0)), (1, .int (jI 0)), (0, .ref h)]) G dX5_storm_18 (by decide) rfl ?_
    refine j_iconst G dX5_storm_19 (v := 0) rfl ?_
    refine j_istore_n (lv' := [(3, .int (jI 0)), (2, .int (jI 0)), (1, .int (jI 0)), (0, .ref h)]) G dX5_storm_20 (by decide) rfl ?_
    have lp21 : ∀ (n_ : Nat) (i : Int) (s : Int) (v : Int) (g : Int → Int), (0 ≤ i ∧ i ≤ 64) → (s = sumI i.toNat (zLW z (tZ z))) → (v = sumI i.toNat (fun p => if ¬ z (156 + p) = 0 ∧ ¬ 0 < zHi z (tZ z) p then 1 else 0)) → (∀ j : Int, 0 ≤ j → j < i → g j = zLW z (tZ z) j) → (64 - i) < (n_ : Int) → J x 0 0 (mV Y h q z sp (paP st pa z) (hUp st) ke ik tx ln sn se (pAb (tZ z)) (pBe (tZ z)) fa g to tm so) 21 [(0, .ref h), (1, .int (jI s)), (2, .int (jI v)), (3, .int (jI i))] [] := by
      intro n_
      induction n_ with
      | zero =>
        intro i s v g hi hs hv hg hm_
        exact absurd hm_ (by omega)
      | succ n_ ih21 =>
        intro i s v g hi hs hv hg hm_
        refine j_iload_n G 3 dX5_storm_21 rfl ?_
        refine j_bipush G dX5_storm_22 (v := 64) rfl ?_
        refine j_icmp_ge (tgt := 103) G dX5_storm_24 (by decide) (by omega) (by omega) (fun c24 => ?_) (fun c24 => ?_)
        · have hsF : s = zLost z (tZ z) := by rw [hs, show i = 64 by omega]; rfl
          have hvF : v = zVa z (tZ z) := by rw [hv, show i = 64 by omega]; rfl
          have hgF : ∀ j : Int, 0 ≤ j → j < 64 → g j = zLW z (tZ z) j := fun j a b => hg j a (by omega)
          refine j_iconst G dX5_storm_103 (v := 0) rfl ?_
          refine j_istore_n (lv' := [(3, .int (jI 0)), (0, .ref h), (1, .int (jI s)), (2, .int (jI v))]) G dX5_storm_104 (by decide) rfl ?_
          have lp105 : ∀ (n_ : Nat) (i5 : Int) (g5 : Int → Int), (0 ≤ i5 ∧ i5 ≤ 64) → (∀ j : Int, 0 ≤ j → j < 220 → g5 j = if 28 ≤ j ∧ j < 28 + i5 then z j - zLW z (tZ z) (j - 28) else if 156 ≤ j ∧ j < 156 + i5 then 0 else z j) → (64 - i5) < (n_ : Int) → J x 0 0 (mV Y h q g5 sp (paP st pa z) (hUp st) ke ik tx ln sn se (pAb (tZ z)) (pBe (tZ z)) fa g to tm so) 105 [(0, .ref h), (1, .int (jI s)), (2, .int (jI v)), (3, .int (jI i5))] [] := by
            intro n_
            induction n_ with
            | zero =>
              intro i5 g5 hi5 hg5 hm_
              exact absurd hm_ (by omega)
            | succ n_ ih105 =>
              intro i5 g5 hi5 hg5 hm_
              refine j_iload_n G 3 dX5_storm_105 rfl ?_
              refine j_bipush G dX5_storm_106 (v := 64) rfl ?_
              refine j_icmp_ge (tgt := 146) G dX5_storm_108 (by decide) (by omega) (by omega) (fun c108 => ?_) (fun c108 => ?_)
              · refine j_iconst G dX5_storm_146 (v := 0) rfl ?_
                refine j_istore_n (lv' := [(3, .int (jI 0)), (0, .ref h), (1, .int (jI s)), (2, .int (jI v))]) G dX5_storm_147 (by decide) rfl ?_
                have lp148 : ∀ (n_ : Nat) (i6 : Int) (g6 : Int → Int), (0 ≤ i6 ∧ i6 ≤ 8) → (∀ j : Int, 0 ≤ j → j < 220 → g6 j = if 7 ≤ j ∧ j < 7 + i6 then -5 else g5 j) → (8 - i6) < (n_ : Int) → J x 0 0 (mV Y h q g6 sp (paP st pa z) (hUp st) ke ik tx ln sn se (pAb (tZ z)) (pBe (tZ z)) fa g to tm so) 148 [(0, .ref h), (1, .int (jI s)), (2, .int (jI v)), (3, .int (jI i6))] [] := by
                  intro n_
                  induction n_ with
                  | zero =>
                    intro i6 g6 hi6 hg6 hm_
                    exact absurd hm_ (by omega)
                  | succ n_ ih148 =>
                    intro i6 g6 hi6 hg6 hm_
                    refine j_iload_n G 3 dX5_storm_148 rfl ?_
                    refine j_bipush G dX5_storm_149 (v := 8) rfl ?_
                    refine j_icmp_ge (tgt := 171) G dX5_storm_151 (by decide) (by omega) (by omega) (fun c151 => ?_) (fun c151 => ?_)
                    · refine j_aload_n G 0 dX5_storm_171 rfl ?_
                      refine j_get (q := 0) (C := RX5) (T := TX5) (N := 17) (v := .ref (q 0)) G 0 hinX5 dX5_storm_172 rfl rfl (by decide) (by decide +kernel) rfl ?_
                      refine j_iconst G dX5_storm_175 (v := 4) rfl ?_
                      refine j_dup2 G dX5_storm_176 rfl rfl ?_
                      refine j_iald (v := g6 4) G 1 dX5_storm_177 rfl (by omega) rfl ?_
                      refine j_iload_n G 1 dX5_storm_178 rfl ?_
                      refine j_iadd G dX5_storm_179 ?_
                      refine j_iast (ws' := mV Y h q (upZ g6 4 ((g6 4) + s)) sp (paP st pa z) (hUp st) ke ik tx ln sn se (pAb (tZ z)) (pBe (tZ z)) fa g to tm so) G 1 dX5_storm_180 rfl (by omega) rfl ?_
                      refine j_aload_n G 0 dX5_storm_181 rfl ?_
                      refine j_get (q := 0) (C := RX5) (T := TX5) (N := 17) (v := .ref (q 0)) G 0 hinX5 dX5_storm_182 rfl rfl (by decide) (by decide +kernel) rfl ?_
                      refine j_iconst G dX5_storm_185 (v := 5) rfl ?_
                      refine j_dup2 G dX5_storm_186 rfl rfl ?_
                      refine j_iald (v := (upZ g6 4 ((g6 4) + s)) 5) G 1 dX5_storm_187 rfl (by omega) rfl ?_
                      refine j_aload_n G 0 dX5_storm_188 rfl ?_
                      refine j_iload_n G 2 dX5_storm_189 rfl ?_
                      refine j_callV (nA := 1) (As := [.int (jI v)]) (st := [.int (jI ((upZ g6 4 ((g6 4) + s)) 5)), .int (jI 5), .ref (q 0)]) (wc := (mV Y h q (upZ g6 4 ((g6 4) + s)) sp (paP st pa z) (hUp st) ke ik tx ln sn se (pAb (tZ z)) (pBe (tZ z)) fa g to tm so)) (wr := []) G (c_X5_greatest l D Y h q (upZ g6 4 ((g6 4) + s)) sp (paP st pa z) (hUp st) ke ik tx ln sn se (pAb (tZ z)) (pBe (tZ z)) fa g to tm so v (by rw [hvF]; exact zVa_b z (tZ z)) (by intro p a b; rw [hgF p a b]; exact zLW_b (tZ z) hI p a b)) dX5_storm_190 rfl gX5_storm_X5_greatest rfl rfl rfl (by decide +kernel) ⟨by decide, by decide⟩ rfl 0 rfl rfl rfl (jLe.nil (jLe.rf _)) (Nat.le_of_ble_eq_true rfl) ⟨Nat.zero_le _, Nat.zero_le _⟩ (fun v_ w_ hp_ => ?_)
                      obtain ⟨l2_1, rfl, rfl⟩ := hp_
                      show J x 0 0 (mV Y h q (upZ g6 4 ((g6 4) + s)) sp (paP st pa z) (hUp st) ke ik tx ln sn se (pAb (tZ z)) (pBe (tZ z)) fa l2_1 to tm so) 193 [(0, .ref h), (1, .int (jI s)), (2, .int (jI v)), (3, .int (jI i6))] [.int (jI (zTop g v)), .int (jI ((upZ g6 4 ((g6 4) + s)) 5)), .int (jI 5), .ref (q 0)]
                      refine j_iadd G dX5_storm_193 ?_
                      refine j_iast (ws' := mV Y h q (upZ (upZ g6 4 ((g6 4) + s)) 5 (((upZ g6 4 ((g6 4) + s)) 5) + (zTop g v))) sp (paP st pa z) (hUp st) ke ik tx ln sn se (pAb (tZ z)) (pBe (tZ z)) fa l2_1 to tm so) G 1 dX5_storm_194 rfl (by omega) rfl ?_
                      refine j_aload_n G 0 dX5_storm_195 rfl ?_
                      refine j_get (q := 0) (C := RX5) (T := TX5) (N := 17) (v := .ref (q 0)) G 0 hinX5 dX5_storm_196 rfl rfl (by decide) (by decide +kernel) rfl ?_
                      refine j_bipush G dX5_storm_199 (v := 6) rfl ?_
                      refine j_dup2 G dX5_storm_201 rfl rfl ?_
                      refine j_iald (v := (upZ (upZ g6 4 ((g6 4) + s)) 5 (((upZ g6 4 ((g6 4) + s)) 5) + (zTop g v))) 6) G 1 dX5_storm_202 rfl (by omega) rfl ?_
                      refine j_iconst G dX5_storm_203 (v := 1) rfl ?_
                      refine j_iadd G dX5_storm_204 ?_
                      refine j_iast (ws' := mV Y h q (upZ (upZ (upZ g6 4 ((g6 4) + s)) 5 (((upZ g6 4 ((g6 4) + s)) 5) + (zTop g v))) 6 (((upZ (upZ g6 4 ((g6 4) + s)) 5 (((upZ g6 4 ((g6 4) + s)) 5) + (zTop g v))) 6) + 1)) sp (paP st pa z) (hUp st) ke ik tx ln sn se (pAb (tZ z)) (pBe (tZ z)) fa l2_1 to tm so) G 1 dX5_storm_205 rfl (by omega) rfl ?_
                      refine j_iload_n G 1 dX5_storm_206 rfl ?_
                      exact j_reti G dX5_storm_207 (by unfold F_storm; rw [if_neg (by omega), hsF]) (by have hF : 0 ≤ F_storm z := (by unfold F_storm; rw [if_neg (by omega)]; exact (zLost_b (tZ z) hI).1); rw [show G_storm z = GS z (tZ z) from if_neg (by omega), show mPa (F_storm z) st pa z = paP st pa z from if_pos (by omega), show hSz (F_storm z) st = hUp st from if_pos (by omega)]; exact mV_zl (storm_fin (show i5 = 64 by omega) (show i6 = 8 by omega) hg5 hg6 hsF (by rw [hvF]; exact zTop_congr hgF))) (kr0 _ _ ⟨(pAb (tZ z)), (pBe (tZ z)), l2_1, rfl, rfl⟩)
                    · refine j_aload_n G 0 dX5_storm_154 rfl ?_
                      refine j_get (q := 0) (C := RX5) (T := TX5) (N := 17) (v := .ref (q 0)) G 0 hinX5 dX5_storm_155 rfl rfl (by decide) (by decide +kernel) rfl ?_
                      refine j_bipush G dX5_storm_158 (v := 7) rfl ?_
                      refine j_iload_n G 3 dX5_storm_160 rfl ?_
                      refine j_iadd G dX5_storm_161 ?_
                      refine j_bipush G dX5_storm_162 (v := (-5)) rfl ?_
                      refine j_iast (ws' := mV Y h q (upZ g6 (7 + i6) (-5)) sp (paP st pa z) (hUp st) ke ik tx ln sn se (pAb (tZ z)) (pBe (tZ z)) fa g to tm so) G 1 dX5_storm_164 rfl (by omega) rfl ?_
                      refine j_iinc (w := i6 + 1) (lv' := [(3, .int (jI (i6 + 1))), (0, .ref h), (1, .int (jI s)), (2, .int (jI v))]) G 3 dX5_storm_165 rfl rfl (by decide) rfl ?_
                      refine j_goto (tgt := 148) G dX5_storm_168 (by decide) ?_
                      refine j_lv [1, 2, 3, 0] (lv' := [(0, .ref h), (1, .int (jI s)), (2, .int (jI v)), (3, .int (jI (i6 + 1)))]) rfl ?_
                      exact ih148 (i6 + 1) (upZ g6 (7 + i6) (-5)) (by omega) (by exact ar_step (F := fun _ => -5) hi6.1 hg6 rfl) (by omega)
                refine j_lv [1, 2, 3, 0] (lv' := [(0, .ref h), (1, .int (jI s)), (2, .int (jI v)), (3, .int (jI 0))]) rfl ?_
                exact lp148 (Int.toNat ((8 - 0) + 1)) 0 g5 (by omega) (by intro j h0 h1; rw [if_neg (by omega)]) (by omega)
              · refine j_aload_n G 0 dX5_storm_111 rfl ?_
                refine j_get (q := 0) (C := RX5) (T := TX5) (N := 17) (v := .ref (q 0)) G 0 hinX5 dX5_storm_112 rfl rfl (by decide) (by decide +kernel) rfl ?_
                refine j_bipush G dX5_storm_115 (v := 28) rfl ?_
                refine j_iload_n G 3 dX5_storm_117 rfl ?_
                refine j_iadd G dX5_storm_118 ?_
                refine j_dup2 G dX5_storm_119 rfl rfl ?_
                refine j_iald (v := g5 (28 + i5)) G 1 dX5_storm_120 rfl (by omega) rfl ?_
                refine j_aload_n G 0 dX5_storm_121 rfl ?_
                refine j_get (q := 13) (C := RX5) (T := TX5) (N := 17) (v := .ref (q 8)) G 0 hinX5 dX5_storm_122 rfl rfl (by decide) (by decide +kernel) rfl ?_
                refine j_iload_n G 3 dX5_storm_125 rfl ?_
                refine j_iald (v := g i5) G 9 dX5_storm_126 rfl (by omega) rfl ?_
                refine j_isub G dX5_storm_127 ?_
                refine j_iast (ws' := mV Y h q (upZ g5 (28 + i5) ((g5 (28 + i5)) - (g i5))) sp (paP st pa z) (hUp st) ke ik tx ln sn se (pAb (tZ z)) (pBe (tZ z)) fa g to tm so) G 1 dX5_storm_128 rfl (by omega) rfl ?_
                refine j_aload_n G 0 dX5_storm_129 rfl ?_
                refine j_get (q := 0) (C := RX5) (T := TX5) (N := 17) (v := .ref (q 0)) G 0 hinX5 dX5_storm_130 rfl rfl (by decide) (by decide +kernel) rfl ?_
                refine j_sipush G dX5_storm_133 (v := 156) rfl ?_
                refine j_iload_n G 3 dX5_storm_136 rfl ?_
                refine j_iadd G dX5_storm_137 ?_
                refine j_iconst G dX5_storm_138 (v := 0) rfl ?_
                refine j_iast (ws' := mV Y h q (upZ (upZ g5 (28 + i5) ((g5 (28 + i5)) - (g i5))) (156 + i5) 0) sp (paP st pa z) (hUp st) ke ik tx ln sn se (pAb (tZ z)) (pBe (tZ z)) fa g to tm so) G 1 dX5_storm_139 rfl (by omega) rfl ?_
                refine j_iinc (w := i5 + 1) (lv' := [(3, .int (jI (i5 + 1))), (0, .ref h), (1, .int (jI s)), (2, .int (jI v))]) G 3 dX5_storm_140 rfl rfl (by decide) rfl ?_
                refine j_goto (tgt := 105) G dX5_storm_143 (by decide) ?_
                refine j_lv [1, 2, 3, 0] (lv' := [(0, .ref h), (1, .int (jI s)), (2, .int (jI v)), (3, .int (jI (i5 + 1)))]) rfl ?_
                exact ih105 (i5 + 1) (upZ (upZ g5 (28 + i5) ((g5 (28 + i5)) - (g i5))) (156 + i5) 0) (by omega) (by exact st_step hi5.1 hg5 (by rw [hg5 (28 + i5) (by omega) (by omega), if_neg (by omega), if_neg (by omega), hgF i5 (by omega) (by omega)])) (by omega)
          refine j_lv [1, 2, 3, 0] (lv' := [(0, .ref h), (1, .int (jI s)), (2, .int (jI v)), (3, .int (jI 0))]) rfl ?_
          exact lp105 (Int.toNat ((64 - 0) + 1)) 0 z (by omega) (by intro j h0 h1; rw [if_neg (by omega), if_neg (by omega)]) (by omega)
        · have f27 : 0 ≤ zHi z (tZ z) i ∧ zHi z (tZ z) i ≤ 17496 := pHi_b (tZ z) (z 1) (p := i) (by omega)
          have f40 := hI.fe i (by omega) (by omega)
          refine j_aload_n G 0 dX5_storm_27 rfl ?_
          refine j_iload_n G 3 dX5_storm_28 rfl ?_
          refine j_callV (nA := 1) (As := [.int (jI i)]) (st := []) (wc := (mV Y h q z sp (paP st pa z) (hUp st) ke ik tx ln sn se (pAb (tZ z)) (pBe (tZ z)) fa g to tm so)) (wr := []) G (c_X5_hits l D Y h q z sp (paP st pa z) (hUp st) ke ik tx ln sn se fa g to tm so i (by first | assumption | omega) (by first | assumption | exact hI.s1)) dX5_storm_29 rfl gX5_storm_X5_hits rfl rfl rfl (by decide +kernel) ⟨by decide, by decide⟩ rfl 0 rfl rfl rfl (jLe.nil (jLe.rf _)) (Nat.le_of_ble_eq_true rfl) ⟨Nat.zero_le _, Nat.zero_le _⟩ (fun v_ w_ hp_ => ?_)
          obtain ⟨rfl, rfl⟩ := hp_
          show J x 0 0 (mV Y h q z sp (paP st pa z) (hUp st) ke ik tx ln sn se (pAb (tZ z)) (pBe (tZ z)) fa g to tm so) 32 [(0, .ref h), (1, .int (jI s)), (2, .int (jI v)), (3, .int (jI i))] [.int (jI (zHi z (tZ z) i))]
          refine j_if_le (tgt := 39) G dX5_storm_32 (by decide) (by omega) (fun c32 => ?_) (fun c32 => ?_)
          · refine j_iconst G dX5_storm_39 (v := 0) rfl ?_
            refine j_istore (lv' := [(4, .int (jI 0)), (0, .ref h), (1, .int (jI s)), (2, .int (jI v)), (3, .int (jI i))]) G dX5_storm_40 (by decide) rfl ?_
            refine j_aload_n G 1 dX5_storm_42 rfl ?_
            refine j_get (q := 13) (C := RX5) (T := TX5) (N := 17) (v := .ref (q 8)) G 0 hinX5 dX5_storm_43 rfl rfl (by decide) (by decide +kernel) rfl ?_
            refine j_iload_n G 4 dX5_storm_46 rfl ?_
            refine j_iload G 0 dX5_storm_47 rfl ?_
            refine j_if_eq (tgt := 64) G dX5_storm_49 (by decide) (by omega) (fun c49 => ?_) (fun c49 => absurd c49 (by omega))
            refine j_iconst G dX5_storm_64 (v := 0) rfl ?_
            refine j_iast (ws' := mV Y h q z sp (paP st pa z) (hUp st) ke ik tx ln sn se (pAb (tZ z)) (pBe (tZ z)) fa (upZ g i 0) to tm so) G 9 dX5_storm_65 rfl (by omega) rfl ?_
            refine j_iload_n G 2 dX5_storm_66 rfl ?_
            refine j_aload_n G 1 dX5_storm_67 rfl ?_
            refine j_get (q := 13) (C := RX5) (T := TX5) (N := 17) (v := .ref (q 8)) G 0 hinX5 dX5_storm_68 rfl rfl (by decide) (by decide +kernel) rfl ?_
            refine j_iload_n G 4 dX5_storm_71 rfl ?_
            refine j_iald (v := (upZ g i 0) i) G 9 dX5_storm_72 rfl (by omega) rfl ?_
            refine j_iadd G dX5_storm_73 ?_
            refine j_istore_n (lv' := [(1, .int (jI (s + ((upZ g i 0) i)))), (4, .int (jI 0)), (0, .ref h), (2, .int (jI v)), (3, .int (jI i))]) G dX5_storm_74 (by decide) rfl ?_
            refine j_iload_n G 3 dX5_storm_75 rfl ?_
            refine j_iload G 1 dX5_storm_76 rfl ?_
            refine j_if_eq (tgt := 85) G dX5_storm_78 (by decide) (by omega) (fun c78 => ?_) (fun c78 => absurd c78 (by omega))
            refine j_aload_n G 2 dX5_storm_85 rfl ?_
            refine j_get (q := 0) (C := RX5) (T := TX5) (N := 17) (v := .ref (q 0)) G 0 hinX5 dX5_storm_86 rfl rfl (by decide) (by decide +kernel) rfl ?_
            refine j_sipush G dX5_storm_89 (v := 156) rfl ?_
            refine j_iload_n G 4 dX5_storm_92 rfl ?_
            refine j_iadd G dX5_storm_93 ?_
            refine j_iald (v := z (156 + i)) G 1 dX5_storm_94 rfl (by omega) rfl ?_
            refine j_iadd G dX5_storm_95 ?_
            refine j_istore_n (lv' := [(2, .int (jI (v + (z (156 + i))))), (1, .int (jI (s + ((upZ g i 0) i)))), (4, .int (jI 0)), (0, .ref h), (3, .int (jI i))]) G dX5_storm_96 (by decide) rfl ?_
            refine j_iinc (w := i + 1) (lv' := [(3, .int (jI (i + 1))), (2, .int (jI (v + (z (156 + i))))), (1, .int (jI (s + ((upZ g i 0) i)))), (4, .int (jI 0)), (0, .ref h)]) G 4 dX5_storm_97 rfl rfl (by decide) rfl ?_
            refine j_goto (tgt := 21) G dX5_storm_100 (by decide) ?_
            refine j_lv [4, 2, 1, 0] (lv' := [(0, .ref h), (1, .int (jI (s + ((upZ g i 0) i)))), (2, .int (jI (v + (z (156 + i))))), (3, .int (jI (i + 1)))]) rfl ?_
            exact ih21 (i + 1) (s + ((upZ g i 0) i)) (v + (z (156 + i))) (upZ g i 0) (by omega) (by rw [sumI_S hi.1, hs, upZ_eq _ _ _ rfl]; congr 1; unfold zLW; first | exact (if_pos c32).symm | exact (if_neg c32).symm | exact (if_pos (by omega)).symm | exact (if_neg (by omega)).symm) (by rw [sumI_S hi.1, hv]; congr 1; first | rw [if_neg (by omega)] | (rcases f40 with e | e; rw [e, if_neg (by omega)]; rw [e, if_pos (by omega)])) (by exact upZ_step hg (by unfold zLW; first | exact (if_pos (by omega)).symm | exact (if_neg (by omega)).symm)) (by omega)
          · refine j_iconst G dX5_storm_35 (v := 1) rfl ?_
            refine j_goto (tgt := 40) G dX5_storm_36 (by decide) ?_
            refine j_istore (lv' := [(4, .int (jI 1)), (0, .ref h), (1, .int (jI s)), (2, .int (jI v)), (3, .int (jI i))]) G dX5_storm_40 (by decide) rfl ?_
            refine j_aload_n G 1 dX5_storm_42 rfl ?_
            refine j_get (q := 13) (C := RX5) (T := TX5) (N := 17) (v := .ref (q 8)) G 0 hinX5 dX5_storm_43 rfl rfl (by decide) (by decide +kernel) rfl ?_
            refine j_iload_n G 4 dX5_storm_46 rfl ?_
            refine j_iload G 0 dX5_storm_47 rfl ?_
            refine j_if_eq (tgt := 64) G dX5_storm_49 (by decide) (by omega) (fun c49 => absurd c49 (by omega)) (fun c49 => ?_)
            refine j_aload_n G 1 dX5_storm_52 rfl ?_
            refine j_get (q := 0) (C := RX5) (T := TX5) (N := 17) (v := .ref (q 0)) G 0 hinX5 dX5_storm_53 rfl rfl (by decide) (by decide +kernel) rfl ?_
            refine j_bipush G dX5_storm_56 (v := 28) rfl ?_
            refine j_iload_n G 4 dX5_storm_58 rfl ?_
            refine j_iadd G dX5_storm_59 ?_
            refine j_iald (v := z (28 + i)) G 1 dX5_storm_60 rfl (by omega) rfl ?_
            refine j_goto (tgt := 65) G dX5_storm_61 (by decide) ?_
            refine j_iast (ws' := mV Y h q z sp (paP st pa z) (hUp st) ke ik tx ln sn se (pAb (tZ z)) (pBe (tZ z)) fa (upZ g i (z (28 + i))) to tm so) G 9 dX5_storm_65 rfl (by omega) rfl ?_
            refine j_iload_n G 2 dX5_storm_66 rfl ?_
            refine j_aload_n G 1 dX5_storm_67 rfl ?_
            refine j_get (q := 13) (C := RX5) (T := TX5) (N := 17) (v := .ref (q 8)) G 0 hinX5 dX5_storm_68 rfl rfl (by decide) (by decide +kernel) rfl ?_
            refine j_iload_n G 4 dX5_storm_71 rfl ?_
            refine j_iald (v := (upZ g i (z (28 + i))) i) G 9 dX5_storm_72 rfl (by omega) rfl ?_
            refine j_iadd G dX5_storm_73 ?_
            refine j_istore_n (lv' := [(1, .int (jI (s + ((upZ g i (z (28 + i))) i)))), (4, .int (jI 1)), (0, .ref h), (2, .int (jI v)), (3, .int (jI i))]) G dX5_storm_74 (by decide) rfl ?_
            refine j_iload_n G 3 dX5_storm_75 rfl ?_
            refine j_iload G 1 dX5_storm_76 rfl ?_
            refine j_if_eq (tgt := 85) G dX5_storm_78 (by decide) (by omega) (fun c78 => absurd c78 (by omega)) (fun c78 => ?_)
            refine j_iconst G dX5_storm_81 (v := 0) rfl ?_
            refine j_goto (tgt := 95) G dX5_storm_82 (by decide) ?_
            refine j_iadd G dX5_storm_95 ?_
            refine j_istore_n (lv' := [(2, .int (jI (v + 0))), (1, .int (jI (s + ((upZ g i (z (28 + i))) i)))), (4, .int (jI 1)), (0, .ref h), (3, .int (jI i))]) G dX5_storm_96 (by decide) rfl ?_
            refine j_iinc (w := i + 1) (lv' := [(3, .int (jI (i + 1))), (2, .int (jI (v + 0))), (1, .int (jI (s + ((upZ g i (z (28 + i))) i)))), (4, .int (jI 1)), (0, .ref h)]) G 4 dX5_storm_97 rfl rfl (by decide) rfl ?_
            refine j_goto (tgt := 21) G dX5_storm_100 (by decide) ?_
            refine j_lv [4, 2, 1, 0] (lv' := [(0, .ref h), (1, .int (jI (s + ((upZ g i (z (28 + i))) i)))), (2, .int (jI (v + 0))), (3, .int (jI (i + 1)))]) rfl ?_
            exact ih21 (i + 1) (s + ((upZ g i (z (28 + i))) i)) (v + 0) (upZ g i (z (28 + i))) (by omega) (by rw [sumI_S hi.1, hs, upZ_eq _ _ _ rfl]; congr 1; unfold zLW; first | exact (if_pos c32).symm | exact (if_neg c32).symm | exact (if_pos (by omega)).symm | exact (if_neg (by omega)).symm) (by rw [sumI_S hi.1, hv]; congr 1; first | rw [if_neg (by omega)] | (rcases f40 with e | e; rw [e, if_neg (by omega)]; rw [e, if_pos (by omega)])) (by exact upZ_step hg (by unfold zLW; first | exact (if_pos (by omega)).symm | exact (if_neg (by omega)).symm)) (by omega)
    refine j_lv [3, 2, 1, 0] (lv' := [(0, .ref h), (1, .int (jI 0)), (2, .int (jI 0)), (3, .int (jI 0))]) rfl ?_
    exact lp21 (Int.toNat ((64 - 0) + 1)) 0 0 0 lo (by omega) (by rfl) (by rfl) (by intro j h0 h1; omega) (by omega)
  · refine j_bipush G dX5_storm_8 (v := (-4)) rfl ?_
    exact j_reti G dX5_storm_10 (by unfold F_storm; rw [if_pos (by omega)]) (by have hF : F_storm z < 0 := (by unfold F_storm; rw [if_pos (by omega)]; omega); rw [show G_storm z = z from if_pos (by omega), show mPa (F_storm z) st pa z = pa from if_neg (by omega), show hSz (F_storm z) st = st from if_neg (by omega)]; exact jLe.rf _) (kr0 _ _ ⟨(pAb (tZ z)), (pBe (tZ z)), lo, rfl, rfl⟩)
