set_option maxHeartbeats 40000000 in
set_option maxRecDepth 100000 in
theorem c_L_areRows (l : Launch) (D : va_G) (Y : Nat → ClassId) (h : Nat) (ad : Nat → Nat) (aq : Nat → Nat → Nat) (e : oE) (z zs : Int → Int) (ik sz : Int) (S : Nat → Int → Int)  (hI : Inv z) (hB : Bd 48 z) (hsz : 0 ≤ sz ∧ sz ≤ 4) : jM l yL_areRows wsU_areRows { frames := 6, cells := 0, slots := 0, locals := 136 } D Y [.ref h] (oW Y h ad aq e z zs ik sz S) (fun v_ w_ => ∃ e2 : oE, v_ = some (.int (jI 1)) ∧ w_ = oW Y h ad aq e2 z zs ik sz S) 0 0 := by
  refine jM_of (cc := cL_areRows) (maxL := 14) (ret := some .boolean) (by decide) rfl (Nat.le_of_ble_eq_true rfl) (fun v w' h => by obtain ⟨_, h, _⟩ := h; exact Or.inr (Or.inl ⟨_, _, rfl, h, jI_z (Or.inr rfl)⟩)) ?_
  intro x_ G kr0
  have G : jG x_ l D Y cL_areRows RL wsU_areRows 14 ({ frames := 6, cells := 0, slots := 0, locals := 136 } : Room) (some .boolean) "areRows" := G
  show J x_ 0 0 (oW Y h ad aq e z zs ik sz S) 0 [(0, .ref h)] []
  refine j_aload_n G 0 dL_areRows_0 rfl ?_
  refine j_iconst G dL_areRows_1 (v := 5) rfl ?_
  refine jo_count (r0 := pAll (tZ z)) G dL_areRows_2 (goodIn_up _ gvX4_count) ⟨by decide, by decide⟩ (Nat.le_of_ble_eq_true rfl) ⟨Nat.zero_le _, Nat.zero_le _⟩ (by exact hI) (by omega) (by rfl) (fun e_1 => ?_)
  have f2_ := bn5 hI
  refine j_istore_n (lv' := [(1, .int (jI (pAll (tZ z)))), (0, .ref h)]) G dL_areRows_5 (by decide) rfl ?_
  refine j_iconst G dL_areRows_6 (v := 0) rfl ?_
  refine j_istore_n (lv' := [(2, .int (jI 0)), (1, .int (jI (pAll (tZ z)))), (0, .ref h)]) G dL_areRows_7 (by decide) rfl ?_
  refine j_aload_n G 2 dL_areRows_8 rfl ?_
  refine jo_openRow (r0 := F_open z) G dL_areRows_9 (goodIn_up _ gvX4_openRow) ⟨by decide, by decide⟩ (Nat.le_of_ble_eq_true rfl) ⟨Nat.zero_le _, Nat.zero_le _⟩ (by exact hI) (by rfl) (fun e_2 => ?_)
  have f9_ := bop z
  have f9 := open_none hI
  have f9b := bop z
  refine j_istore_n (lv' := [(3, .int (jI (F_open z))), (2, .int (jI 0)), (1, .int (jI (pAll (tZ z)))), (0, .ref h)]) G dL_areRows_12 (by decide) rfl ?_
  refine j_iconst G dL_areRows_13 (v := 0) rfl ?_
  refine j_istore (lv' := [(4, .int (jI 0)), (3, .int (jI (F_open z))), (2, .int (jI 0)), (1, .int (jI (pAll (tZ z)))), (0, .ref h)]) G dL_areRows_14 (by decide) rfl ?_
  refine j_iload_n G 1 dL_areRows_16 rfl ?_
  refine j_bipush G dL_areRows_17 (v := (-5)) rfl ?_
  obtain ⟨tv_3, htv_3⟩ : ∃ v_ : Int, v_ = (if (F_open z) = (-5) then 1 else 0) := ⟨_, rfl⟩
  suffices hj_4 : J x_ 0 0 (oW Y h ad aq e_2 z zs ik sz S) 27 [(4, .int (jI 0)), (3, .int (jI (F_open z))), (2, .int (jI 0)), (1, .int (jI (pAll (tZ z)))), (0, .ref h)] [.int (jI tv_3)] by
    refine j_icmp_ne (tgt := 26) G dL_areRows_19 (by decide) (by omega) (by omega) (fun c19 => ?_) (fun c19 => ?_)
    · refine j_iconst G dL_areRows_26 (v := 0) rfl ?_
      rw [if_neg (show ¬ ((F_open z) = (-5)) by omega)] at htv_3
      subst htv_3
      exact hj_4
    · refine j_iconst G dL_areRows_22 (v := 1) rfl ?_
      refine j_goto (tgt := 27) G dL_areRows_23 (by decide) ?_
      rw [if_pos (show (F_open z) = (-5) by omega)] at htv_3
      subst htv_3
      exact hj_4
  refine j_iload_n G 3 dL_areRows_27 rfl ?_
  refine j_iconst G dL_areRows_28 (v := 1) rfl ?_
  obtain ⟨tv_5, htv_5⟩ : ∃ v_ : Int, v_ = (if (pAll (tZ z)) = 1 then 1 else 0) := ⟨_, rfl⟩
  suffices hj_6 : J x_ 0 0 (oW Y h ad aq e_2 z zs ik sz S) 37 [(4, .int (jI 0)), (3, .int (jI (F_open z))), (2, .int (jI 0)), (1, .int (jI (pAll (tZ z)))), (0, .ref h)] [.int (jI tv_5), .int (jI tv_3)] by
    refine j_icmp_ne (tgt := 36) G dL_areRows_29 (by decide) (by omega) (by omega) (fun c29 => ?_) (fun c29 => ?_)
    · refine j_iconst G dL_areRows_36 (v := 0) rfl ?_
      rw [if_neg (show ¬ ((pAll (tZ z)) = 1) by omega)] at htv_5
      subst htv_5
      exact hj_6
    · refine j_iconst G dL_areRows_32 (v := 1) rfl ?_
      refine j_goto (tgt := 37) G dL_areRows_33 (by decide) ?_
      rw [if_pos (show (pAll (tZ z)) = 1 by omega)] at htv_5
      subst htv_5
      exact hj_6
  refine j_icmp_ne (tgt := 44) G dL_areRows_37 (by decide) (by omega) (by omega) (fun c37 => absurd c37 (by omega)) (fun c37 => ?_)
  refine j_iconst G dL_areRows_40 (v := 1) rfl ?_
  refine j_goto (tgt := 45) G dL_areRows_41 (by decide) ?_
  refine j_istore (lv' := [(5, .int (jI 1)), (4, .int (jI 0)), (3, .int (jI (F_open z))), (2, .int (jI 0)), (1, .int (jI (pAll (tZ z)))), (0, .ref h)]) G dL_areRows_45 (by decide) rfl ?_
  refine j_iconst G dL_areRows_47 (v := 0) rfl ?_
  refine j_istore (lv' := [(6, .int (jI 0)), (5, .int (jI 1)), (4, .int (jI 0)), (3, .int (jI (F_open z))), (2, .int (jI 0)), (1, .int (jI (pAll (tZ z)))), (0, .ref h)]) G dL_areRows_48 (by decide) rfl ?_
  have lp50 : ∀ (n_ : Nat) (r : Int) (hn : Int) (mo : Int) (e1 : oE), (0 ≤ r ∧ r ≤ 8) → (hn = sumI r.toNat (fun r => if ¬ z (7 + r) = -5 then 1 else 0)) → (0 ≤ mo ∧ mo ≤ 8) → (∀ q : Int, 0 ≤ q → q < r → cOpen (fun c => pTh (tZ z) (q * 8 + c)) 8 ≤ mo) → (8 - r) < (n_ : Int) → J x_ 0 0 (oW Y h ad aq e1 z zs ik sz S) 50 [(0, .ref h), (1, .int (jI (pAll (tZ z)))), (2, .int (jI hn)), (3, .int (jI (F_open z))), (4, .int (jI mo)), (5, .int (jI 1)), (6, .int (jI r))] [] := by
    intro n_
    induction n_ with
    | zero =>
      intro r hn mo e1 hr hh hm hq hm_
      exact absurd hm_ (by omega)
    | succ n_ ih50 =>
      intro r hn mo e1 hr hh hm hq hm_
      refine j_iload G 6 dL_areRows_50 rfl ?_
      refine j_bipush G dL_areRows_52 (v := 8) rfl ?_
      refine j_icmp_ge (tgt := 379) G dL_areRows_54 (by decide) (by omega) (by omega) (fun c54 => ?_) (fun c54 => ?_)
      · refine j_iload G 5 dL_areRows_379 rfl ?_
        refine j_if_eq (tgt := 425) G dL_areRows_381 (by decide) (by omega) (fun c381 => absurd c381 (by omega)) (fun c381 => ?_)
        have ehn : hn = sumI 8 (fun r => if ¬ z (7 + r) = -5 then 1 else 0) := by rw [hh, show r = 8 by omega]; rfl
        refine j_iload_n G 2 dL_areRows_384 rfl ?_
        refine j_aload_n G 0 dL_areRows_385 rfl ?_
        refine j_bipush G dL_areRows_386 (v := 6) rfl ?_
        refine jo_count (r0 := sumI 8 (fun r => if ¬ z (7 + r) = -5 then 1 else 0)) G dL_areRows_388 (goodIn_up _ gvX4_count) ⟨by decide, by decide⟩ (Nat.le_of_ble_eq_true rfl) ⟨Nat.zero_le _, Nat.zero_le _⟩ (by exact hI) (by omega) (by rfl) (fun e_7 => ?_)
        have f388_ := bn6 z
        refine j_icmp_ne (tgt := 425) G dL_areRows_391 (by decide) (by omega) (by omega) (fun c391 => absurd c391 (by omega)) (fun c391 => ?_)
        refine j_iload_n G 3 dL_areRows_394 rfl ?_
        refine j_bipush G dL_areRows_395 (v := (-5)) rfl ?_
        refine j_icmp_eq (tgt := 421) G dL_areRows_397 (by decide) (by omega) (by omega) (fun c397 => ?_) (fun c397 => ?_)
        · refine j_iconst G dL_areRows_421 (v := 1) rfl ?_
          refine j_goto (tgt := 426) G dL_areRows_422 (by decide) ?_
          exact j_reti (r := 1) G dL_areRows_426 (by rfl) (jLe.rf _) (kr0 _ _ ⟨e_7, rfl, rfl⟩)
        · have f400 := open_sp hI (by omega)
          have f400b := hq (F_open z) (by omega) (by omega)
          have f400c := rL_sp hI.pa (r := F_open z) (by omega)
          have f400d := rG_sp hI.pa (r := F_open z) (by omega)
          refine j_aload_n G 0 dL_areRows_400 rfl ?_
          refine j_iload_n G 3 dL_areRows_401 rfl ?_
          refine j_iconst G dL_areRows_402 (v := 1) rfl ?_
          refine jo_row (r0 := rL (tZ z) (F_open z)) G dL_areRows_403 (goodIn_up _ gvX4_row) ⟨by decide, by decide⟩ (Nat.le_of_ble_eq_true rfl) ⟨Nat.zero_le _, Nat.zero_le _⟩ (by exact hI) (by omega) (by omega) (by exact fr1 (by omega)) (fun e_8 => ?_)
          refine j_aload_n G 0 dL_areRows_406 rfl ?_
          refine j_iload_n G 3 dL_areRows_407 rfl ?_
          refine j_iconst G dL_areRows_408 (v := 2) rfl ?_
          refine jo_row (r0 := rG (tZ z) (F_open z)) G dL_areRows_409 (goodIn_up _ gvX4_row) ⟨by decide, by decide⟩ (Nat.le_of_ble_eq_true rfl) ⟨Nat.zero_le _, Nat.zero_le _⟩ (by exact hI) (by omega) (by omega) (by exact fr2 (by omega)) (fun e_9 => ?_)
          refine j_icmp_ge (tgt := 425) G dL_areRows_412 (by decide) (by omega) (by omega) (fun c412 => absurd c412 (by omega)) (fun c412 => ?_)
          refine j_iload G 4 dL_areRows_415 rfl ?_
          refine j_iconst G dL_areRows_417 (v := 1) rfl ?_
          refine j_icmp_le (tgt := 425) G dL_areRows_418 (by decide) (by omega) (by omega) (fun c418 => absurd c418 (by omega)) (fun c418 => ?_)
          refine j_iconst G dL_areRows_421 (v := 1) rfl ?_
          refine j_goto (tgt := 426) G dL_areRows_422 (by decide) ?_
          exact j_reti (r := 1) G dL_areRows_426 (by rfl) (jLe.rf _) (kr0 _ _ ⟨e_9, rfl, rfl⟩)
      · refine j_iload G 5 dL_areRows_57 rfl ?_
        refine j_if_eq (tgt := 379) G dL_areRows_59 (by decide) (by omega) (fun c59 => absurd c59 (by omega)) (fun c59 => ?_)
        refine j_aload_n G 0 dL_areRows_62 rfl ?_
        refine j_iload G 6 dL_areRows_63 rfl ?_
        refine j_iconst G dL_areRows_65 (v := 0) rfl ?_
        refine jo_row (r0 := z (7 + r)) G dL_areRows_66 (goodIn_up _ gvX4_row) ⟨by decide, by decide⟩ (Nat.le_of_ble_eq_true rfl) ⟨Nat.zero_le _, Nat.zero_le _⟩ (by exact hI) (by omega) (by omega) (by exact fr0 (by omega)) (fun e_10 => ?_)
        have f66_ := br0 hI (r := r) (by omega)
        have f66b := hI.to r (by omega) (by omega)
        refine j_istore (lv' := [(7, .int (jI (z (7 + r)))), (0, .ref h), (1, .int (jI (pAll (tZ z)))), (2, .int (jI hn)), (3, .int (jI (F_open z))), (4, .int (jI mo)), (5, .int (jI 1)), (6, .int (jI r))]) G dL_areRows_69 (by decide) rfl ?_
        refine j_aload_n G 1 dL_areRows_71 rfl ?_
        refine j_iload G 7 dL_areRows_72 rfl ?_
        refine j_iconst G dL_areRows_74 (v := 1) rfl ?_
        refine jo_row (r0 := rL (tZ z) r) G dL_areRows_75 (goodIn_up _ gvX4_row) ⟨by decide, by decide⟩ (Nat.le_of_ble_eq_true rfl) ⟨Nat.zero_le _, Nat.zero_le _⟩ (by exact hI) (by omega) (by omega) (by exact fr1 (by omega)) (fun e_11 => ?_)
        have f75 := rL_sp hI.pa (r := r) (by omega)
        refine j_istore (lv' := [(8, .int (jI (rL (tZ z) r))), (7, .int (jI (z (7 + r)))), (0, .ref h), (1, .int (jI (pAll (tZ z)))), (2, .int (jI hn)), (3, .int (jI (F_open z))), (4, .int (jI mo)), (5, .int (jI 1)), (6, .int (jI r))]) G dL_areRows_78 (by decide) rfl ?_
        refine j_aload_n G 2 dL_areRows_80 rfl ?_
        refine j_iload G 8 dL_areRows_81 rfl ?_
        refine j_iconst G dL_areRows_83 (v := 2) rfl ?_
        refine jo_row (r0 := rG (tZ z) r) G dL_areRows_84 (goodIn_up _ gvX4_row) ⟨by decide, by decide⟩ (Nat.le_of_ble_eq_true rfl) ⟨Nat.zero_le _, Nat.zero_le _⟩ (by exact hI) (by omega) (by omega) (by exact fr2 (by omega)) (fun e_12 => ?_)
        have f84 := rG_sp hI.pa (r := r) (by omega)
        refine j_istore (lv' := [(9, .int (jI (rG (tZ z) r))), (8, .int (jI (rL (tZ z) r))), (7, .int (jI (z (7 + r)))), (0, .ref h), (1, .int (jI (pAll (tZ z)))), (2, .int (jI hn)), (3, .int (jI (F_open z))), (4, .int (jI mo)), (5, .int (jI 1)), (6, .int (jI r))]) G dL_areRows_87 (by decide) rfl ?_
        refine j_iconst G dL_areRows_89 (v := 0) rfl ?_
        refine j_istore (lv' := [(10, .int (jI 0)), (9, .int (jI (rG (tZ z) r))), (8, .int (jI (rL (tZ z) r))), (7, .int (jI (z (7 + r)))), (0, .ref h), (1, .int (jI (pAll (tZ z)))), (2, .int (jI hn)), (3, .int (jI (F_open z))), (4, .int (jI mo)), (5, .int (jI 1)), (6, .int (jI r))]) G dL_areRows_90 (by decide) rfl ?_
        refine j_iconst G dL_areRows_92 (v := 0) rfl ?_
        refine j_istore (lv' := [(11, .int (jI 0)), (10, .int (jI 0)), (9, .int (jI (rG (tZ z) r))), (8, .int (jI (rL (tZ z) r))), (7, .int (jI (z (7 + r)))), (0, .ref h), (1, .int (jI (pAll (tZ z)))), (2, .int (jI hn)), (3, .int (jI (F_open z))), (4, .int (jI mo)), (5, .int (jI 1)), (6, .int (jI r))]) G dL_areRows_93 (by decide) rfl ?_
        refine j_iload_n G 7 dL_areRows_95 rfl ?_
        refine j_iload G 4 dL_areRows_96 rfl ?_
        refine j_bipush G dL_areRows_98 (v := (-5)) rfl ?_
        obtain ⟨tv_13, htv_13⟩ : ∃ v_ : Int, v_ = (if (z (7 + r)) = (-5) then 0 else 1) := ⟨_, rfl⟩
        suffices hj_14 : J x_ 0 0 (oW Y h ad aq e_12 z zs ik sz S) 108 [(11, .int (jI 0)), (10, .int (jI 0)), (9, .int (jI (rG (tZ z) r))), (8, .int (jI (rL (tZ z) r))), (7, .int (jI (z (7 + r)))), (0, .ref h), (1, .int (jI (pAll (tZ z)))), (2, .int (jI hn)), (3, .int (jI (F_open z))), (4, .int (jI mo)), (5, .int (jI 1)), (6, .int (jI r))] [.int (jI tv_13), .int (jI hn)] by
          refine j_icmp_ne (tgt := 107) G dL_areRows_100 (by decide) (by omega) (by omega) (fun c100 => ?_) (fun c100 => ?_)
          · refine j_iconst G dL_areRows_107 (v := 1) rfl ?_
            rw [if_neg (show ¬ ((z (7 + r)) = (-5)) by omega)] at htv_13
            subst htv_13
            exact hj_14
          · refine j_iconst G dL_areRows_103 (v := 0) rfl ?_
            refine j_goto (tgt := 108) G dL_areRows_104 (by decide) ?_
            rw [if_pos (show (z (7 + r)) = (-5) by omega)] at htv_13
            subst htv_13
            exact hj_14
        have htv_told := htv_13
        refine j_iadd G dL_areRows_108 ?_
        refine j_istore_n (lv' := [(2, .int (jI (hn + tv_13))), (11, .int (jI 0)), (10, .int (jI 0)), (9, .int (jI (rG (tZ z) r))), (8, .int (jI (rL (tZ z) r))), (7, .int (jI (z (7 + r)))), (0, .ref h), (1, .int (jI (pAll (tZ z)))), (3, .int (jI (F_open z))), (4, .int (jI mo)), (5, .int (jI 1)), (6, .int (jI r))]) G dL_areRows_109 (by decide) rfl ?_
        refine j_iconst G dL_areRows_110 (v := 0) rfl ?_
        refine j_istore (lv' := [(12, .int (jI 0)), (2, .int (jI (hn + tv_13))), (11, .int (jI 0)), (10, .int (jI 0)), (9, .int (jI (rG (tZ z) r))), (8, .int (jI (rL (tZ z) r))), (7, .int (jI (z (7 + r)))), (0, .ref h), (1, .int (jI (pAll (tZ z)))), (3, .int (jI (F_open z))), (4, .int (jI mo)), (5, .int (jI 1)), (6, .int (jI r))]) G dL_areRows_111 (by decide) rfl ?_
        have lp113 : ∀ (n_ : Nat) (c : Int) (su : Int) (ma : Int) (e2 : oE), (0 ≤ c ∧ c ≤ 8) → (su = sumI c.toNat (fun c => pTh (tZ z) (r * 8 + c))) → (ma = cOpen (fun c => pTh (tZ z) (r * 8 + c)) c.toNat) → (8 - c) < (n_ : Int) → J x_ 0 0 (oW Y h ad aq e2 z zs ik sz S) 113 [(0, .ref h), (1, .int (jI (pAll (tZ z)))), (2, .int (jI (hn + tv_13))), (3, .int (jI (F_open z))), (4, .int (jI mo)), (5, .int (jI 1)), (6, .int (jI r)), (7, .int (jI (z (7 + r)))), (8, .int (jI (rL (tZ z) r))), (9, .int (jI (rG (tZ z) r))), (10, .int (jI su)), (11, .int (jI ma)), (12, .int (jI c))] [] := by
          intro n_
          induction n_ with
          | zero =>
            intro c su ma e2 hc hsu hma hm_
            exact absurd hm_ (by omega)
          | succ n_ ih113 =>
            intro c su ma e2 hc hsu hma hm_
            refine j_iload G 12 dL_areRows_113 rfl ?_
            refine j_bipush G dL_areRows_115 (v := 8) rfl ?_
            refine j_icmp_ge (tgt := 227) G dL_areRows_117 (by decide) (by omega) (by omega) (fun c117 => ?_) (fun c117 => ?_)
            · have ema : ma = cOpen (fun c => pTh (tZ z) (r * 8 + c)) 8 := by rw [hma, show c = 8 by omega]; rfl
              have esu : su = pAll (tZ z) := by rw [hsu, show c = 8 by omega]; exact row_sum (tZ z) (r := r) (by omega)
              have bma := cOpen_b (fun c => pTh (tZ z) (r * 8 + c)) 8
              refine j_iload G 11 dL_areRows_227 rfl ?_
              refine j_iload G 4 dL_areRows_229 rfl ?_
              obtain ⟨tv_15, htv_15⟩ : ∃ v_ : Int, v_ = (if ma ≤ mo then mo else ma) := ⟨_, rfl⟩
              suffices hj_16 : J x_ 0 0 (oW Y h ad aq e2 z zs ik sz S) 241 [(0, .ref h), (1, .int (jI (pAll (tZ z)))), (2, .int (jI (hn + tv_13))), (3, .int (jI (F_open z))), (4, .int (jI mo)), (5, .int (jI 1)), (6, .int (jI r)), (7, .int (jI (z (7 + r)))), (8, .int (jI (rL (tZ z) r))), (9, .int (jI (rG (tZ z) r))), (10, .int (jI su)), (11, .int (jI ma)), (12, .int (jI c))] [.int (jI tv_15)] by
                refine j_icmp_le (tgt := 239) G dL_areRows_231 (by decide) (by omega) (by omega) (fun c231 => ?_) (fun c231 => ?_)
                · refine j_iload G 4 dL_areRows_239 rfl ?_
                  rw [if_pos (show ma ≤ mo by omega)] at htv_15
                  subst htv_15
                  exact hj_16
                · refine j_iload G 11 dL_areRows_234 rfl ?_
                  refine j_goto (tgt := 241) G dL_areRows_236 (by decide) ?_
                  rw [if_neg (show ¬ (ma ≤ mo) by omega)] at htv_15
                  subst htv_15
                  exact hj_16
              obtain ⟨mo2, e_mo2, h_mo2⟩ : ∃ y : Int, y = (tv_15) ∧ ((mo ≤ y ∧ y ≤ 8) ∧ ma ≤ y ∧ 0 ≤ y) := ⟨_, rfl, by rw [htv_15]; split <;> omega⟩
              rw [← e_mo2]
              refine j_istore (lv' := [(4, .int (jI mo2)), (0, .ref h), (1, .int (jI (pAll (tZ z)))), (2, .int (jI (hn + tv_13))), (3, .int (jI (F_open z))), (5, .int (jI 1)), (6, .int (jI r)), (7, .int (jI (z (7 + r)))), (8, .int (jI (rL (tZ z) r))), (9, .int (jI (rG (tZ z) r))), (10, .int (jI su)), (11, .int (jI ma)), (12, .int (jI c))]) G dL_areRows_241 (by decide) rfl ?_
              refine j_iload G 5 dL_areRows_243 rfl ?_
              refine j_if_eq (tgt := 370) G dL_areRows_245 (by decide) (by omega) (fun c245 => absurd c245 (by omega)) (fun c245 => ?_)
              refine j_iload G 10 dL_areRows_248 rfl ?_
              refine j_iload_n G 2 dL_areRows_250 rfl ?_
              refine j_icmp_ne (tgt := 370) G dL_areRows_251 (by decide) (by omega) (by omega) (fun c251 => absurd c251 (by omega)) (fun c251 => ?_)
              refine j_aload_n G 1 dL_areRows_254 rfl ?_
              refine j_iload G 6 dL_areRows_255 rfl ?_
              refine j_iload G 8 dL_areRows_257 rfl ?_
              refine jo_ifTold (r0 := pTh (tZ z) (r * 8 + (rL (tZ z) r))) G dL_areRows_259 (goodIn_up _ gvX4_ifTold) ⟨by decide, by decide⟩ (Nat.le_of_ble_eq_true rfl) ⟨Nat.zero_le _, Nat.zero_le _⟩ (by exact hI) (by omega) (by omega) (by exact fto (by omega) (by omega)) (fun e_17 => ?_)
              have f259_ := bto (t := tZ z) (r := r) (c := (rL (tZ z) r)) (by omega) (by omega)
              refine j_if_le (tgt := 370) G dL_areRows_262 (by decide) (by omega) (fun c262 => absurd c262 (by omega)) (fun c262 => ?_)
              refine j_aload_n G 1 dL_areRows_265 rfl ?_
              refine j_iload G 6 dL_areRows_266 rfl ?_
              refine j_iload G 9 dL_areRows_268 rfl ?_
              refine jo_ifTold (r0 := pTh (tZ z) (r * 8 + (rG (tZ z) r))) G dL_areRows_270 (goodIn_up _ gvX4_ifTold) ⟨by decide, by decide⟩ (Nat.le_of_ble_eq_true rfl) ⟨Nat.zero_le _, Nat.zero_le _⟩ (by exact hI) (by omega) (by omega) (by exact fto (by omega) (by omega)) (fun e_18 => ?_)
              have f270_ := bto (t := tZ z) (r := r) (c := (rG (tZ z) r)) (by omega) (by omega)
              refine j_if_le (tgt := 370) G dL_areRows_273 (by decide) (by omega) (fun c273 => absurd c273 (by omega)) (fun c273 => ?_)
              have lp297 : ∀ (e3 : oE), J x_ 0 0 (oW Y h ad aq e3 z zs ik sz S) 297 [(0, .ref h), (1, .int (jI (pAll (tZ z)))), (2, .int (jI (hn + tv_13))), (3, .int (jI (F_open z))), (4, .int (jI mo2)), (5, .int (jI 1)), (6, .int (jI r)), (7, .int (jI (z (7 + r)))), (8, .int (jI (rL (tZ z) r))), (9, .int (jI (rG (tZ z) r))), (10, .int (jI su)), (11, .int (jI ma))] [] := by
                intro e3
                refine j_iload G 6 dL_areRows_297 rfl ?_
                refine j_if_eq (tgt := 366) G dL_areRows_299 (by decide) (by omega) (fun c299 => ?_) (fun c299 => ?_)
                · refine j_iconst G dL_areRows_366 (v := 1) rfl ?_
                  refine j_goto (tgt := 371) G dL_areRows_367 (by decide) ?_
                  refine j_istore (lv' := [(5, .int (jI 1)), (0, .ref h), (1, .int (jI (pAll (tZ z)))), (2, .int (jI (hn + tv_13))), (3, .int (jI (F_open z))), (4, .int (jI mo2)), (6, .int (jI r)), (7, .int (jI (z (7 + r)))), (8, .int (jI (rL (tZ z) r))), (9, .int (jI (rG (tZ z) r))), (10, .int (jI su)), (11, .int (jI ma))]) G dL_areRows_371 (by decide) rfl ?_
                  refine j_iinc (w := r + 1) (lv' := [(6, .int (jI (r + 1))), (5, .int (jI 1)), (0, .ref h), (1, .int (jI (pAll (tZ z)))), (2, .int (jI (hn + tv_13))), (3, .int (jI (F_open z))), (4, .int (jI mo2)), (7, .int (jI (z (7 + r)))), (8, .int (jI (rL (tZ z) r))), (9, .int (jI (rG (tZ z) r))), (10, .int (jI su)), (11, .int (jI ma))]) G 6 dL_areRows_373 rfl rfl (by decide) rfl ?_
                  refine j_goto (tgt := 50) G dL_areRows_376 (by decide) ?_
                  refine j_lv [2, 3, 4, 5, 6, 1, 0] (lv' := [(0, .ref h), (1, .int (jI (pAll (tZ z)))), (2, .int (jI (hn + tv_13))), (3, .int (jI (F_open z))), (4, .int (jI mo2)), (5, .int (jI 1)), (6, .int (jI (r + 1)))]) rfl ?_
                  exact ih50 (r + 1) (hn + tv_13) mo2 e3 (by omega) (by rw [htv_told]; exact hints_S hr.1 hh) (by omega) (by intro q a b; by_cases y : q = r; rw [y, ← ema]; omega; have := hq q a (by omega); omega) (by omega)
                · have f302 := rows_near hI.pa (r := r) (by omega)
                  refine j_iload G 8 dL_areRows_302 rfl ?_
                  refine j_aload_n G 0 dL_areRows_304 rfl ?_
                  refine j_iload G 6 dL_areRows_305 rfl ?_
                  refine j_iconst G dL_areRows_307 (v := 1) rfl ?_
                  refine j_isub G dL_areRows_308 ?_
                  refine j_iconst G dL_areRows_309 (v := 1) rfl ?_
                  refine jo_row (r0 := rL (tZ z) (r - 1)) G dL_areRows_310 (goodIn_up _ gvX4_row) ⟨by decide, by decide⟩ (Nat.le_of_ble_eq_true rfl) ⟨Nat.zero_le _, Nat.zero_le _⟩ (by exact hI) (by omega) (by omega) (by exact fr1 (by omega)) (fun e_19 => ?_)
                  have f310 := rL_sp hI.pa (r := r - 1) (by omega)
                  have f310b := rG_sp hI.pa (r := r - 1) (by omega)
                  refine j_isub G dL_areRows_313 ?_
                  refine j_iconst G dL_areRows_314 (v := 2) rfl ?_
                  refine j_icmp_ge (tgt := 370) G dL_areRows_315 (by decide) (by omega) (by omega) (fun c315 => absurd c315 (by omega)) (fun c315 => ?_)
                  refine j_aload_n G 0 dL_areRows_318 rfl ?_
                  refine j_iload G 6 dL_areRows_319 rfl ?_
                  refine j_iconst G dL_areRows_321 (v := 1) rfl ?_
                  refine j_isub G dL_areRows_322 ?_
                  refine j_iconst G dL_areRows_323 (v := 1) rfl ?_
                  refine jo_row (r0 := rL (tZ z) (r - 1)) G dL_areRows_324 (goodIn_up _ gvX4_row) ⟨by decide, by decide⟩ (Nat.le_of_ble_eq_true rfl) ⟨Nat.zero_le _, Nat.zero_le _⟩ (by exact hI) (by omega) (by omega) (by exact fr1 (by omega)) (fun e_20 => ?_)
                  refine j_iload G 8 dL_areRows_327 rfl ?_
                  refine j_isub G dL_areRows_329 ?_
                  refine j_iconst G dL_areRows_330 (v := 2) rfl ?_
                  refine j_icmp_ge (tgt := 370) G dL_areRows_331 (by decide) (by omega) (by omega) (fun c331 => absurd c331 (by omega)) (fun c331 => ?_)
                  refine j_iload G 9 dL_areRows_334 rfl ?_
                  refine j_aload_n G 0 dL_areRows_336 rfl ?_
                  refine j_iload G 6 dL_areRows_337 rfl ?_
                  refine j_iconst G dL_areRows_339 (v := 1) rfl ?_
                  refine j_isub G dL_areRows_340 ?_
                  refine j_iconst G dL_areRows_341 (v := 2) rfl ?_
                  refine jo_row (r0 := rG (tZ z) (r - 1)) G dL_areRows_342 (goodIn_up _ gvX4_row) ⟨by decide, by decide⟩ (Nat.le_of_ble_eq_true rfl) ⟨Nat.zero_le _, Nat.zero_le _⟩ (by exact hI) (by omega) (by omega) (by exact fr2 (by omega)) (fun e_21 => ?_)
                  refine j_isub G dL_areRows_345 ?_
                  refine j_iconst G dL_areRows_346 (v := 2) rfl ?_
                  refine j_icmp_ge (tgt := 370) G dL_areRows_347 (by decide) (by omega) (by omega) (fun c347 => absurd c347 (by omega)) (fun c347 => ?_)
                  refine j_aload_n G 0 dL_areRows_350 rfl ?_
                  refine j_iload G 6 dL_areRows_351 rfl ?_
                  refine j_iconst G dL_areRows_353 (v := 1) rfl ?_
                  refine j_isub G dL_areRows_354 ?_
                  refine j_iconst G dL_areRows_355 (v := 2) rfl ?_
                  refine jo_row (r0 := rG (tZ z) (r - 1)) G dL_areRows_356 (goodIn_up _ gvX4_row) ⟨by decide, by decide⟩ (Nat.le_of_ble_eq_true rfl) ⟨Nat.zero_le _, Nat.zero_le _⟩ (by exact hI) (by omega) (by omega) (by exact fr2 (by omega)) (fun e_22 => ?_)
                  refine j_iload G 9 dL_areRows_359 rfl ?_
                  refine j_isub G dL_areRows_361 ?_
                  refine j_iconst G dL_areRows_362 (v := 2) rfl ?_
                  refine j_icmp_ge (tgt := 370) G dL_areRows_363 (by decide) (by omega) (by omega) (fun c363 => absurd c363 (by omega)) (fun c363 => ?_)
                  refine j_iconst G dL_areRows_366 (v := 1) rfl ?_
                  refine j_goto (tgt := 371) G dL_areRows_367 (by decide) ?_
                  refine j_istore (lv' := [(5, .int (jI 1)), (0, .ref h), (1, .int (jI (pAll (tZ z)))), (2, .int (jI (hn + tv_13))), (3, .int (jI (F_open z))), (4, .int (jI mo2)), (6, .int (jI r)), (7, .int (jI (z (7 + r)))), (8, .int (jI (rL (tZ z) r))), (9, .int (jI (rG (tZ z) r))), (10, .int (jI su)), (11, .int (jI ma))]) G dL_areRows_371 (by decide) rfl ?_
                  refine j_iinc (w := r + 1) (lv' := [(6, .int (jI (r + 1))), (5, .int (jI 1)), (0, .ref h), (1, .int (jI (pAll (tZ z)))), (2, .int (jI (hn + tv_13))), (3, .int (jI (F_open z))), (4, .int (jI mo2)), (7, .int (jI (z (7 + r)))), (8, .int (jI (rL (tZ z) r))), (9, .int (jI (rG (tZ z) r))), (10, .int (jI su)), (11, .int (jI ma))]) G 6 dL_areRows_373 rfl rfl (by decide) rfl ?_
                  refine j_goto (tgt := 50) G dL_areRows_376 (by decide) ?_
                  refine j_lv [2, 3, 4, 5, 6, 1, 0] (lv' := [(0, .ref h), (1, .int (jI (pAll (tZ z)))), (2, .int (jI (hn + tv_13))), (3, .int (jI (F_open z))), (4, .int (jI mo2)), (5, .int (jI 1)), (6, .int (jI (r + 1)))]) rfl ?_
                  exact ih50 (r + 1) (hn + tv_13) mo2 e_22 (by omega) (by rw [htv_told]; exact hints_S hr.1 hh) (by omega) (by intro q a b; by_cases y : q = r; rw [y, ← ema]; omega; have := hq q a (by omega); omega) (by omega)
              refine j_iload G 7 dL_areRows_276 rfl ?_
              refine j_bipush G dL_areRows_278 (v := (-5)) rfl ?_
              refine j_icmp_eq (tgt := 297) G dL_areRows_280 (by decide) (by omega) (by omega) (fun c280 => ?_) (fun c280 => ?_)
              · refine j_lv [1, 2, 3, 4, 0, 5, 6, 7, 8, 9, 10, 11] (lv' := [(0, .ref h), (1, .int (jI (pAll (tZ z)))), (2, .int (jI (hn + tv_13))), (3, .int (jI (F_open z))), (4, .int (jI mo2)), (5, .int (jI 1)), (6, .int (jI r)), (7, .int (jI (z (7 + r)))), (8, .int (jI (rL (tZ z) r))), (9, .int (jI (rG (tZ z) r))), (10, .int (jI su)), (11, .int (jI ma))]) rfl ?_
                exact lp297 e_18
              · have f283 : rL (tZ z) r = z (7 + r) ∧ rG (tZ z) r = z (7 + r) := row_told hI.pa (r := r) (by omega) c280
                refine j_iload G 7 dL_areRows_283 rfl ?_
                refine j_iload G 8 dL_areRows_285 rfl ?_
                refine j_icmp_ne (tgt := 370) G dL_areRows_287 (by decide) (by omega) (by omega) (fun c287 => absurd c287 (by omega)) (fun c287 => ?_)
                refine j_iload G 7 dL_areRows_290 rfl ?_
                refine j_iload G 9 dL_areRows_292 rfl ?_
                refine j_icmp_ne (tgt := 370) G dL_areRows_294 (by decide) (by omega) (by omega) (fun c294 => absurd c294 (by omega)) (fun c294 => ?_)
                refine j_lv [1, 2, 3, 4, 0, 5, 6, 7, 8, 9, 10, 11] (lv' := [(0, .ref h), (1, .int (jI (pAll (tZ z)))), (2, .int (jI (hn + tv_13))), (3, .int (jI (F_open z))), (4, .int (jI mo2)), (5, .int (jI 1)), (6, .int (jI r)), (7, .int (jI (z (7 + r)))), (8, .int (jI (rL (tZ z) r))), (9, .int (jI (rG (tZ z) r))), (10, .int (jI su)), (11, .int (jI ma))]) rfl ?_
                exact lp297 e_18
            · refine j_iload G 5 dL_areRows_120 rfl ?_
              refine j_if_eq (tgt := 227) G dL_areRows_122 (by decide) (by omega) (fun c122 => absurd c122 (by omega)) (fun c122 => ?_)
              refine j_aload_n G 0 dL_areRows_125 rfl ?_
              refine j_iload G 6 dL_areRows_126 rfl ?_
              refine j_iload G 12 dL_areRows_128 rfl ?_
              refine jo_ifTold (r0 := pTh (tZ z) (r * 8 + c)) G dL_areRows_130 (goodIn_up _ gvX4_ifTold) ⟨by decide, by decide⟩ (Nat.le_of_ble_eq_true rfl) ⟨Nat.zero_le _, Nat.zero_le _⟩ (by exact hI) (by omega) (by omega) (by exact fto (by omega) (by omega)) (fun e_23 => ?_)
              have f130_ := bto (t := tZ z) (r := r) (c := c) (by omega) (by omega)
              have f130c := rL_le hI.pa (r := r) (c := c) (by omega) (by omega)
              have f130d := rG_le hI.pa (r := r) (c := c) (by omega) (by omega)
              have f130e : pTh (tZ z) (r * 8 + c) ≤ 0 ∨ (rL (tZ z) r ≤ c ∧ c ≤ rG (tZ z) r) := by by_cases q : 0 < pTh (tZ z) (r * 8 + c); exact Or.inr ⟨f130c q, f130d q⟩; exact Or.inl (by omega)
              have f130f : 0 < pTh (tZ z) (r * 8 + c) ∨ (¬ c = rL (tZ z) r ∧ ¬ c = rG (tZ z) r) := by by_cases q : 0 < pTh (tZ z) (r * 8 + c); exact Or.inl q; exact Or.inr ⟨fun w => q (by rw [w]; exact f75.2.1), fun w => q (by rw [w]; exact f84.2.1)⟩
              refine j_istore (lv' := [(13, .int (jI (pTh (tZ z) (r * 8 + c)))), (0, .ref h), (1, .int (jI (pAll (tZ z)))), (2, .int (jI (hn + tv_13))), (3, .int (jI (F_open z))), (4, .int (jI mo)), (5, .int (jI 1)), (6, .int (jI r)), (7, .int (jI (z (7 + r)))), (8, .int (jI (rL (tZ z) r))), (9, .int (jI (rG (tZ z) r))), (10, .int (jI su)), (11, .int (jI ma)), (12, .int (jI c))]) G dL_areRows_133 (by decide) rfl ?_
              refine j_iload G 11 dL_areRows_135 rfl ?_
              refine j_iload G 0 dL_areRows_137 rfl ?_
              refine j_iadd G dL_areRows_139 ?_
              refine j_istore (lv' := [(10, .int (jI (su + (pTh (tZ z) (r * 8 + c))))), (13, .int (jI (pTh (tZ z) (r * 8 + c)))), (0, .ref h), (1, .int (jI (pAll (tZ z)))), (2, .int (jI (hn + tv_13))), (3, .int (jI (F_open z))), (4, .int (jI mo)), (5, .int (jI 1)), (6, .int (jI r)), (7, .int (jI (z (7 + r)))), (8, .int (jI (rL (tZ z) r))), (9, .int (jI (rG (tZ z) r))), (11, .int (jI ma)), (12, .int (jI c))]) G dL_areRows_140 (by decide) rfl ?_
              refine j_iload G 12 dL_areRows_142 rfl ?_
              refine j_iload G 1 dL_areRows_144 rfl ?_
              obtain ⟨tv_24, htv_24⟩ : ∃ v_ : Int, v_ = (if (pTh (tZ z) (r * 8 + c)) ≤ 0 then 0 else 1) := ⟨_, rfl⟩
              suffices hj_25 : J x_ 0 0 (oW Y h ad aq e_23 z zs ik sz S) 154 [(10, .int (jI (su + (pTh (tZ z) (r * 8 + c))))), (13, .int (jI (pTh (tZ z) (r * 8 + c)))), (0, .ref h), (1, .int (jI (pAll (tZ z)))), (2, .int (jI (hn + tv_13))), (3, .int (jI (F_open z))), (4, .int (jI mo)), (5, .int (jI 1)), (6, .int (jI r)), (7, .int (jI (z (7 + r)))), (8, .int (jI (rL (tZ z) r))), (9, .int (jI (rG (tZ z) r))), (11, .int (jI ma)), (12, .int (jI c))] [.int (jI tv_24), .int (jI ma)] by
                refine j_if_le (tgt := 153) G dL_areRows_146 (by decide) (by omega) (fun c146 => ?_) (fun c146 => ?_)
                · refine j_iconst G dL_areRows_153 (v := 0) rfl ?_
                  rw [if_pos (show (pTh (tZ z) (r * 8 + c)) ≤ 0 by omega)] at htv_24
                  subst htv_24
                  exact hj_25
                · refine j_iconst G dL_areRows_149 (v := 1) rfl ?_
                  refine j_goto (tgt := 154) G dL_areRows_150 (by decide) ?_
                  rw [if_neg (show ¬ ((pTh (tZ z) (r * 8 + c)) ≤ 0) by omega)] at htv_24
                  subst htv_24
                  exact hj_25
              have htv_many := htv_24
              refine j_iadd G dL_areRows_154 ?_
              refine j_istore (lv' := [(11, .int (jI (ma + tv_24))), (10, .int (jI (su + (pTh (tZ z) (r * 8 + c))))), (13, .int (jI (pTh (tZ z) (r * 8 + c)))), (0, .ref h), (1, .int (jI (pAll (tZ z)))), (2, .int (jI (hn + tv_13))), (3, .int (jI (F_open z))), (4, .int (jI mo)), (5, .int (jI 1)), (6, .int (jI r)), (7, .int (jI (z (7 + r)))), (8, .int (jI (rL (tZ z) r))), (9, .int (jI (rG (tZ z) r))), (12, .int (jI c))]) G dL_areRows_155 (by decide) rfl ?_
              refine j_iload G 2 dL_areRows_157 rfl ?_
              refine j_if_lt (tgt := 218) G dL_areRows_159 (by decide) (by omega) (fun c159 => absurd c159 (by omega)) (fun c159 => ?_)
              have lp195 : J x_ 0 0 (oW Y h ad aq e_23 z zs ik sz S) 195 [(0, .ref h), (1, .int (jI (pAll (tZ z)))), (2, .int (jI (hn + tv_13))), (3, .int (jI (F_open z))), (4, .int (jI mo)), (5, .int (jI 1)), (6, .int (jI r)), (7, .int (jI (z (7 + r)))), (8, .int (jI (rL (tZ z) r))), (9, .int (jI (rG (tZ z) r))), (10, .int (jI (su + (pTh (tZ z) (r * 8 + c))))), (11, .int (jI (ma + tv_24))), (12, .int (jI c)), (13, .int (jI (pTh (tZ z) (r * 8 + c))))] [] := by
                refine j_iload G 13 dL_areRows_195 rfl ?_
                refine j_if_eq (tgt := 214) G dL_areRows_197 (by decide) (by omega) (fun c197 => ?_) (fun c197 => ?_)
                · refine j_iconst G dL_areRows_214 (v := 1) rfl ?_
                  refine j_goto (tgt := 219) G dL_areRows_215 (by decide) ?_
                  refine j_istore (lv' := [(5, .int (jI 1)), (0, .ref h), (1, .int (jI (pAll (tZ z)))), (2, .int (jI (hn + tv_13))), (3, .int (jI (F_open z))), (4, .int (jI mo)), (6, .int (jI r)), (7, .int (jI (z (7 + r)))), (8, .int (jI (rL (tZ z) r))), (9, .int (jI (rG (tZ z) r))), (10, .int (jI (su + (pTh (tZ z) (r * 8 + c))))), (11, .int (jI (ma + tv_24))), (12, .int (jI c)), (13, .int (jI (pTh (tZ z) (r * 8 + c))))]) G dL_areRows_219 (by decide) rfl ?_
                  refine j_iinc (w := c + 1) (lv' := [(12, .int (jI (c + 1))), (5, .int (jI 1)), (0, .ref h), (1, .int (jI (pAll (tZ z)))), (2, .int (jI (hn + tv_13))), (3, .int (jI (F_open z))), (4, .int (jI mo)), (6, .int (jI r)), (7, .int (jI (z (7 + r)))), (8, .int (jI (rL (tZ z) r))), (9, .int (jI (rG (tZ z) r))), (10, .int (jI (su + (pTh (tZ z) (r * 8 + c))))), (11, .int (jI (ma + tv_24))), (13, .int (jI (pTh (tZ z) (r * 8 + c))))]) G 12 dL_areRows_221 rfl rfl (by decide) rfl ?_
                  refine j_goto (tgt := 113) G dL_areRows_224 (by decide) ?_
                  refine j_lv [2, 3, 4, 5, 6, 1, 7, 8, 9, 10, 11, 12, 0] (lv' := [(0, .ref h), (1, .int (jI (pAll (tZ z)))), (2, .int (jI (hn + tv_13))), (3, .int (jI (F_open z))), (4, .int (jI mo)), (5, .int (jI 1)), (6, .int (jI r)), (7, .int (jI (z (7 + r)))), (8, .int (jI (rL (tZ z) r))), (9, .int (jI (rG (tZ z) r))), (10, .int (jI (su + (pTh (tZ z) (r * 8 + c))))), (11, .int (jI (ma + tv_24))), (12, .int (jI (c + 1)))]) rfl ?_
                  exact ih113 (c + 1) (su + (pTh (tZ z) (r * 8 + c))) (ma + tv_24) e_23 (by omega) (by rw [hsu]; exact (sumI_S hc.1 _).symm) (by rw [htv_many]; exact many_S (o := fun c => pTh (tZ z) (r * 8 + c)) hc.1 hma) (by omega)
                · refine j_iload G 12 dL_areRows_200 rfl ?_
                  refine j_iload G 8 dL_areRows_202 rfl ?_
                  refine j_icmp_lt (tgt := 218) G dL_areRows_204 (by decide) (by omega) (by omega) (fun c204 => absurd c204 (by omega)) (fun c204 => ?_)
                  refine j_iload G 12 dL_areRows_207 rfl ?_
                  refine j_iload G 9 dL_areRows_209 rfl ?_
                  refine j_icmp_gt (tgt := 218) G dL_areRows_211 (by decide) (by omega) (by omega) (fun c211 => absurd c211 (by omega)) (fun c211 => ?_)
                  refine j_iconst G dL_areRows_214 (v := 1) rfl ?_
                  refine j_goto (tgt := 219) G dL_areRows_215 (by decide) ?_
                  refine j_istore (lv' := [(5, .int (jI 1)), (0, .ref h), (1, .int (jI (pAll (tZ z)))), (2, .int (jI (hn + tv_13))), (3, .int (jI (F_open z))), (4, .int (jI mo)), (6, .int (jI r)), (7, .int (jI (z (7 + r)))), (8, .int (jI (rL (tZ z) r))), (9, .int (jI (rG (tZ z) r))), (10, .int (jI (su + (pTh (tZ z) (r * 8 + c))))), (11, .int (jI (ma + tv_24))), (12, .int (jI c)), (13, .int (jI (pTh (tZ z) (r * 8 + c))))]) G dL_areRows_219 (by decide) rfl ?_
                  refine j_iinc (w := c + 1) (lv' := [(12, .int (jI (c + 1))), (5, .int (jI 1)), (0, .ref h), (1, .int (jI (pAll (tZ z)))), (2, .int (jI (hn + tv_13))), (3, .int (jI (F_open z))), (4, .int (jI mo)), (6, .int (jI r)), (7, .int (jI (z (7 + r)))), (8, .int (jI (rL (tZ z) r))), (9, .int (jI (rG (tZ z) r))), (10, .int (jI (su + (pTh (tZ z) (r * 8 + c))))), (11, .int (jI (ma + tv_24))), (13, .int (jI (pTh (tZ z) (r * 8 + c))))]) G 12 dL_areRows_221 rfl rfl (by decide) rfl ?_
                  refine j_goto (tgt := 113) G dL_areRows_224 (by decide) ?_
                  refine j_lv [2, 3, 4, 5, 6, 1, 7, 8, 9, 10, 11, 12, 0] (lv' := [(0, .ref h), (1, .int (jI (pAll (tZ z)))), (2, .int (jI (hn + tv_13))), (3, .int (jI (F_open z))), (4, .int (jI mo)), (5, .int (jI 1)), (6, .int (jI r)), (7, .int (jI (z (7 + r)))), (8, .int (jI (rL (tZ z) r))), (9, .int (jI (rG (tZ z) r))), (10, .int (jI (su + (pTh (tZ z) (r * 8 + c))))), (11, .int (jI (ma + tv_24))), (12, .int (jI (c + 1)))]) rfl ?_
                  exact ih113 (c + 1) (su + (pTh (tZ z) (r * 8 + c))) (ma + tv_24) e_23 (by omega) (by rw [hsu]; exact (sumI_S hc.1 _).symm) (by rw [htv_many]; exact many_S (o := fun c => pTh (tZ z) (r * 8 + c)) hc.1 hma) (by omega)
              refine j_iload G 2 dL_areRows_162 rfl ?_
              refine j_if_gt (tgt := 195) G dL_areRows_164 (by decide) (by omega) (fun c164 => ?_) (fun c164 => ?_)
              · refine j_lv [3, 4, 5, 6, 7, 8, 9, 10, 11, 12, 1, 0, 13, 2] (lv' := [(0, .ref h), (1, .int (jI (pAll (tZ z)))), (2, .int (jI (hn + tv_13))), (3, .int (jI (F_open z))), (4, .int (jI mo)), (5, .int (jI 1)), (6, .int (jI r)), (7, .int (jI (z (7 + r)))), (8, .int (jI (rL (tZ z) r))), (9, .int (jI (rG (tZ z) r))), (10, .int (jI (su + (pTh (tZ z) (r * 8 + c))))), (11, .int (jI (ma + tv_24))), (12, .int (jI c)), (13, .int (jI (pTh (tZ z) (r * 8 + c))))]) rfl ?_
                exact lp195 
              · refine j_iload G 13 dL_areRows_167 rfl ?_
                refine j_iload G 11 dL_areRows_169 rfl ?_
                refine j_icmp_lt (tgt := 195) G dL_areRows_171 (by decide) (by omega) (by omega) (fun c171 => ?_) (fun c171 => ?_)
                · refine j_lv [3, 4, 5, 6, 7, 8, 9, 10, 11, 12, 1, 0, 13, 2] (lv' := [(0, .ref h), (1, .int (jI (pAll (tZ z)))), (2, .int (jI (hn + tv_13))), (3, .int (jI (F_open z))), (4, .int (jI mo)), (5, .int (jI 1)), (6, .int (jI r)), (7, .int (jI (z (7 + r)))), (8, .int (jI (rL (tZ z) r))), (9, .int (jI (rG (tZ z) r))), (10, .int (jI (su + (pTh (tZ z) (r * 8 + c))))), (11, .int (jI (ma + tv_24))), (12, .int (jI c)), (13, .int (jI (pTh (tZ z) (r * 8 + c))))]) rfl ?_
                  exact lp195 
                · refine j_iload G 13 dL_areRows_174 rfl ?_
                  refine j_iload G 12 dL_areRows_176 rfl ?_
                  refine j_icmp_gt (tgt := 195) G dL_areRows_178 (by decide) (by omega) (by omega) (fun c178 => ?_) (fun c178 => ?_)
                  · refine j_lv [3, 4, 5, 6, 7, 8, 9, 10, 11, 12, 1, 0, 13, 2] (lv' := [(0, .ref h), (1, .int (jI (pAll (tZ z)))), (2, .int (jI (hn + tv_13))), (3, .int (jI (F_open z))), (4, .int (jI mo)), (5, .int (jI 1)), (6, .int (jI r)), (7, .int (jI (z (7 + r)))), (8, .int (jI (rL (tZ z) r))), (9, .int (jI (rG (tZ z) r))), (10, .int (jI (su + (pTh (tZ z) (r * 8 + c))))), (11, .int (jI (ma + tv_24))), (12, .int (jI c)), (13, .int (jI (pTh (tZ z) (r * 8 + c))))]) rfl ?_
                    exact lp195 
                  · refine j_iload G 11 dL_areRows_181 rfl ?_
                    refine j_iload G 13 dL_areRows_183 rfl ?_
                    refine j_icmp_ge (tgt := 218) G dL_areRows_185 (by decide) (by omega) (by omega) (fun c185 => absurd c185 (by omega)) (fun c185 => ?_)
                    refine j_iload G 13 dL_areRows_188 rfl ?_
                    refine j_iload G 12 dL_areRows_190 rfl ?_
                    refine j_icmp_ge (tgt := 218) G dL_areRows_192 (by decide) (by omega) (by omega) (fun c192 => absurd c192 (by omega)) (fun c192 => ?_)
                    refine j_lv [3, 4, 5, 6, 7, 8, 9, 10, 11, 12, 1, 0, 13, 2] (lv' := [(0, .ref h), (1, .int (jI (pAll (tZ z)))), (2, .int (jI (hn + tv_13))), (3, .int (jI (F_open z))), (4, .int (jI mo)), (5, .int (jI 1)), (6, .int (jI r)), (7, .int (jI (z (7 + r)))), (8, .int (jI (rL (tZ z) r))), (9, .int (jI (rG (tZ z) r))), (10, .int (jI (su + (pTh (tZ z) (r * 8 + c))))), (11, .int (jI (ma + tv_24))), (12, .int (jI c)), (13, .int (jI (pTh (tZ z) (r * 8 + c))))]) rfl ?_
                    exact lp195 
        refine j_lv [7, 8, 1, 9, 10, 11, 12, 6, 5, 4, 3, 2, 0] (lv' := [(0, .ref h), (1, .int (jI (pAll (tZ z)))), (2, .int (jI (hn + tv_13))), (3, .int (jI (F_open z))), (4, .int (jI mo)), (5, .int (jI 1)), (6, .int (jI r)), (7, .int (jI (z (7 + r)))), (8, .int (jI (rL (tZ z) r))), (9, .int (jI (rG (tZ z) r))), (10, .int (jI 0)), (11, .int (jI 0)), (12, .int (jI 0))]) rfl ?_
        exact lp113 (Int.toNat ((8 - 0) + 1)) 0 0 0 e_12 (by omega) (by rfl) (by rfl) (by omega)
  refine j_lv [6, 5, 4, 3, 2, 1, 0] (lv' := [(0, .ref h), (1, .int (jI (pAll (tZ z)))), (2, .int (jI 0)), (3, .int (jI (F_open z))), (4, .int (jI 0)), (5, .int (jI 1)), (6, .int (jI 0))]) rfl ?_
  exact lp50 (Int.toNat ((8 - 0) + 1)) 0 0 0 e_2 (by omega) (by rfl) (by omega) (by intro q a b; omega) (by omega)
theorem jl_areRows {xc : Cx} {l : Launch} {D : va_G} {Y : Nat → ClassId} {cc : ByteArray} {own : String} {Ts : List Cond} {nL : Nat} {R0 : Room} {ret : Option FieldType} {nm : String} {kc nc pc index h : Nat} {lv : List (Nat × Value)} {st : List Value} {ad : Nat → Nat} {aq : Nat → Nat → Nat} {e : oE} {z zs : Int → Int} {ik sz : Int} {S : Nat → Int → Int} (G : jG xc l D Y cc own Ts nL R0 ret nm)  (hdg : decode cc pc = .ok (.invokestatic index, 3)) (hT : GoodIn Ts (va_wsS own index yL_areRows wsU_areRows)) (hR : 7 ≤ R0.frames ∧ 169 ≤ R0.locals) (hW : (st.map fun v => v.category).sum ≤ 8) (hf : kc ≤ R0.cells ∧ nc ≤ R0.slots) (hI : Inv z) (hB : Bd 48 z) (hsz : 0 ≤ sz ∧ sz ≤ 4) (kk : ∀ e2 : oE, J xc kc nc (oW Y h ad aq e2 z zs ik sz S) (pc + 3) lv (.int (jI 1) :: st)) : J xc kc nc (oW Y h ad aq e z zs ik sz S) pc lv (.ref h :: st) := by
  refine j_callS (nA := 1) (As := [.ref h]) (st := st) (wc := oW Y h ad aq e z zs ik sz S) (wr := []) G (c_L_areRows l D Y h ad aq e z zs ik sz S  hI hB hsz) hdg rfl hT rfl rfl rfl (by decide +kernel) hR rfl (jLe.nil (jLe.rf _)) hW hf (fun v_ w_ hp_ => ?_)
  obtain ⟨e2, rfl, rfl⟩ := hp_
  rw [List.append_nil]
  exact kk e2

set_option maxHeartbeats 40000000 in
set_option maxRecDepth 100000 in
theorem c_L_areCrews (l : Launch) (D : va_G) (Y : Nat → ClassId) (h : Nat) (ad : Nat → Nat) (aq : Nat → Nat → Nat) (e : oE) (z zs : Int → Int) (ik sz : Int) (S : Nat → Int → Int)  (hI : Inv z) (hB : Bd 48 z) (hsz : 0 ≤ sz ∧ sz ≤ 4) : jM l yL_areCrews wsU_areCrews { frames := 7, cells := 0, slots := 0, locals := 162 } D Y [.ref h] (oW Y h ad aq e z zs ik sz S) (fun v_ w_ => ∃ e2 : oE, v_ = some (.int (jI 1)) ∧ w_ = oW Y h ad aq e2 z zs ik sz S) 0 0 := by
  refine jM_of (cc := cL_areCrews) (maxL := 12) (ret := some .boolean) (by decide) rfl (Nat.le_of_ble_eq_true rfl) (fun v w' h => by obtain ⟨_, h, _⟩ := h; exact Or.inr (Or.inl ⟨_, _, rfl, h, jI_z (Or.inr rfl)⟩)) ?_
  intro x_ G kr0
  have G : jG x_ l D Y cL_areCrews RL wsU_areCrews 12 ({ frames := 7, cells := 0, slots := 0, locals := 162 } : Room) (some .boolean) "areCrews" := G
  show J x_ 0 0 (oW Y h ad aq e z zs ik sz S) 0 [(0, .ref h)] []
  refine j_iconst G dL_areCrews_0 (v := 0) rfl ?_
  refine j_istore_n (lv' := [(1, .int (jI 0)), (0, .ref h)]) G dL_areCrews_1 (by decide) rfl ?_
  refine j_iconst G dL_areCrews_2 (v := 1) rfl ?_
  refine j_istore_n (lv' := [(2, .int (jI 1)), (1, .int (jI 0)), (0, .ref h)]) G dL_areCrews_3 (by decide) rfl ?_
  refine j_iconst G dL_areCrews_4 (v := 0) rfl ?_
  refine j_istore_n (lv' := [(3, .int (jI 0)), (2, .int (jI 1)), (1, .int (jI 0)), (0, .ref h)]) G dL_areCrews_5 (by decide) rfl ?_
  have lp6 : ∀ (n_ : Nat) (k : Int) (sv : Int) (e1 : oE), (0 ≤ k ∧ k ≤ 3) → (sv = sumI k.toNat (fun k => z (17 + 4 * k))) → (3 - k) < (n_ : Int) → J x_ 0 0 (oW Y h ad aq e1 z zs ik sz S) 6 [(0, .ref h), (1, .int (jI sv)), (2, .int (jI 1)), (3, .int (jI k))] [] := by
    intro n_
    induction n_ with
    | zero =>
      intro k sv e1 hk hsv hm_
      exact absurd hm_ (by omega)
    | succ n_ ih6 =>
      intro k sv e1 hk hsv hm_
      refine j_iload_n G 3 dL_areCrews_6 rfl ?_
      refine j_iconst G dL_areCrews_7 (v := 3) rfl ?_
      refine j_icmp_ge (tgt := 324) G dL_areCrews_8 (by decide) (by omega) (by omega) (fun c8 => ?_) (fun c8 => ?_)
      · refine j_iload_n G 2 dL_areCrews_324 rfl ?_
        refine j_if_eq (tgt := 357) G dL_areCrews_325 (by decide) (by omega) (fun c325 => absurd c325 (by omega)) (fun c325 => ?_)
        have q1 : sv = z 17 + z 21 + z 25 := by rw [hsv, show k = 3 by omega]; exact saved_sum z
        refine j_iload_n G 1 dL_areCrews_328 rfl ?_
        refine j_aload_n G 0 dL_areCrews_329 rfl ?_
        refine j_bipush G dL_areCrews_330 (v := 7) rfl ?_
        refine jo_count (r0 := z 17 + z 21 + z 25) G dL_areCrews_332 (goodIn_up _ gvX4_count) ⟨by decide, by decide⟩ (Nat.le_of_ble_eq_true rfl) ⟨Nat.zero_le _, Nat.zero_le _⟩ (by exact hI) (by omega) (by rfl) (fun e_1 => ?_)
        have f332_ := bn7 hB
        refine j_icmp_ne (tgt := 357) G dL_areCrews_335 (by decide) (by omega) (by omega) (fun c335 => absurd c335 (by omega)) (fun c335 => ?_)
        refine j_aload_n G 0 dL_areCrews_338 rfl ?_
        refine j_bipush G dL_areCrews_339 (v := 9) rfl ?_
        refine jo_count (r0 := z 5) G dL_areCrews_341 (goodIn_up _ gvX4_count) ⟨by decide, by decide⟩ (Nat.le_of_ble_eq_true rfl) ⟨Nat.zero_le _, Nat.zero_le _⟩ (by exact hI) (by omega) (by rfl) (fun e_2 => ?_)
        have f341_ := bn8 hB
        refine j_aload_n G 0 dL_areCrews_344 rfl ?_
        refine j_bipush G dL_areCrews_345 (v := 8) rfl ?_
        refine jo_count (r0 := z 4) G dL_areCrews_347 (goodIn_up _ gvX4_count) ⟨by decide, by decide⟩ (Nat.le_of_ble_eq_true rfl) ⟨Nat.zero_le _, Nat.zero_le _⟩ (by exact hI) (by omega) (by rfl) (fun e_3 => ?_)
        have f347_ := bn8 hB
        refine j_icmp_gt (tgt := 357) G dL_areCrews_350 (by decide) (by omega) (by omega) (fun c350 => absurd c350 (by omega)) (fun c350 => ?_)
        refine j_iconst G dL_areCrews_353 (v := 1) rfl ?_
        refine j_goto (tgt := 358) G dL_areCrews_354 (by decide) ?_
        exact j_reti (r := 1) G dL_areCrews_358 (by rfl) (jLe.rf _) (kr0 _ _ ⟨e_3, rfl, rfl⟩)
      · refine j_iload_n G 2 dL_areCrews_11 rfl ?_
        refine j_if_eq (tgt := 324) G dL_areCrews_12 (by decide) (by omega) (fun c12 => absurd c12 (by omega)) (fun c12 => ?_)
        refine j_aload_n G 0 dL_areCrews_15 rfl ?_
        refine j_iload_n G 3 dL_areCrews_16 rfl ?_
        refine j_iconst G dL_areCrews_17 (v := 0) rfl ?_
        refine jo_crew (r0 := z (15 + 4 * k)) G dL_areCrews_18 (goodIn_up _ gvX4_crew) ⟨by decide, by decide⟩ (Nat.le_of_ble_eq_true rfl) ⟨Nat.zero_le _, Nat.zero_le _⟩ (by exact hI) (by omega) (by omega) (by exact fc0 (by omega)) (fun e_4 => ?_)
        have f18_ := bc0 hI (k := k) (by omega)
        refine j_istore (lv' := [(4, .int (jI (z (15 + 4 * k)))), (0, .ref h), (1, .int (jI sv)), (2, .int (jI 1)), (3, .int (jI k))]) G dL_areCrews_21 (by decide) rfl ?_
        refine j_aload_n G 1 dL_areCrews_23 rfl ?_
        refine j_iload_n G 4 dL_areCrews_24 rfl ?_
        refine j_iconst G dL_areCrews_25 (v := 1) rfl ?_
        refine jo_crew (r0 := z (16 + 4 * k)) G dL_areCrews_26 (goodIn_up _ gvX4_crew) ⟨by decide, by decide⟩ (Nat.le_of_ble_eq_true rfl) ⟨Nat.zero_le _, Nat.zero_le _⟩ (by exact hI) (by omega) (by omega) (by exact fc1 (by omega)) (fun e_5 => ?_)
        have f26_ := bc1 hI (k := k) (by omega)
        refine j_istore (lv' := [(5, .int (jI (z (16 + 4 * k)))), (4, .int (jI (z (15 + 4 * k)))), (0, .ref h), (1, .int (jI sv)), (2, .int (jI 1)), (3, .int (jI k))]) G dL_areCrews_29 (by decide) rfl ?_
        refine j_aload_n G 2 dL_areCrews_31 rfl ?_
        refine j_iload_n G 5 dL_areCrews_32 rfl ?_
        refine jo_best (r0 := zBest z (tZ z) k 64) G dL_areCrews_33 (goodIn_up _ gvX4_best) ⟨by decide, by decide⟩ (Nat.le_of_ble_eq_true rfl) ⟨Nat.zero_le _, Nat.zero_le _⟩ (by exact hI) (by omega) (by exact fbe (by omega)) (fun e_6 => ?_)
        have f33_ := bbe z k
        have f33b := best_ok z k
        refine j_istore (lv' := [(6, .int (jI (zBest z (tZ z) k 64))), (5, .int (jI (z (16 + 4 * k)))), (4, .int (jI (z (15 + 4 * k)))), (0, .ref h), (1, .int (jI sv)), (2, .int (jI 1)), (3, .int (jI k))]) G dL_areCrews_36 (by decide) rfl ?_
        refine j_iload_n G 4 dL_areCrews_38 rfl ?_
        refine j_aload_n G 3 dL_areCrews_39 rfl ?_
        refine j_iload_n G 6 dL_areCrews_40 rfl ?_
        refine j_iconst G dL_areCrews_41 (v := 2) rfl ?_
        refine jo_crew (r0 := z (17 + 4 * k)) G dL_areCrews_42 (goodIn_up _ gvX4_crew) ⟨by decide, by decide⟩ (Nat.le_of_ble_eq_true rfl) ⟨Nat.zero_le _, Nat.zero_le _⟩ (by exact hI) (by omega) (by omega) (by exact fc2 (by omega)) (fun e_7 => ?_)
        have f42_ := bc2 hB (k := k) (by omega)
        refine j_iadd G dL_areCrews_45 ?_
        refine j_istore_n (lv' := [(1, .int (jI (sv + (z (17 + 4 * k))))), (6, .int (jI (zBest z (tZ z) k 64))), (5, .int (jI (z (16 + 4 * k)))), (4, .int (jI (z (15 + 4 * k)))), (0, .ref h), (2, .int (jI 1)), (3, .int (jI k))]) G dL_areCrews_46 (by decide) rfl ?_
        refine j_iload G 3 dL_areCrews_47 rfl ?_
        refine j_if_lt (tgt := 117) G dL_areCrews_49 (by decide) (by omega) (fun c49 => absurd c49 (by omega)) (fun c49 => ?_)
        refine j_iload G 3 dL_areCrews_52 rfl ?_
        refine j_bipush G dL_areCrews_54 (v := 64) rfl ?_
        refine j_icmp_ge (tgt := 117) G dL_areCrews_56 (by decide) (by omega) (by omega) (fun c56 => absurd c56 (by omega)) (fun c56 => ?_)
        refine j_iload G 2 dL_areCrews_59 rfl ?_
        refine j_if_lt (tgt := 117) G dL_areCrews_61 (by decide) (by omega) (fun c61 => absurd c61 (by omega)) (fun c61 => ?_)
        refine j_iload G 2 dL_areCrews_64 rfl ?_
        refine j_bipush G dL_areCrews_66 (v := 30) rfl ?_
        refine j_icmp_gt (tgt := 117) G dL_areCrews_68 (by decide) (by omega) (by omega) (fun c68 => absurd c68 (by omega)) (fun c68 => ?_)
        refine j_aload_n G 4 dL_areCrews_71 rfl ?_
        refine j_iload_n G 6 dL_areCrews_72 rfl ?_
        refine j_iload G 3 dL_areCrews_73 rfl ?_
        refine jo_way (r0 := zWay z k (z (15 + 4 * k))) G dL_areCrews_75 (goodIn_up _ gvX4_way) ⟨by decide, by decide⟩ (Nat.le_of_ble_eq_true rfl) ⟨Nat.zero_le _, Nat.zero_le _⟩ (by exact hI) (by omega) (by omega) (by exact fw (by omega) (by omega)) (fun e_8 => ?_)
        have f75_ := zWay_b hI (k := k) (p := (z (15 + 4 * k))) (by omega) (by omega)
        have f75b := zWay_0 (z := z) (k := k) (p := z (15 + 4 * k)) rfl
        refine j_if_ne (tgt := 117) G dL_areCrews_78 (by decide) (by omega) (fun c78 => absurd c78 (by omega)) (fun c78 => ?_)
        refine j_aload_n G 4 dL_areCrews_81 rfl ?_
        refine j_iload_n G 6 dL_areCrews_82 rfl ?_
        refine j_iconst G dL_areCrews_83 (v := 2) rfl ?_
        refine jo_crew (r0 := z (17 + 4 * k)) G dL_areCrews_84 (goodIn_up _ gvX4_crew) ⟨by decide, by decide⟩ (Nat.le_of_ble_eq_true rfl) ⟨Nat.zero_le _, Nat.zero_le _⟩ (by exact hI) (by omega) (by omega) (by exact fc2 (by omega)) (fun e_9 => ?_)
        have f84_ := bc2 hB (k := k) (by omega)
        refine j_aload_n G 4 dL_areCrews_87 rfl ?_
        refine j_iload_n G 6 dL_areCrews_88 rfl ?_
        refine j_iconst G dL_areCrews_89 (v := 3) rfl ?_
        refine jo_crew (r0 := z (18 + 4 * k)) G dL_areCrews_90 (goodIn_up _ gvX4_crew) ⟨by decide, by decide⟩ (Nat.le_of_ble_eq_true rfl) ⟨Nat.zero_le _, Nat.zero_le _⟩ (by exact hI) (by omega) (by omega) (by exact fc3 (by omega)) (fun e_10 => ?_)
        have f90_ := bc3 hB (k := k) (by omega)
        refine j_icmp_lt (tgt := 117) G dL_areCrews_93 (by decide) (by omega) (by omega) (fun c93 => absurd c93 (by omega)) (fun c93 => ?_)
        have lp113 : ∀ (e2 : oE), J x_ 0 0 (oW Y h ad aq e2 z zs ik sz S) 113 [(0, .ref h), (1, .int (jI (sv + (z (17 + 4 * k))))), (3, .int (jI k)), (4, .int (jI (z (15 + 4 * k)))), (5, .int (jI (z (16 + 4 * k)))), (6, .int (jI (zBest z (tZ z) k 64)))] [] := by
          intro e2
          refine j_iconst G dL_areCrews_113 (v := 1) rfl ?_
          refine j_goto (tgt := 118) G dL_areCrews_114 (by decide) ?_
          refine j_istore_n (lv' := [(2, .int (jI 1)), (0, .ref h), (1, .int (jI (sv + (z (17 + 4 * k))))), (3, .int (jI k)), (4, .int (jI (z (15 + 4 * k)))), (5, .int (jI (z (16 + 4 * k)))), (6, .int (jI (zBest z (tZ z) k 64)))]) G dL_areCrews_118 (by decide) rfl ?_
          refine j_iload_n G 3 dL_areCrews_119 rfl ?_
          refine j_istore (lv' := [(7, .int (jI k)), (2, .int (jI 1)), (0, .ref h), (1, .int (jI (sv + (z (17 + 4 * k))))), (3, .int (jI k)), (4, .int (jI (z (15 + 4 * k)))), (5, .int (jI (z (16 + 4 * k)))), (6, .int (jI (zBest z (tZ z) k 64)))]) G dL_areCrews_120 (by decide) rfl ?_
          have lp122 : ∀ (n_ : Nat) (p : Int) (e3 : oE), (0 ≤ p ∧ p ≤ 68) → (69 - p) < (n_ : Int) → J x_ 0 0 (oW Y h ad aq e3 z zs ik sz S) 122 [(0, .ref h), (1, .int (jI (sv + (z (17 + 4 * k))))), (2, .int (jI 1)), (3, .int (jI k)), (4, .int (jI (z (15 + 4 * k)))), (5, .int (jI (z (16 + 4 * k)))), (6, .int (jI (zBest z (tZ z) k 64))), (7, .int (jI p))] [] := by
            intro n_
            induction n_ with
            | zero =>
              intro p e3 hp hm_
              exact absurd hm_ (by omega)
            | succ n_ ih122 =>
              intro p e3 hp hm_
              refine j_iload G 7 dL_areCrews_122 rfl ?_
              refine j_bipush G dL_areCrews_124 (v := 64) rfl ?_
              refine j_icmp_ge (tgt := 318) G dL_areCrews_126 (by decide) (by omega) (by omega) (fun c126 => ?_) (fun c126 => ?_)
              · refine j_iinc (w := k + 1) (lv' := [(3, .int (jI (k + 1))), (0, .ref h), (1, .int (jI (sv + (z (17 + 4 * k))))), (2, .int (jI 1)), (4, .int (jI (z (15 + 4 * k)))), (5, .int (jI (z (16 + 4 * k)))), (6, .int (jI (zBest z (tZ z) k 64))), (7, .int (jI p))]) G 3 dL_areCrews_318 rfl rfl (by decide) rfl ?_
                refine j_goto (tgt := 6) G dL_areCrews_321 (by decide) ?_
                refine j_lv [1, 2, 3, 0] (lv' := [(0, .ref h), (1, .int (jI (sv + (z (17 + 4 * k))))), (2, .int (jI 1)), (3, .int (jI (k + 1)))]) rfl ?_
                exact ih6 (k + 1) (sv + (z (17 + 4 * k))) e3 (by omega) (by rw [hsv]; exact (sumI_S hk.1 _).symm) (by omega)
              · refine j_iload_n G 2 dL_areCrews_129 rfl ?_
                refine j_if_eq (tgt := 318) G dL_areCrews_130 (by decide) (by omega) (fun c130 => absurd c130 (by omega)) (fun c130 => ?_)
                refine j_aload_n G 0 dL_areCrews_133 rfl ?_
                refine j_iload_n G 3 dL_areCrews_134 rfl ?_
                refine j_iload G 7 dL_areCrews_135 rfl ?_
                refine jo_way (r0 := zWay z k p) G dL_areCrews_137 (goodIn_up _ gvX4_way) ⟨by decide, by decide⟩ (Nat.le_of_ble_eq_true rfl) ⟨Nat.zero_le _, Nat.zero_le _⟩ (by exact hI) (by omega) (by omega) (by exact fw (by omega) (by omega)) (fun e_11 => ?_)
                have f137_ := zWay_b hI (k := k) (p := p) (by omega) (by omega)
                refine j_istore (lv' := [(8, .int (jI (zWay z k p))), (0, .ref h), (1, .int (jI (sv + (z (17 + 4 * k))))), (2, .int (jI 1)), (3, .int (jI k)), (4, .int (jI (z (15 + 4 * k)))), (5, .int (jI (z (16 + 4 * k)))), (6, .int (jI (zBest z (tZ z) k 64))), (7, .int (jI p))]) G dL_areCrews_140 (by decide) rfl ?_
                refine j_aload_n G 1 dL_areCrews_142 rfl ?_
                refine j_iload_n G 4 dL_areCrews_143 rfl ?_
                refine j_iload G 8 dL_areCrews_144 rfl ?_
                refine jo_reason (r0 := F_why z k p) G dL_areCrews_146 (goodIn_up _ gvX4_reason) ⟨by decide, by decide⟩ (Nat.le_of_ble_eq_true rfl) ⟨Nat.zero_le _, Nat.zero_le _⟩ (by exact hI) (by omega) (by omega) (by exact fre (by omega) (by omega)) (fun e_12 => ?_)
                have f146_ := bre z k p
                have f146b := hI.mu
                have f146c := hI.s2
                have f146d := bp0 hI (p := p) (by omega)
                refine j_istore (lv' := [(9, .int (jI (F_why z k p))), (8, .int (jI (zWay z k p))), (0, .ref h), (1, .int (jI (sv + (z (17 + 4 * k))))), (2, .int (jI 1)), (3, .int (jI k)), (4, .int (jI (z (15 + 4 * k)))), (5, .int (jI (z (16 + 4 * k)))), (6, .int (jI (zBest z (tZ z) k 64))), (7, .int (jI p))]) G dL_areCrews_149 (by decide) rfl ?_
                have lp175 : ∀ (ri : Int) (e4 : oE), (zWay z k p ≤ ri + (1 + z 92 / 3) ∧ 0 ≤ ri ∧ ri ≤ 100) → J x_ 0 0 (oW Y h ad aq e4 z zs ik sz S) 175 [(0, .ref h), (1, .int (jI (sv + (z (17 + 4 * k))))), (2, .int (jI 1)), (3, .int (jI k)), (4, .int (jI (z (15 + 4 * k)))), (5, .int (jI (z (16 + 4 * k)))), (6, .int (jI (zBest z (tZ z) k 64))), (7, .int (jI p)), (8, .int (jI (zWay z k p))), (9, .int (jI (F_why z k p)))] [.int (jI ri)] := by
                  intro ri e4 hri
                  refine j_istore (lv' := [(10, .int (jI ri)), (0, .ref h), (1, .int (jI (sv + (z (17 + 4 * k))))), (2, .int (jI 1)), (3, .int (jI k)), (4, .int (jI (z (15 + 4 * k)))), (5, .int (jI (z (16 + 4 * k)))), (6, .int (jI (zBest z (tZ z) k 64))), (7, .int (jI p)), (8, .int (jI (zWay z k p))), (9, .int (jI (F_why z k p)))]) G dL_areCrews_175 (by decide) rfl ?_
                  refine j_iconst G dL_areCrews_177 (v := 1) rfl ?_
                  refine j_aload_n G 1 dL_areCrews_178 rfl ?_
                  refine j_iload G 8 dL_areCrews_179 rfl ?_
                  refine j_iconst G dL_areCrews_181 (v := 1) rfl ?_
                  refine jo_plot (r0 := z 92) G dL_areCrews_182 (goodIn_up _ gvX4_plot) ⟨by decide, by decide⟩ (Nat.le_of_ble_eq_true rfl) ⟨Nat.zero_le _, Nat.zero_le _⟩ (by exact hI) (by omega) (by omega) (by exact fp1 (by omega)) (fun e_13 => ?_)
                  have f182_ := bp1 hI (p := p) (by omega)
                  refine j_iconst G dL_areCrews_185 (v := 3) rfl ?_
                  refine j_idiv G dL_areCrews_186 (by omega) (by omega) ?_
                  refine j_iadd G dL_areCrews_187 ?_
                  refine j_istore (lv' := [(11, .int (jI (1 + ((z 92) / 3)))), (10, .int (jI ri)), (0, .ref h), (1, .int (jI (sv + (z (17 + 4 * k))))), (2, .int (jI 1)), (3, .int (jI k)), (4, .int (jI (z (15 + 4 * k)))), (5, .int (jI (z (16 + 4 * k)))), (6, .int (jI (zBest z (tZ z) k 64))), (7, .int (jI p)), (8, .int (jI (zWay z k p))), (9, .int (jI (F_why z k p)))]) G dL_areCrews_188 (by decide) rfl ?_
                  have f190 := way_01 hI (k := k) (p := p) (by omega) (by omega)
                  refine j_iload G 10 dL_areCrews_190 rfl ?_
                  refine j_if_lt (tgt := 310) G dL_areCrews_192 (by decide) (by omega) (fun c192 => absurd c192 (by omega)) (fun c192 => ?_)
                  refine j_iload G 10 dL_areCrews_195 rfl ?_
                  obtain ⟨tv_14, htv_14⟩ : ∃ v_ : Int, v_ = (if (zWay z k p) = 0 then 1 else 0) := ⟨_, rfl⟩
                  suffices hj_15 : J x_ 0 0 (oW Y h ad aq e_13 z zs ik sz S) 205 [(11, .int (jI (1 + ((z 92) / 3)))), (10, .int (jI ri)), (0, .ref h), (1, .int (jI (sv + (z (17 + 4 * k))))), (2, .int (jI 1)), (3, .int (jI k)), (4, .int (jI (z (15 + 4 * k)))), (5, .int (jI (z (16 + 4 * k)))), (6, .int (jI (zBest z (tZ z) k 64))), (7, .int (jI p)), (8, .int (jI (zWay z k p))), (9, .int (jI (F_why z k p)))] [.int (jI tv_14)] by
                    refine j_if_ne (tgt := 204) G dL_areCrews_197 (by decide) (by omega) (fun c197 => ?_) (fun c197 => ?_)
                    · refine j_iconst G dL_areCrews_204 (v := 0) rfl ?_
                      rw [if_neg (show ¬ ((zWay z k p) = 0) by omega)] at htv_14
                      subst htv_14
                      exact hj_15
                    · refine j_iconst G dL_areCrews_200 (v := 1) rfl ?_
                      refine j_goto (tgt := 205) G dL_areCrews_201 (by decide) ?_
                      rw [if_pos (show (zWay z k p) = 0 by omega)] at htv_14
                      subst htv_14
                      exact hj_15
                  refine j_iload G 9 dL_areCrews_205 rfl ?_
                  refine j_iload G 6 dL_areCrews_207 rfl ?_
                  obtain ⟨tv_16, htv_16⟩ : ∃ v_ : Int, v_ = (if p = (z (15 + 4 * k)) then 1 else 0) := ⟨_, rfl⟩
                  suffices hj_17 : J x_ 0 0 (oW Y h ad aq e_13 z zs ik sz S) 217 [(11, .int (jI (1 + ((z 92) / 3)))), (10, .int (jI ri)), (0, .ref h), (1, .int (jI (sv + (z (17 + 4 * k))))), (2, .int (jI 1)), (3, .int (jI k)), (4, .int (jI (z (15 + 4 * k)))), (5, .int (jI (z (16 + 4 * k)))), (6, .int (jI (zBest z (tZ z) k 64))), (7, .int (jI p)), (8, .int (jI (zWay z k p))), (9, .int (jI (F_why z k p)))] [.int (jI tv_16), .int (jI tv_14)] by
                    refine j_icmp_ne (tgt := 216) G dL_areCrews_209 (by decide) (by omega) (by omega) (fun c209 => ?_) (fun c209 => ?_)
                    · refine j_iconst G dL_areCrews_216 (v := 0) rfl ?_
                      rw [if_neg (show ¬ (p = (z (15 + 4 * k))) by omega)] at htv_16
                      subst htv_16
                      exact hj_17
                    · refine j_iconst G dL_areCrews_212 (v := 1) rfl ?_
                      refine j_goto (tgt := 217) G dL_areCrews_213 (by decide) ?_
                      rw [if_pos (show p = (z (15 + 4 * k)) by omega)] at htv_16
                      subst htv_16
                      exact hj_17
                  refine j_icmp_ne (tgt := 310) G dL_areCrews_217 (by decide) (by omega) (by omega) (fun c217 => absurd c217 (by omega)) (fun c217 => ?_)
                  refine j_iload G 10 dL_areCrews_220 rfl ?_
                  refine j_iload G 1 dL_areCrews_222 rfl ?_
                  refine j_iload G 0 dL_areCrews_224 rfl ?_
                  refine j_iadd G dL_areCrews_226 ?_
                  refine j_icmp_gt (tgt := 310) G dL_areCrews_227 (by decide) (by omega) (by omega) (fun c227 => absurd c227 (by omega)) (fun c227 => ?_)
                  have lp276 : ∀ (va : Int) (e5 : oE), (va = F_why z k p) → J x_ 0 0 (oW Y h ad aq e5 z zs ik sz S) 276 [(0, .ref h), (1, .int (jI (sv + (z (17 + 4 * k))))), (2, .int (jI 1)), (3, .int (jI k)), (4, .int (jI (z (15 + 4 * k)))), (5, .int (jI (z (16 + 4 * k)))), (6, .int (jI (zBest z (tZ z) k 64))), (7, .int (jI p)), (8, .int (jI (zWay z k p))), (9, .int (jI (F_why z k p))), (10, .int (jI ri)), (11, .int (jI (1 + ((z 92) / 3))))] [.int (jI va), .int (jI (F_why z k p))] := by
                    intro va e5 hva
                    refine j_icmp_ne (tgt := 310) G dL_areCrews_276 (by decide) (by omega) (by omega) (fun c276 => absurd c276 (by omega)) (fun c276 => ?_)
                    refine j_iload G 9 dL_areCrews_279 rfl ?_
                    refine j_if_gt (tgt := 306) G dL_areCrews_281 (by decide) (by omega) (fun c281 => ?_) (fun c281 => ?_)
                    · refine j_iconst G dL_areCrews_306 (v := 1) rfl ?_
                      refine j_goto (tgt := 311) G dL_areCrews_307 (by decide) ?_
                      refine j_istore_n (lv' := [(2, .int (jI 1)), (0, .ref h), (1, .int (jI (sv + (z (17 + 4 * k))))), (3, .int (jI k)), (4, .int (jI (z (15 + 4 * k)))), (5, .int (jI (z (16 + 4 * k)))), (6, .int (jI (zBest z (tZ z) k 64))), (7, .int (jI p)), (8, .int (jI (zWay z k p))), (9, .int (jI (F_why z k p))), (10, .int (jI ri)), (11, .int (jI (1 + ((z 92) / 3))))]) G dL_areCrews_311 (by decide) rfl ?_
                      refine j_iinc (w := p + 5) (lv' := [(7, .int (jI (p + 5))), (2, .int (jI 1)), (0, .ref h), (1, .int (jI (sv + (z (17 + 4 * k))))), (3, .int (jI k)), (4, .int (jI (z (15 + 4 * k)))), (5, .int (jI (z (16 + 4 * k)))), (6, .int (jI (zBest z (tZ z) k 64))), (8, .int (jI (zWay z k p))), (9, .int (jI (F_why z k p))), (10, .int (jI ri)), (11, .int (jI (1 + ((z 92) / 3))))]) G 7 dL_areCrews_312 rfl rfl (by decide) rfl ?_
                      refine j_goto (tgt := 122) G dL_areCrews_315 (by decide) ?_
                      refine j_lv [2, 3, 1, 4, 5, 6, 7, 0] (lv' := [(0, .ref h), (1, .int (jI (sv + (z (17 + 4 * k))))), (2, .int (jI 1)), (3, .int (jI k)), (4, .int (jI (z (15 + 4 * k)))), (5, .int (jI (z (16 + 4 * k)))), (6, .int (jI (zBest z (tZ z) k 64))), (7, .int (jI (p + 5)))]) rfl ?_
                      exact ih122 (p + 5) e5 (by omega) (by omega)
                    · have f284 := best_top (z := z) (k := k) (p := p) (by omega) (by omega)
                      refine j_iload G 6 dL_areCrews_284 rfl ?_
                      refine j_if_lt (tgt := 310) G dL_areCrews_286 (by decide) (by omega) (fun c286 => absurd c286 (by omega)) (fun c286 => ?_)
                      refine j_aload_n G 0 dL_areCrews_289 rfl ?_
                      refine j_iload G 7 dL_areCrews_290 rfl ?_
                      refine j_iconst G dL_areCrews_292 (v := 5) rfl ?_
                      refine jo_plot (r0 := zLo z (tZ z) p) G dL_areCrews_293 (goodIn_up _ gvX4_plot) ⟨by decide, by decide⟩ (Nat.le_of_ble_eq_true rfl) ⟨Nat.zero_le _, Nat.zero_le _⟩ (by exact hI) (by omega) (by omega) (by exact fp5 (by omega)) (fun e_18 => ?_)
                      have f293_ := bp5 hI (p := p) (by omega)
                      refine j_aload_n G 0 dL_areCrews_296 rfl ?_
                      refine j_iload G 6 dL_areCrews_297 rfl ?_
                      refine j_iconst G dL_areCrews_299 (v := 5) rfl ?_
                      refine jo_plot (r0 := zLo z (tZ z) (zBest z (tZ z) k 64)) G dL_areCrews_300 (goodIn_up _ gvX4_plot) ⟨by decide, by decide⟩ (Nat.le_of_ble_eq_true rfl) ⟨Nat.zero_le _, Nat.zero_le _⟩ (by exact hI) (by omega) (by omega) (by exact fp5 (by omega)) (fun e_19 => ?_)
                      have f300_ := bp5 hI (p := (zBest z (tZ z) k 64)) (by omega)
                      refine j_icmp_gt (tgt := 310) G dL_areCrews_303 (by decide) (by omega) (by omega) (fun c303 => absurd c303 (by omega)) (fun c303 => ?_)
                      refine j_iconst G dL_areCrews_306 (v := 1) rfl ?_
                      refine j_goto (tgt := 311) G dL_areCrews_307 (by decide) ?_
                      refine j_istore_n (lv' := [(2, .int (jI 1)), (0, .ref h), (1, .int (jI (sv + (z (17 + 4 * k))))), (3, .int (jI k)), (4, .int (jI (z (15 + 4 * k)))), (5, .int (jI (z (16 + 4 * k)))), (6, .int (jI (zBest z (tZ z) k 64))), (7, .int (jI p)), (8, .int (jI (zWay z k p))), (9, .int (jI (F_why z k p))), (10, .int (jI ri)), (11, .int (jI (1 + ((z 92) / 3))))]) G dL_areCrews_311 (by decide) rfl ?_
                      refine j_iinc (w := p + 5) (lv' := [(7, .int (jI (p + 5))), (2, .int (jI 1)), (0, .ref h), (1, .int (jI (sv + (z (17 + 4 * k))))), (3, .int (jI k)), (4, .int (jI (z (15 + 4 * k)))), (5, .int (jI (z (16 + 4 * k)))), (6, .int (jI (zBest z (tZ z) k 64))), (8, .int (jI (zWay z k p))), (9, .int (jI (F_why z k p))), (10, .int (jI ri)), (11, .int (jI (1 + ((z 92) / 3))))]) G 7 dL_areCrews_312 rfl rfl (by decide) rfl ?_
                      refine j_goto (tgt := 122) G dL_areCrews_315 (by decide) ?_
                      refine j_lv [2, 3, 1, 4, 5, 6, 7, 0] (lv' := [(0, .ref h), (1, .int (jI (sv + (z (17 + 4 * k))))), (2, .int (jI 1)), (3, .int (jI k)), (4, .int (jI (z (15 + 4 * k)))), (5, .int (jI (z (16 + 4 * k)))), (6, .int (jI (zBest z (tZ z) k 64))), (7, .int (jI (p + 5)))]) rfl ?_
                      exact ih122 (p + 5) e_19 (by omega) (by omega)
                  refine j_iload G 11 dL_areCrews_230 rfl ?_
                  refine j_aload_n G 2 dL_areCrews_232 rfl ?_
                  refine j_iload G 9 dL_areCrews_233 rfl ?_
                  refine j_iconst G dL_areCrews_235 (v := 0) rfl ?_
                  refine jo_plot (r0 := z (28 + p)) G dL_areCrews_236 (goodIn_up _ gvX4_plot) ⟨by decide, by decide⟩ (Nat.le_of_ble_eq_true rfl) ⟨Nat.zero_le _, Nat.zero_le _⟩ (by exact hI) (by omega) (by omega) (by exact fp0 (by omega)) (fun e_20 => ?_)
                  have f236_ := bp0 hI (p := p) (by omega)
                  refine j_if_ne (tgt := 246) G dL_areCrews_239 (by decide) (by omega) (fun c239 => ?_) (fun c239 => ?_)
                  · refine j_iload G 10 dL_areCrews_246 rfl ?_
                    refine j_iload G 7 dL_areCrews_248 rfl ?_
                    refine j_icmp_le (tgt := 257) G dL_areCrews_250 (by decide) (by omega) (by omega) (fun c250 => ?_) (fun c250 => ?_)
                    · refine j_iload G 10 dL_areCrews_257 rfl ?_
                      refine j_aload_n G 2 dL_areCrews_259 rfl ?_
                      refine j_bipush G dL_areCrews_260 (v := 14) rfl ?_
                      refine jo_count (r0 := z 2) G dL_areCrews_262 (goodIn_up _ gvX4_count) ⟨by decide, by decide⟩ (Nat.le_of_ble_eq_true rfl) ⟨Nat.zero_le _, Nat.zero_le _⟩ (by exact hI) (by omega) (by rfl) (fun e_21 => ?_)
                      have f262_ := hI.s2
                      refine j_iadd G dL_areCrews_265 ?_
                      refine j_iload G 7 dL_areCrews_266 rfl ?_
                      refine j_icmp_le (tgt := 275) G dL_areCrews_268 (by decide) (by omega) (by omega) (fun c268 => ?_) (fun c268 => ?_)
                      · refine j_iconst G dL_areCrews_275 (v := 0) rfl ?_
                        refine j_lv [2, 3, 4, 5, 6, 7, 8, 9, 10, 11, 1, 0] (lv' := [(0, .ref h), (1, .int (jI (sv + (z (17 + 4 * k))))), (2, .int (jI 1)), (3, .int (jI k)), (4, .int (jI (z (15 + 4 * k)))), (5, .int (jI (z (16 + 4 * k)))), (6, .int (jI (zBest z (tZ z) k 64))), (7, .int (jI p)), (8, .int (jI (zWay z k p))), (9, .int (jI (F_why z k p))), (10, .int (jI ri)), (11, .int (jI (1 + ((z 92) / 3))))]) rfl ?_
                        exact lp276 0 e_21 (by rw [why_is z k p]; (repeat' split) <;> omega)
                      · refine j_iconst G dL_areCrews_271 (v := 3) rfl ?_
                        refine j_goto (tgt := 276) G dL_areCrews_272 (by decide) ?_
                        refine j_lv [2, 3, 4, 5, 6, 7, 8, 9, 10, 11, 1, 0] (lv' := [(0, .ref h), (1, .int (jI (sv + (z (17 + 4 * k))))), (2, .int (jI 1)), (3, .int (jI k)), (4, .int (jI (z (15 + 4 * k)))), (5, .int (jI (z (16 + 4 * k)))), (6, .int (jI (zBest z (tZ z) k 64))), (7, .int (jI p)), (8, .int (jI (zWay z k p))), (9, .int (jI (F_why z k p))), (10, .int (jI ri)), (11, .int (jI (1 + ((z 92) / 3))))]) rfl ?_
                        exact lp276 3 e_21 (by rw [why_is z k p]; (repeat' split) <;> omega)
                    · refine j_iconst G dL_areCrews_253 (v := 2) rfl ?_
                      refine j_goto (tgt := 276) G dL_areCrews_254 (by decide) ?_
                      refine j_lv [2, 3, 4, 5, 6, 7, 8, 9, 10, 11, 1, 0] (lv' := [(0, .ref h), (1, .int (jI (sv + (z (17 + 4 * k))))), (2, .int (jI 1)), (3, .int (jI k)), (4, .int (jI (z (15 + 4 * k)))), (5, .int (jI (z (16 + 4 * k)))), (6, .int (jI (zBest z (tZ z) k 64))), (7, .int (jI p)), (8, .int (jI (zWay z k p))), (9, .int (jI (F_why z k p))), (10, .int (jI ri)), (11, .int (jI (1 + ((z 92) / 3))))]) rfl ?_
                      exact lp276 2 e_20 (by rw [why_is z k p]; (repeat' split) <;> omega)
                  · refine j_iconst G dL_areCrews_242 (v := 1) rfl ?_
                    refine j_goto (tgt := 276) G dL_areCrews_243 (by decide) ?_
                    refine j_lv [2, 3, 4, 5, 6, 7, 8, 9, 10, 11, 1, 0] (lv' := [(0, .ref h), (1, .int (jI (sv + (z (17 + 4 * k))))), (2, .int (jI 1)), (3, .int (jI k)), (4, .int (jI (z (15 + 4 * k)))), (5, .int (jI (z (16 + 4 * k)))), (6, .int (jI (zBest z (tZ z) k 64))), (7, .int (jI p)), (8, .int (jI (zWay z k p))), (9, .int (jI (F_why z k p))), (10, .int (jI ri)), (11, .int (jI (1 + ((z 92) / 3))))]) rfl ?_
                    exact lp276 1 e_20 (by rw [why_is z k p]; (repeat' split) <;> omega)
                refine j_iload G 9 dL_areCrews_151 rfl ?_
                refine j_bipush G dL_areCrews_153 (v := 8) rfl ?_
                refine j_irem G dL_areCrews_155 (by omega) (by omega) ?_
                refine j_bipush G dL_areCrews_156 (v := 7) rfl ?_
                refine j_icmp_ge (tgt := 173) G dL_areCrews_158 (by decide) (by omega) (by omega) (fun c158 => ?_) (fun c158 => ?_)
                · refine j_iload G 1 dL_areCrews_173 rfl ?_
                  refine j_lv [2, 3, 4, 5, 6, 7, 8, 9, 1, 0] (lv' := [(0, .ref h), (1, .int (jI (sv + (z (17 + 4 * k))))), (2, .int (jI 1)), (3, .int (jI k)), (4, .int (jI (z (15 + 4 * k)))), (5, .int (jI (z (16 + 4 * k)))), (6, .int (jI (zBest z (tZ z) k 64))), (7, .int (jI p)), (8, .int (jI (zWay z k p))), (9, .int (jI (F_why z k p)))]) rfl ?_
                  exact lp175 (zWay z k p) e_12 (by first | omega | (have q := way_nb hI (k := k) (p := p) (by omega) (by omega) (by omega); omega))
                · refine j_aload_n G 2 dL_areCrews_161 rfl ?_
                  refine j_iload_n G 5 dL_areCrews_162 rfl ?_
                  refine j_iload G 9 dL_areCrews_163 rfl ?_
                  refine j_iconst G dL_areCrews_165 (v := 1) rfl ?_
                  refine j_iadd G dL_areCrews_166 ?_
                  refine jo_way (r0 := zWay z k (p + 1)) G dL_areCrews_167 (goodIn_up _ gvX4_way) ⟨by decide, by decide⟩ (Nat.le_of_ble_eq_true rfl) ⟨Nat.zero_le _, Nat.zero_le _⟩ (by exact hI) (by omega) (by omega) (by exact fw (by omega) (by omega)) (fun e_22 => ?_)
                  have f167_ := zWay_b hI (k := k) (p := (p + 1)) (by omega) (by omega)
                  refine j_goto (tgt := 175) G dL_areCrews_170 (by decide) ?_
                  refine j_lv [2, 3, 4, 5, 6, 7, 8, 9, 1, 0] (lv' := [(0, .ref h), (1, .int (jI (sv + (z (17 + 4 * k))))), (2, .int (jI 1)), (3, .int (jI k)), (4, .int (jI (z (15 + 4 * k)))), (5, .int (jI (z (16 + 4 * k)))), (6, .int (jI (zBest z (tZ z) k 64))), (7, .int (jI p)), (8, .int (jI (zWay z k p))), (9, .int (jI (F_why z k p)))]) rfl ?_
                  exact lp175 (zWay z k (p + 1)) e_22 (by first | omega | (have q := way_nb hI (k := k) (p := p) (by omega) (by omega) (by omega); omega))
          refine j_lv [2, 3, 1, 4, 5, 6, 7, 0] (lv' := [(0, .ref h), (1, .int (jI (sv + (z (17 + 4 * k))))), (2, .int (jI 1)), (3, .int (jI k)), (4, .int (jI (z (15 + 4 * k)))), (5, .int (jI (z (16 + 4 * k)))), (6, .int (jI (zBest z (tZ z) k 64))), (7, .int (jI k))]) rfl ?_
          exact lp122 (Int.toNat ((69 - k) + 1)) k e2 (by omega) (by omega)
        refine j_iload G 1 dL_areCrews_96 rfl ?_
        refine j_bipush G dL_areCrews_98 (v := (-5)) rfl ?_
        refine j_icmp_eq (tgt := 113) G dL_areCrews_100 (by decide) (by omega) (by omega) (fun c100 => ?_) (fun c100 => ?_)
        · refine j_lv [4, 0, 6, 3, 2, 1] (lv' := [(0, .ref h), (1, .int (jI (sv + (z (17 + 4 * k))))), (3, .int (jI k)), (4, .int (jI (z (15 + 4 * k)))), (5, .int (jI (z (16 + 4 * k)))), (6, .int (jI (zBest z (tZ z) k 64)))]) rfl ?_
          exact lp113 e_10
        · refine j_aload_n G 4 dL_areCrews_103 rfl ?_
          refine j_iload_n G 6 dL_areCrews_104 rfl ?_
          refine j_iload G 1 dL_areCrews_105 rfl ?_
          refine jo_reason (r0 := F_why z k (zBest z (tZ z) k 64)) G dL_areCrews_107 (goodIn_up _ gvX4_reason) ⟨by decide, by decide⟩ (Nat.le_of_ble_eq_true rfl) ⟨Nat.zero_le _, Nat.zero_le _⟩ (by exact hI) (by omega) (by omega) (by exact fre (by omega) (by omega)) (fun e_23 => ?_)
          have f107_ := bre z k (zBest z (tZ z) k 64)
          refine j_if_ne (tgt := 117) G dL_areCrews_110 (by decide) (by omega) (fun c110 => absurd c110 (by omega)) (fun c110 => ?_)
          refine j_lv [4, 0, 6, 3, 2, 1] (lv' := [(0, .ref h), (1, .int (jI (sv + (z (17 + 4 * k))))), (3, .int (jI k)), (4, .int (jI (z (15 + 4 * k)))), (5, .int (jI (z (16 + 4 * k)))), (6, .int (jI (zBest z (tZ z) k 64)))]) rfl ?_
          exact lp113 e_23
  refine j_lv [3, 2, 1, 0] (lv' := [(0, .ref h), (1, .int (jI 0)), (2, .int (jI 1)), (3, .int (jI 0))]) rfl ?_
  exact lp6 (Int.toNat ((3 - 0) + 1)) 0 0 e (by omega) (by rfl) (by omega)
theorem jl_areCrews {xc : Cx} {l : Launch} {D : va_G} {Y : Nat → ClassId} {cc : ByteArray} {own : String} {Ts : List Cond} {nL : Nat} {R0 : Room} {ret : Option FieldType} {nm : String} {kc nc pc index h : Nat} {lv : List (Nat × Value)} {st : List Value} {ad : Nat → Nat} {aq : Nat → Nat → Nat} {e : oE} {z zs : Int → Int} {ik sz : Int} {S : Nat → Int → Int} (G : jG xc l D Y cc own Ts nL R0 ret nm)  (hdg : decode cc pc = .ok (.invokestatic index, 3)) (hT : GoodIn Ts (va_wsS own index yL_areCrews wsU_areCrews)) (hR : 8 ≤ R0.frames ∧ 193 ≤ R0.locals) (hW : (st.map fun v => v.category).sum ≤ 8) (hf : kc ≤ R0.cells ∧ nc ≤ R0.slots) (hI : Inv z) (hB : Bd 48 z) (hsz : 0 ≤ sz ∧ sz ≤ 4) (kk : ∀ e2 : oE, J xc kc nc (oW Y h ad aq e2 z zs ik sz S) (pc + 3) lv (.int (jI 1) :: st)) : J xc kc nc (oW Y h ad aq e z zs ik sz S) pc lv (.ref h :: st) := by
  refine j_callS (nA := 1) (As := [.ref h]) (st := st) (wc := oW Y h ad aq e z zs ik sz S) (wr := []) G (c_L_areCrews l D Y h ad aq e z zs ik sz S  hI hB hsz) hdg rfl hT rfl rfl rfl (by decide +kernel) hR rfl (jLe.nil (jLe.rf _)) hW hf (fun v_ w_ hp_ => ?_)
  obtain ⟨e2, rfl, rfl⟩ := hp_
  rw [List.append_nil]
  exact kk e2
