set_option maxHeartbeats 4000000 in
set_option maxRecDepth 100000 in
theorem c_X5_whyNot (l : Launch) (D : va_G) (Y : Nat → ClassId) (h : Nat) (q : Nat → Nat) (z : Int → Int) (sp : Int → Int) (pa : Int → Int) (st : Int) (ke : Int → Int) (ik : Int) (tx : Int → Int) (ln : Int) (sn : Int) (se : Int) (dn : Int → Int) (up : Int → Int) (fa : Int → Int) (lo : Int → Int) (to : Int → Int) (tm : Int) (so : Int) (i : Int) (K : Int) (a : Int) (b : Int) (hI : Inv z) (hi : 0 ≤ i ∧ i < 31) (h0 : to (3 * i) = K) (h1 : to (3 * i + 1) = a) (h2 : kOk K) (hb : tB K a b) (h3 : ¬ sg K = 0 → to (3 * i + 2) = b) : jM l yX5_whyNot wsX5_whyNot { frames := 6, cells := 0, slots := 0, locals := 137 } D Y [.ref h, .int (jI i)] (mV Y h q z sp pa st ke ik tx ln sn se dn up fa lo to tm so) (fun v_ w_ => ∃ (d2 : Int → Int) (u2 : Int → Int) (f2 : Int → Int) (y2 : Int), v_ = some (.int (jI y2)) ∧ w_ = (mV Y h q z sp pa st ke ik tx ln sn se d2 u2 f2 lo to tm so) ∧ ((y2 = 0 ∧ ¬ isE (dF z K a b)) ∨ (y2 = dF z K a b ∧ isE (dF z K a b)))) 0 0 := by
  refine jM_of (cc := cX5_whyNot) (maxL := 4) (ret := (some .int)) (by decide) rfl (Nat.le_of_ble_eq_true rfl) (fun v w' h => by obtain ⟨_, _, _, _, h⟩ := h; exact Or.inr (Or.inl ⟨_, _, rfl, h.1, rfl⟩)) ?_
  intro x G kr0
  have G : jG x l D Y cX5_whyNot RX5 wsX5_whyNot 4 ({ frames := 6, cells := 0, slots := 0, locals := 137 } : Room) (some .int) "whyNot" := G
  have hinX5 : ∀ w ∈ wsX50, w ∈ wsX5_whyNot := fun _ h => List.mem_cons_of_mem _ (List.mem_append_right _ h)
  show J x 0 0 (mV Y h q z sp pa st ke ik tx ln sn se dn up fa lo to tm so) 0 [(0, .ref h), (1, .int (jI i))] []
  refine j_aload_n G 0 dX5_whyNot_0 rfl ?_
  refine j_get (q := 14) (C := RX5) (T := TX5) (N := 17) (v := .ref (q 9)) G 0 hinX5 dX5_whyNot_1 rfl rfl (by decide) (by decide +kernel) rfl ?_
  refine j_iconst G dX5_whyNot_4 (v := 3) rfl ?_
  refine j_iload_n G 1 dX5_whyNot_5 rfl ?_
  refine j_imul G dX5_whyNot_6 ?_
  refine j_iconst G dX5_whyNot_7 (v := 1) rfl ?_
  refine j_iadd G dX5_whyNot_8 ?_
  refine j_iald (v := to ((3 * i) + 1)) G 10 dX5_whyNot_9 rfl (by omega) rfl ?_
  rw [h1]
  refine j_istore_n (lv' := [(2, .int (jI a)), (0, .ref h), (1, .int (jI i))]) G dX5_whyNot_10 (by decide) rfl ?_
  refine j_aload_n G 1 dX5_whyNot_11 rfl ?_
  refine j_get (q := 14) (C := RX5) (T := TX5) (N := 17) (v := .ref (q 9)) G 0 hinX5 dX5_whyNot_12 rfl rfl (by decide) (by decide +kernel) rfl ?_
  refine j_iconst G dX5_whyNot_15 (v := 3) rfl ?_
  refine j_iload_n G 2 dX5_whyNot_16 rfl ?_
  refine j_imul G dX5_whyNot_17 ?_
  refine j_iconst G dX5_whyNot_18 (v := 2) rfl ?_
  refine j_iadd G dX5_whyNot_19 ?_
  refine j_iald (v := to ((3 * i) + 2)) G 10 dX5_whyNot_20 rfl (by omega) rfl ?_
  obtain ⟨b3, e_b3⟩ : ∃ y : Int, y = (to ((3 * i) + 2)) := ⟨_, rfl⟩
  rw [← e_b3]
  refine j_istore_n (lv' := [(3, .int (jI b3)), (2, .int (jI a)), (0, .ref h), (1, .int (jI i))]) G dX5_whyNot_21 (by decide) rfl ?_
  refine j_aload_n G 2 dX5_whyNot_22 rfl ?_
  refine j_get (q := 14) (C := RX5) (T := TX5) (N := 17) (v := .ref (q 9)) G 0 hinX5 dX5_whyNot_23 rfl rfl (by decide) (by decide +kernel) rfl ?_
  refine j_iconst G dX5_whyNot_26 (v := 3) rfl ?_
  refine j_iload_n G 3 dX5_whyNot_27 rfl ?_
  refine j_imul G dX5_whyNot_28 ?_
  refine j_iald (v := to (3 * i)) G 10 dX5_whyNot_29 rfl (by omega) rfl ?_
  have hb3 : ¬ sg K = 0 → b3 = b := fun y => by rw [e_b3]; exact h3 y
  rw [h0]
  rcases (show K = 116 ∨ K = 114 ∨ K = 104 ∨ K = 103 ∨ K = 102 ∨ K = 46 by exact h2) with sp_1 | sp_1 | sp_1 | sp_1 | sp_1 | sp_1
  · subst sp_1
    refine j_lkp (tgt := 98) (off := 68) G dX5_whyNot_30 (by omega) (by decide) (by first | rfl | decide | exact lkp_d _ _ _ (by decide)) (by decide) ?_
    refine j_iconst G dX5_whyNot_98 (v := 0) rfl ?_
    exact j_reti G dX5_whyNot_99 (by rfl) (jLe.rf _) (kr0 _ _ ⟨dn, up, fa, 0, rfl, rfl, (Or.inl ⟨rfl, by first | (have h9 := hb.1 rfl; have f2 := hI.wo a (by omega) (by omega); show ¬ (F_grow z a b < 0 ∧ ¬ F_grow z a b = -5); unfold F_grow; (repeat' split) <;> omega) | (have h9 := hb.2.1 rfl; show ¬ (F_rain z a < 0 ∧ ¬ F_rain z a = -5); unfold F_rain; (repeat' split) <;> omega)⟩)⟩)
  · subst sp_1
    refine j_lkp (tgt := 98) (off := 68) G dX5_whyNot_30 (by omega) (by decide) (by first | rfl | decide | exact lkp_d _ _ _ (by decide)) (by decide) ?_
    refine j_iconst G dX5_whyNot_98 (v := 0) rfl ?_
    exact j_reti G dX5_whyNot_99 (by rfl) (jLe.rf _) (kr0 _ _ ⟨dn, up, fa, 0, rfl, rfl, (Or.inl ⟨rfl, by first | (have h9 := hb.1 rfl; have f2 := hI.wo a (by omega) (by omega); show ¬ (F_grow z a b < 0 ∧ ¬ F_grow z a b = -5); unfold F_grow; (repeat' split) <;> omega) | (have h9 := hb.2.1 rfl; show ¬ (F_rain z a < 0 ∧ ¬ F_rain z a = -5); unfold F_rain; (repeat' split) <;> omega)⟩)⟩)
  · subst sp_1
    refine j_lkp (tgt := 72) (off := 42) G dX5_whyNot_30 (by omega) (by decide) (by first | rfl | decide | exact lkp_d _ _ _ (by decide)) (by decide) ?_
    have h9 := hb.2.2.1 rfl
    have h8 : b3 = b := hb3 (by decide)
    rw [h8]
    refine j_aload_n G 2 dX5_whyNot_72 rfl ?_
    refine j_iload_n G 1 dX5_whyNot_73 rfl ?_
    refine j_iload_n G 0 dX5_whyNot_74 rfl ?_
    refine j_callV (nA := 2) (As := [.int (jI a), .int (jI b)]) (st := []) (wc := (mV Y h q z sp pa st ke ik tx ln sn se dn up fa lo to tm so)) (wr := []) G (c_X5_whyNotHint l D Y h q z sp pa st ke ik tx ln sn se dn up fa lo to tm so a b (by first | assumption | omega) (by first | assumption | omega) (by first | assumption | omega)) dX5_whyNot_75 rfl gX5_whyNot_X5_whyNotHint rfl rfl rfl (by decide +kernel) ⟨by decide, by decide⟩ rfl 0 rfl rfl rfl (jLe.nil (jLe.rf _)) (Nat.le_of_ble_eq_true rfl) ⟨Nat.zero_le _, Nat.zero_le _⟩ (fun v_ w_ hp_ => ?_)
    obtain ⟨d2_2, u2_3, rfl, rfl⟩ := hp_
    show J x 0 0 (mV Y h q z sp pa st ke ik tx ln sn se d2_2 u2_3 fa lo to tm so) 78 [(3, .int (jI b)), (2, .int (jI a)), (0, .ref h), (1, .int (jI i))] [.int (jI (if 0 ≤ a ∧ a ≤ 7 then (if 0 ≤ b ∧ b ≤ 7 then (if ¬ z (7 + a) = -5 ∨ pTh (tZ z) (a * 8 + b) = 0 then -4 else 0) else -2) else -1))]
    exact j_reti G dX5_whyNot_78 (by rfl) (jLe.rf _) (kr0 _ _ ⟨d2_2, u2_3, fa, (if 0 ≤ a ∧ a ≤ 7 then (if 0 ≤ b ∧ b ≤ 7 then (if ¬ z (7 + a) = -5 ∨ pTh (tZ z) (a * 8 + b) = 0 then -4 else 0) else -2) else -1), rfl, rfl, (by show (_ = (0 : Int) ∧ ¬ (F_hint z a b < 0 ∧ ¬ F_hint z a b = -5)) ∨ (_ = F_hint z a b ∧ (F_hint z a b < 0 ∧ ¬ F_hint z a b = -5)); have f24 : 0 ≤ pTh (tZ z) (a * 8 + b) ∧ pTh (tZ z) (a * 8 + b) ≤ 2187 := pTh_b (tZ z) (p := a * 8 + b) (by omega); unfold F_hint; (repeat' split) <;> omega)⟩)
  · subst sp_1
    refine j_lkp (tgt := 79) (off := 49) G dX5_whyNot_30 (by omega) (by decide) (by first | rfl | decide | exact lkp_d _ _ _ (by decide)) (by decide) ?_
    have h9 := hb.2.2.2.1 rfl
    have h8 : b3 = b := hb3 (by decide)
    rw [h8]
    refine j_aload_n G 2 dX5_whyNot_79 rfl ?_
    refine j_iload_n G 1 dX5_whyNot_80 rfl ?_
    refine j_iload_n G 0 dX5_whyNot_81 rfl ?_
    refine j_callV (nA := 2) (As := [.int (jI a), .int (jI b)]) (st := []) (wc := (mV Y h q z sp pa st ke ik tx ln sn se dn up fa lo to tm so)) (wr := []) G (c_X5_whyNotGo l D Y h q z sp pa st ke ik tx ln sn se dn up fa lo to tm so a b (by first | assumption | omega) (by first | assumption | omega) (by first | assumption | omega)) dX5_whyNot_82 rfl gX5_whyNot_X5_whyNotGo rfl rfl rfl (by decide +kernel) ⟨by decide, by decide⟩ rfl 0 rfl rfl rfl (jLe.nil (jLe.rf _)) (Nat.le_of_ble_eq_true rfl) ⟨Nat.zero_le _, Nat.zero_le _⟩ (fun v_ w_ hp_ => ?_)
    obtain ⟨f2_4, rfl, rfl⟩ := hp_
    show J x 0 0 (mV Y h q z sp pa st ke ik tx ln sn se dn up f2_4 lo to tm so) 85 [(3, .int (jI b)), (2, .int (jI a)), (0, .ref h), (1, .int (jI i))] [.int (jI (if (0 ≤ a ∧ a ≤ 2) ∧ (0 ≤ b ∧ b ≤ 63) then (if z (16 + 4 * a) < zWay z a b then -4 else 0) else -1))]
    exact j_reti G dX5_whyNot_85 (by rfl) (jLe.rf _) (kr0 _ _ ⟨dn, up, f2_4, (if (0 ≤ a ∧ a ≤ 2) ∧ (0 ≤ b ∧ b ≤ 63) then (if z (16 + 4 * a) < zWay z a b then -4 else 0) else -1), rfl, rfl, (by show (_ = (0 : Int) ∧ ¬ (F_go z a b < 0 ∧ ¬ F_go z a b = -5)) ∨ (_ = F_go z a b ∧ (F_go z a b < 0 ∧ ¬ F_go z a b = -5)); unfold F_go; (repeat' split) <;> omega)⟩)
  · subst sp_1
    refine j_lkp (tgt := 86) (off := 56) G dX5_whyNot_30 (by omega) (by decide) (by first | rfl | decide | exact lkp_d _ _ _ (by decide)) (by decide) ?_
    have h9 := hb.2.2.2.2.1 rfl
    refine j_aload_n G 2 dX5_whyNot_86 rfl ?_
    refine j_iload_n G 1 dX5_whyNot_87 rfl ?_
    refine j_callV (nA := 1) (As := [.int (jI a)]) (st := []) (wc := (mV Y h q z sp pa st ke ik tx ln sn se dn up fa lo to tm so)) (wr := []) G (c_X5_whyNotFell l D Y h q z sp pa st ke ik tx ln sn se dn up fa lo to tm so a (by first | assumption | omega) (by first | assumption | omega)) dX5_whyNot_88 rfl gX5_whyNot_X5_whyNotFell rfl rfl rfl (by decide +kernel) ⟨by decide, by decide⟩ rfl 0 rfl rfl rfl (jLe.nil (jLe.rf _)) (Nat.le_of_ble_eq_true rfl) ⟨Nat.zero_le _, Nat.zero_le _⟩ (fun v_ w_ hp_ => ?_)
    obtain ⟨rfl, rfl⟩ := hp_
    show J x 0 0 (mV Y h q z sp pa st ke ik tx ln sn se dn up fa lo to tm so) 91 [(3, .int (jI b3)), (2, .int (jI a)), (0, .ref h), (1, .int (jI i))] [.int (jI (if 0 ≤ a ∧ a ≤ 2 then (if z (16 + 4 * a) < z 2 then -4 else 0) else -1))]
    exact j_reti G dX5_whyNot_91 (by rfl) (jLe.rf _) (kr0 _ _ ⟨dn, up, fa, (if 0 ≤ a ∧ a ≤ 2 then (if z (16 + 4 * a) < z 2 then -4 else 0) else -1), rfl, rfl, (by show (_ = (0 : Int) ∧ ¬ (F_fell z a < 0 ∧ ¬ F_fell z a = -5)) ∨ (_ = F_fell z a ∧ (F_fell z a < 0 ∧ ¬ F_fell z a = -5)); have f1 := hI.pl a (by omega) (by omega); have f2 := hI.wo (z (15 + 4 * a)) (by omega) (by omega); unfold F_fell; (repeat' split) <;> omega)⟩)
  · subst sp_1
    refine j_lkp (tgt := 92) (off := 62) G dX5_whyNot_30 (by omega) (by decide) (by first | rfl | decide | exact lkp_d _ _ _ (by decide)) (by decide) ?_
    have h9 := hb.2.2.2.2.2 rfl
    refine j_aload_n G 2 dX5_whyNot_92 rfl ?_
    refine j_iload_n G 1 dX5_whyNot_93 rfl ?_
    refine j_callV (nA := 1) (As := [.int (jI a)]) (st := []) (wc := (mV Y h q z sp pa st ke ik tx ln sn se dn up fa lo to tm so)) (wr := []) G (c_X5_whyNotEnd l D Y h q z sp pa st ke ik tx ln sn se dn up fa lo to tm so a (by first | assumption | omega) (by first | assumption | omega)) dX5_whyNot_94 rfl gX5_whyNot_X5_whyNotEnd rfl rfl rfl (by decide +kernel) ⟨by decide, by decide⟩ rfl 0 rfl rfl rfl (jLe.nil (jLe.rf _)) (Nat.le_of_ble_eq_true rfl) ⟨Nat.zero_le _, Nat.zero_le _⟩ (fun v_ w_ hp_ => ?_)
    obtain ⟨rfl, rfl⟩ := hp_
    show J x 0 0 (mV Y h q z sp pa st ke ik tx ln sn se dn up fa lo to tm so) 97 [(3, .int (jI b3)), (2, .int (jI a)), (0, .ref h), (1, .int (jI i))] [.int (jI (if 1 ≤ a ∧ a ≤ 99 then (if 9999 < z 3 + a then -3 else 0) else -2))]
    exact j_reti G dX5_whyNot_97 (by rfl) (jLe.rf _) (kr0 _ _ ⟨dn, up, fa, (if 1 ≤ a ∧ a ≤ 99 then (if 9999 < z 3 + a then -3 else 0) else -2), rfl, rfl, (by show (_ = (0 : Int) ∧ ¬ (F_end z a < 0 ∧ ¬ F_end z a = -5)) ∨ (_ = F_end z a ∧ (F_end z a < 0 ∧ ¬ F_end z a = -5)); have f1 := hI.da; unfold F_end; (repeat' split) <;> omega)⟩)

set_option maxHeartbeats 4000000 in
set_option maxRecDepth 100000 in
theorem c_X5_doThing (l : Launch) (D : va_G) (Y : Nat → ClassId) (h : Nat) (q : Nat → Nat) (z : Int → Int) (sp : Int → Int) (pa : Int → Int) (st : Int) (ke : Int → Int) (ik : Int) (tx : Int → Int) (ln : Int) (sn : Int) (se : Int) (dn : Int → Int) (up : Int → Int) (fa : Int → Int) (lo : Int → Int) (to : Int → Int) (tm : Int) (so : Int) (i : Int) (K : Int) (a : Int) (b : Int) (hI : Inv z) (hi : 0 ≤ i ∧ i < 31) (h0 : to (3 * i) = K) (h1 : to (3 * i + 1) = a) (h2 : kOk K) (hb : tB K a b) (h3 : ¬ sg K = 0 → to (3 * i + 2) = b) (hne : ¬ isE (dF z K a b)) : jM l yX5_doThing wsX5_doThing { frames := 6, cells := 0, slots := 0, locals := 137 } D Y [.ref h, .int (jI i)] (mV Y h q z sp pa st ke ik tx ln sn se dn up fa lo to tm so) (fun v_ w_ => ∃ (f2 : Int → Int), v_ = none ∧ w_ = (mV Y h q (dG z K a b) sp pa st ke ik tx ln sn se dn up f2 lo to tm so)) 0 0 := by
  refine jM_of (cc := cX5_doThing) (maxL := 4) (ret := none) (by decide) rfl (Nat.le_of_ble_eq_true rfl) (fun v w' h => by obtain ⟨_, h⟩ := h; exact Or.inl ⟨rfl, h.1⟩) ?_
  intro x G kr0
  have G : jG x l D Y cX5_doThing RX5 wsX5_doThing 4 ({ frames := 6, cells := 0, slots := 0, locals := 137 } : Room) none "doThing" := G
  have hinX5 : ∀ w ∈ wsX50, w ∈ wsX5_doThing := fun _ h => List.mem_cons_of_mem _ (List.mem_append_right _ h)
  show J x 0 0 (mV Y h q z sp pa st ke ik tx ln sn se dn up fa lo to tm so) 0 [(0, .ref h), (1, .int (jI i))] []
  refine j_aload_n G 0 dX5_doThing_0 rfl ?_
  refine j_get (q := 14) (C := RX5) (T := TX5) (N := 17) (v := .ref (q 9)) G 0 hinX5 dX5_doThing_1 rfl rfl (by decide) (by decide +kernel) rfl ?_
  refine j_iconst G dX5_doThing_4 (v := 3) rfl ?_
  refine j_iload_n G 1 dX5_doThing_5 rfl ?_
  refine j_imul G dX5_doThing_6 ?_
  refine j_iconst G dX5_doThing_7 (v := 1) rfl ?_
  refine j_iadd G dX5_doThing_8 ?_
  refine j_iald (v := to ((3 * i) + 1)) G 10 dX5_doThing_9 rfl (by omega) rfl ?_
  rw [h1]
  refine j_istore_n (lv' := [(2, .int (jI a)), (0, .ref h), (1, .int (jI i))]) G dX5_doThing_10 (by decide) rfl ?_
  refine j_aload_n G 1 dX5_doThing_11 rfl ?_
  refine j_get (q := 14) (C := RX5) (T := TX5) (N := 17) (v := .ref (q 9)) G 0 hinX5 dX5_doThing_12 rfl rfl (by decide) (by decide +kernel) rfl ?_
  refine j_iconst G dX5_doThing_15 (v := 3) rfl ?_
  refine j_iload_n G 2 dX5_doThing_16 rfl ?_
  refine j_imul G dX5_doThing_17 ?_
  refine j_iconst G dX5_doThing_18 (v := 2) rfl ?_
  refine j_iadd G dX5_doThing_19 ?_
  refine j_iald (v := to ((3 * i) + 2)) G 10 dX5_doThing_20 rfl (by omega) rfl ?_
  obtain ⟨b3, e_b3⟩ : ∃ y : Int, y = (to ((3 * i) + 2)) := ⟨_, rfl⟩
  rw [← e_b3]
  refine j_istore_n (lv' := [(3, .int (jI b3)), (2, .int (jI a)), (0, .ref h), (1, .int (jI i))]) G dX5_doThing_21 (by decide) rfl ?_
  refine j_aload_n G 2 dX5_doThing_22 rfl ?_
  refine j_get (q := 14) (C := RX5) (T := TX5) (N := 17) (v := .ref (q 9)) G 0 hinX5 dX5_doThing_23 rfl rfl (by decide) (by decide +kernel) rfl ?_
  refine j_iconst G dX5_doThing_26 (v := 3) rfl ?_
  refine j_iload_n G 3 dX5_doThing_27 rfl ?_
  refine j_imul G dX5_doThing_28 ?_
  refine j_iald (v := to (3 * i)) G 10 dX5_doThing_29 rfl (by omega) rfl ?_
  have hb3 : ¬ sg K = 0 → b3 = b := fun y => by rw [e_b3]; exact h3 y
  rw [h0]
  rcases (show K = 116 ∨ K = 114 ∨ K = 104 ∨ K = 103 ∨ K = 102 ∨ K = 46 by exact h2) with sp_1 | sp_1 | sp_1 | sp_1 | sp_1 | sp_1
  · subst sp_1
    refine j_tblIn (tgt := 104) G 14 dX5_doThing_30 (by omega) (by omega) (by omega) rfl (by decide) ?_
    have h9 := hb.1 rfl
    have h8 : b3 = b := hb3 (by decide)
    rw [h8]
    have hD := (dG_ok hI hb hne).1 rfl
    refine j_aload_n G 2 dX5_doThing_104 rfl ?_
    refine j_get (q := 0) (C := RX5) (T := TX5) (N := 17) (v := .ref (q 0)) G 0 hinX5 dX5_doThing_105 rfl rfl (by decide) (by decide +kernel) rfl ?_
    refine j_bipush G dX5_doThing_108 (v := 28) rfl ?_
    refine j_iload_n G 1 dX5_doThing_110 rfl ?_
    refine j_iadd G dX5_doThing_111 ?_
    refine j_iload_n G 0 dX5_doThing_112 rfl ?_
    refine j_iast (ws' := mV Y h q (upZ z (28 + a) b) sp pa st ke ik tx ln sn se dn up fa lo to tm so) G 1 dX5_doThing_113 rfl (by omega) rfl ?_
    refine j_goto (tgt := 163) G dX5_doThing_114 (by decide) ?_
    exact j_retv G dX5_doThing_163 (by rw [hD]; exact jLe.rf _) (kr0 _ _ ⟨fa, rfl, rfl⟩)
  · subst sp_1
    refine j_tblIn (tgt := 117) G 12 dX5_doThing_30 (by omega) (by omega) (by omega) rfl (by decide) ?_
    have h9 := hb.2.1 rfl
    have hD := (dG_ok hI hb hne).2.1 rfl
    refine j_aload_n G 2 dX5_doThing_117 rfl ?_
    refine j_iload_n G 1 dX5_doThing_118 rfl ?_
    refine j_callV (nA := 1) (As := [.int (jI a)]) (st := []) (wc := (mV Y h q z sp pa st ke ik tx ln sn se dn up fa lo to tm so)) (wr := []) G (c_X5_rainNow l D Y h q z sp pa st ke ik tx ln sn se dn up fa lo to tm so a (by first | assumption | omega) (by first | assumption | omega)) dX5_doThing_119 rfl gX5_doThing_X5_rainNow rfl rfl rfl (by decide +kernel) ⟨by decide, by decide⟩ rfl 0 rfl rfl rfl (jLe.nil (jLe.rf _)) (Nat.le_of_ble_eq_true rfl) ⟨Nat.zero_le _, Nat.zero_le _⟩ (fun v_ w_ hp_ => ?_)
    obtain ⟨rfl, rfl⟩ := hp_
    show J x 0 0 (mV Y h q (GR z a) sp pa st ke ik tx ln sn se dn up fa lo to tm so) 122 [(3, .int (jI b3)), (2, .int (jI a)), (0, .ref h), (1, .int (jI i))] [.int (jI (if 8 < z 92 + a then 64 else 0))]
    refine j_pop G dX5_doThing_122 rfl ?_
    refine j_goto (tgt := 163) G dX5_doThing_123 (by decide) ?_
    exact j_retv G dX5_doThing_163 (by rw [hD]; exact jLe.rf _) (kr0 _ _ ⟨fa, rfl, rfl⟩)
  · subst sp_1
    refine j_tblIn (tgt := 126) G 2 dX5_doThing_30 (by omega) (by omega) (by omega) rfl (by decide) ?_
    have h9 := hb.2.2.1 rfl
    have h8 : b3 = b := hb3 (by decide)
    rw [h8]
    have hD := (dG_ok hI hb hne).2.2.1 rfl
    refine j_aload_n G 2 dX5_doThing_126 rfl ?_
    refine j_get (q := 0) (C := RX5) (T := TX5) (N := 17) (v := .ref (q 0)) G 0 hinX5 dX5_doThing_127 rfl rfl (by decide) (by decide +kernel) rfl ?_
    refine j_bipush G dX5_doThing_130 (v := 7) rfl ?_
    refine j_iload_n G 1 dX5_doThing_132 rfl ?_
    refine j_iadd G dX5_doThing_133 ?_
    refine j_iload_n G 0 dX5_doThing_134 rfl ?_
    refine j_iast (ws' := mV Y h q (upZ z (7 + a) b) sp pa st ke ik tx ln sn se dn up fa lo to tm so) G 1 dX5_doThing_135 rfl (by omega) rfl ?_
    refine j_goto (tgt := 163) G dX5_doThing_136 (by decide) ?_
    exact j_retv G dX5_doThing_163 (by rw [hD]; exact jLe.rf _) (kr0 _ _ ⟨fa, rfl, rfl⟩)
  · subst sp_1
    refine j_tblIn (tgt := 139) G 1 dX5_doThing_30 (by omega) (by omega) (by omega) rfl (by decide) ?_
    have h9 := hb.2.2.2.1 rfl
    have h8 : b3 = b := hb3 (by decide)
    rw [h8]
    have hD := (dG_ok hI hb hne).2.2.2.1 rfl
    refine j_aload_n G 2 dX5_doThing_139 rfl ?_
    refine j_iload_n G 1 dX5_doThing_140 rfl ?_
    refine j_iload_n G 0 dX5_doThing_141 rfl ?_
    refine j_callV (nA := 2) (As := [.int (jI a), .int (jI b)]) (st := []) (wc := (mV Y h q z sp pa st ke ik tx ln sn se dn up fa lo to tm so)) (wr := []) G (c_X5_goNow l D Y h q z sp pa st ke ik tx ln sn se dn up fa lo to tm so a b (by first | assumption | omega) (by first | assumption | omega) (by first | assumption | omega)) dX5_doThing_142 rfl gX5_doThing_X5_goNow rfl rfl rfl (by decide +kernel) ⟨by decide, by decide⟩ rfl 0 rfl rfl rfl (jLe.nil (jLe.rf _)) (Nat.le_of_ble_eq_true rfl) ⟨Nat.zero_le _, Nat.zero_le _⟩ (fun v_ w_ hp_ => ?_)
    obtain ⟨rfl, rfl⟩ := hp_
    show J x 0 0 (mV Y h q (GG z a b) sp pa st ke ik tx ln sn se dn up (zW2 z (z (15 + 4 * a))) lo to tm so) 145 [(3, .int (jI b)), (2, .int (jI a)), (0, .ref h), (1, .int (jI i))] []
    refine j_goto (tgt := 163) G dX5_doThing_145 (by decide) ?_
    exact j_retv G dX5_doThing_163 (by rw [hD]; exact jLe.rf _) (kr0 _ _ ⟨(zW2 z (z (15 + 4 * a))), rfl, rfl⟩)
  · subst sp_1
    refine j_tblIn (tgt := 148) G 0 dX5_doThing_30 (by omega) (by omega) (by omega) rfl (by decide) ?_
    have h9 := hb.2.2.2.2.1 rfl
    have hD := (dG_ok hI hb hne).2.2.2.2.1 rfl
    refine j_aload_n G 2 dX5_doThing_148 rfl ?_
    refine j_iload_n G 1 dX5_doThing_149 rfl ?_
    refine j_callV (nA := 1) (As := [.int (jI a)]) (st := []) (wc := (mV Y h q z sp pa st ke ik tx ln sn se dn up fa lo to tm so)) (wr := []) G (c_X5_fellNow l D Y h q z sp pa st ke ik tx ln sn se dn up fa lo to tm so a (by first | assumption | omega) (by first | assumption | omega)) dX5_doThing_150 rfl gX5_doThing_X5_fellNow rfl rfl rfl (by decide +kernel) ⟨by decide, by decide⟩ rfl 0 rfl rfl rfl (jLe.nil (jLe.rf _)) (Nat.le_of_ble_eq_true rfl) ⟨Nat.zero_le _, Nat.zero_le _⟩ (fun v_ w_ hp_ => ?_)
    obtain ⟨rfl, rfl⟩ := hp_
    show J x 0 0 (mV Y h q (if 0 < z (28 + z (15 + 4 * a)) then GF z a else z) sp pa st ke ik tx ln sn se dn up fa lo to tm so) 153 [(3, .int (jI b3)), (2, .int (jI a)), (0, .ref h), (1, .int (jI i))] [.int (jI (z (28 + z (15 + 4 * a))))]
    refine j_pop G dX5_doThing_153 rfl ?_
    refine j_goto (tgt := 163) G dX5_doThing_154 (by decide) ?_
    exact j_retv G dX5_doThing_163 (by rw [hD]; exact jLe.rf _) (kr0 _ _ ⟨fa, rfl, rfl⟩)
  · subst sp_1
    refine j_tblOut (tgt := 157) G dX5_doThing_30 (by omega) (by omega) (by decide) ?_
    have h9 := hb.2.2.2.2.2 rfl
    have hD := (dG_ok hI hb hne).2.2.2.2.2 rfl
    refine j_aload_n G 2 dX5_doThing_157 rfl ?_
    refine j_iload_n G 1 dX5_doThing_158 rfl ?_
    refine j_callV (nA := 1) (As := [.int (jI a)]) (st := []) (wc := (mV Y h q z sp pa st ke ik tx ln sn se dn up fa lo to tm so)) (wr := []) G (c_X5_endNow l D Y h q z sp pa st ke ik tx ln sn se dn up fa lo to tm so a (by first | assumption | omega) (by first | assumption | omega)) dX5_doThing_159 rfl gX5_doThing_X5_endNow rfl rfl rfl (by decide +kernel) ⟨by decide, by decide⟩ rfl 0 rfl rfl rfl (jLe.nil (jLe.rf _)) (Nat.le_of_ble_eq_true rfl) ⟨Nat.zero_le _, Nat.zero_le _⟩ (fun v_ w_ hp_ => ?_)
    obtain ⟨rfl, rfl⟩ := hp_
    show J x 0 0 (mV Y h q (GE z a) sp pa st ke ik tx ln sn se dn up fa lo to tm so) 162 [(3, .int (jI b3)), (2, .int (jI a)), (0, .ref h), (1, .int (jI i))] [.int (jI (z 3 + a))]
    refine j_pop G dX5_doThing_162 rfl ?_
    exact j_retv G dX5_doThing_163 (by rw [hD]; exact jLe.rf _) (kr0 _ _ ⟨fa, rfl, rfl⟩)

set_option maxHeartbeats 4000000 in
set_option maxRecDepth 100000 in
theorem c_X5_perform (l : Launch) (D : va_G) (Y : Nat → ClassId) (h : Nat) (q : Nat → Nat) (z : Int → Int) (sp : Int → Int) (pa : Int → Int) (st : Int) (ke : Int → Int) (ik : Int) (tx : Int → Int) (ln : Int) (sn : Int) (se : Int) (dn : Int → Int) (up : Int → Int) (fa : Int → Int) (lo : Int → Int) (to : Int → Int) (tm : Int) (so : Int) (hI : Inv z) (hst : 0 ≤ st ∧ st ≤ 4) (htx : ∀ j : Int, 0 ≤ j → j < 60 → 0 ≤ tx j ∧ tx j < 65536) (hln : 0 ≤ ln ∧ ln ≤ 60) : jM l yX5_perform wsX5_perform { frames := 7, cells := 0, slots := 0, locals := 160 } D Y [.ref h] (mV Y h q z sp pa st ke ik tx ln sn se dn up fa lo to tm so) (fun v_ w_ => ∃ (p5 : Int → Int) (d5 : Int → Int) (u5 : Int → Int) (f5 : Int → Int) (t5 : Int → Int) (m5 : Int) (o5 : Int), v_ = some (.int (jI (F_perf tx ln z))) ∧ w_ = (mV Y h q (G_perf tx ln z) p5 (mPa (F_perf tx ln z) st pa z) (hSz (F_perf tx ln z) st) ke ik tx ln (N_perf tx ln z sn) (E_perf tx ln z se) d5 u5 f5 lo t5 m5 o5)) 0 0 := by
  refine jM_of (cc := cX5_perform) (maxL := 3) (ret := (some .int)) (by decide) rfl (Nat.le_of_ble_eq_true rfl) (fun v w' h => by obtain ⟨_, _, _, _, _, _, _, h⟩ := h; exact Or.inr (Or.inl ⟨_, _, rfl, h.1, rfl⟩)) ?_
  intro x G kr0
  have G : jG x l D Y cX5_perform RX5 wsX5_perform 3 ({ frames := 7, cells := 0, slots := 0, locals := 160 } : Room) (some .int) "perform" := G
  have hinX5 : ∀ w ∈ wsX50, w ∈ wsX5_perform := fun _ h => List.mem_cons_of_mem _ (List.mem_append_right _ h)
  show J x 0 0 (mV Y h q z sp pa st ke ik tx ln sn se dn up fa lo to tm so) 0 [(0, .ref h)] []
  refine j_aload_n G 0 dX5_perform_0 rfl ?_
  refine j_callV (nA := 0) (As := []) (st := []) (wc := (mV Y h q z sp pa st ke ik tx ln sn se dn up fa lo to tm so)) (wr := []) G (c_X5_readText l D Y h q z sp pa st ke ik tx ln sn se dn up fa lo to tm so (by first | assumption | omega) (by first | assumption | omega)) dX5_perform_1 rfl gX5_perform_X5_readText rfl rfl rfl (by decide +kernel) ⟨by decide, by decide⟩ rfl 0 rfl rfl rfl (jLe.nil (jLe.rf _)) (Nat.le_of_ble_eq_true rfl) ⟨Nat.zero_le _, Nat.zero_le _⟩ (fun v_ w_ hp_ => ?_)
  obtain ⟨t2_1, m2_2, o2_3, rfl, rfl, hx_4⟩ := hp_
  show J x 0 0 (mV Y h q z sp pa st ke ik tx ln sn se dn up fa lo t2_1 m2_2 o2_3) 4 [(0, .ref h)] [.int (jI (if 0 ≤ F_text tx ln then 1 else 0))]
  have hx0 := hx_4
  refine j_ifz_ne (tgt := 15) G dX5_perform_4 (by decide) (fun c4 => ?_) (fun c4 => ?_)
  · obtain ⟨r1, r2⟩ := hx0.1 (by omega)
    rw [r1]
    have hg := F_text_good (tx := tx) (ln := ln) hln.1 (by omega)
    refine j_aload_n G 0 dX5_perform_15 rfl ?_
    refine j_get (q := 0) (C := RX5) (T := TX5) (N := 17) (v := .ref (q 0)) G 0 hinX5 dX5_perform_16 rfl rfl (by decide) (by decide +kernel) rfl ?_
    refine j_iconst G dX5_perform_19 (v := 0) rfl ?_
    refine j_aload_n G 0 dX5_perform_20 rfl ?_
    refine j_get (q := 1) (C := RX5) (T := TX5) (N := 17) (v := .ref (q 1)) G 0 hinX5 dX5_perform_21 rfl rfl (by decide) (by decide +kernel) rfl ?_
    refine j_iconst G dX5_perform_24 (v := 0) rfl ?_
    refine j_callS (nA := 4) (As := [.ref (q 0), .int (jI 0), .ref (q 1), .int (jI 0)]) (st := []) (wc := ([aN Y (q 0) 220 z] ++ ([aN Y (q 1) 220 sp]))) (wr := [ob h 5 [.ref (q 0), .ref (q 1), .ref (q 2), .int (jI st), .ref (q 3), .int (jI ik), .ref (q 4), .int (jI ln), .int (jI sn), .int (jI se), .ref (q 5), .ref (q 6), .ref (q 7), .ref (q 8), .ref (q 9), .int (jI (F_text tx ln)), .int (jI o2_3)], aN Y (q 2) 880 pa, aN Y (q 3) 220 ke, aN Y (q 4) 60 tx, aN Y (q 5) 64 dn, aN Y (q 6) 64 up, aN Y (q 7) 64 fa, aN Y (q 8) 64 lo, aN Y (q 9) 93 t2_1]) G (c_X5_copyState l D Y (q 0) 220 z (q 1) 220 sp 0 0 (by first | assumption | omega) (by first | assumption | omega)) dX5_perform_25 rfl gX5_perform_X5_copyState rfl rfl rfl (by decide +kernel) ⟨by decide, by decide⟩ rfl (jLe.pos [1, 2, 0, 3, 4, 5, 6, 7, 8, 9, 10] rfl rfl) (Nat.le_of_ble_eq_true rfl) ⟨Nat.zero_le _, Nat.zero_le _⟩ (fun v_ w_ hp_ => ?_)
    obtain ⟨rfl, rfl⟩ := hp_
    refine j_conv (ws' := mV Y h q z (zCpy z sp 0 0) pa st ke ik tx ln sn se dn up fa lo t2_1 (F_text tx ln) o2_3) (jLe.pos [2, 0, 1, 3, 4, 5, 6, 7, 8, 9, 10] rfl rfl) ?_
    show J x 0 0 (mV Y h q z (zCpy z sp 0 0) pa st ke ik tx ln sn se dn up fa lo t2_1 (F_text tx ln) o2_3) 28 [(0, .ref h)] []
    refine j_iconst G dX5_perform_28 (v := 0) rfl ?_
    refine j_istore_n (lv' := [(1, .int (jI 0)), (0, .ref h)]) G dX5_perform_29 (by decide) rfl ?_
    have lp30 : ∀ (n_ : Nat) (i : Int) (zc : Int → Int) (d3 : Int → Int) (u3 : Int → Int) (g3 : Int → Int), (0 ≤ i ∧ i ≤ F_text tx ln) → (zc = zP tx ln z i.toNat) → (pEr tx ln z i.toNat = -1) → (F_text tx ln - i) < (n_ : Int) → J x 0 0 (mV Y h q zc (zCpy z sp 0 0) pa st ke ik tx ln sn se d3 u3 g3 lo t2_1 (F_text tx ln) o2_3) 30 [(0, .ref h), (1, .int (jI i))] [] := by
      intro n_
      induction n_ with
      | zero =>
        intro i zc d3 u3 g3 hi hz he hm_
        exact absurd hm_ (by omega)
      | succ n_ ih30 =>
        intro i zc d3 u3 g3 hi hz he hm_
        refine j_iload_n G 1 dX5_perform_30 rfl ?_
        refine j_aload_n G 0 dX5_perform_31 rfl ?_
        refine j_get (q := 15) (C := RX5) (T := TX5) (N := 17) (v := .int (jI (F_text tx ln))) G 0 hinX5 dX5_perform_32 rfl rfl (by decide) (by decide +kernel) rfl ?_
        refine j_icmp_ge (tgt := 85) G dX5_perform_35 (by decide) (by omega) (by omega) (fun c35 => ?_) (fun c35 => ?_)
        · refine j_aload_n G 0 dX5_perform_85 rfl ?_
          refine j_aload_n G 0 dX5_perform_86 rfl ?_
          refine j_get (q := 1) (C := RX5) (T := TX5) (N := 17) (v := .ref (q 1)) G 0 hinX5 dX5_perform_87 rfl rfl (by decide) (by decide +kernel) rfl ?_
          refine j_callV (nA := 1) (As := [.ref (q 1)]) (st := []) (wc := (mV Y h q zc (zCpy z sp 0 0) pa st ke ik tx ln sn se d3 u3 g3 lo t2_1 (F_text tx ln) o2_3)) (wr := []) G (c_X5_recordRowS l D Y h q zc (zCpy z sp 0 0) pa st ke ik tx ln sn se d3 u3 g3 lo t2_1 (F_text tx ln) o2_3 (by first | assumption | omega)) dX5_perform_90 rfl gX5_perform_X5_recordRow rfl rfl rfl (by decide +kernel) ⟨by decide, by decide⟩ rfl 0 rfl rfl rfl (jLe.nil (jLe.rf _)) (Nat.le_of_ble_eq_true rfl) ⟨Nat.zero_le _, Nat.zero_le _⟩ (fun v_ w_ hp_ => ?_)
          obtain ⟨rfl, rfl⟩ := hp_
          show J x 0 0 (mV Y h q zc (zCpy z sp 0 0) (paP st pa (zCpy z sp 0 0)) (hUp st) ke ik tx ln sn se d3 u3 g3 lo t2_1 (F_text tx ln) o2_3) 93 [(0, .ref h), (1, .int (jI i))] []
          refine j_aload_n G 0 dX5_perform_93 rfl ?_
          refine j_get (q := 15) (C := RX5) (T := TX5) (N := 17) (v := .int (jI (F_text tx ln))) G 0 hinX5 dX5_perform_94 rfl rfl (by decide) (by decide +kernel) rfl ?_
          exact j_reti G dX5_perform_97 (by unfold F_perf; rw [if_neg (by omega), if_pos (by unfold pN; rw [show F_text tx ln = i by omega]; exact he)]) (by have hp : pN tx ln z = -1 := (by unfold pN; rw [show F_text tx ln = i by omega]; exact he); subst hz; rw [show N_perf tx ln z sn = sn from if_pos (Or.inr hp), show E_perf tx ln z se = se from if_pos (Or.inr hp), show G_perf tx ln z = zP tx ln z i.toNat from by unfold G_perf; rw [if_neg (by omega), if_pos hp, show F_text tx ln = i by omega], show F_perf tx ln z = F_text tx ln from by unfold F_perf; rw [if_neg (by omega), if_pos hp], show hSz (F_text tx ln) st = hUp st from if_pos (by omega), show mPa (F_text tx ln) st pa z = paP st pa z from if_pos (by omega)]; exact (mV_zp (fun _ _ _ => rfl) (fun j h0 h1 => by unfold paP zCpy; by_cases c : st = 4; rw [if_pos c, if_pos c]; show (if _ then _ else _) = (if _ then _ else _); by_cases d : j < 660; rw [if_pos d, if_pos d]; rw [if_neg d, if_neg d]; show (if _ then _ else _) = _; rw [if_pos (by omega), show 0 + (j - 660 - 0) = j - 660 by omega]; rw [if_neg c, if_neg c]; show (if _ then (if _ then _ else _) else _) = (if _ then _ else _); by_cases d : 220 * st ≤ j ∧ j < 220 * st + 220; rw [if_pos d, if_pos d, if_pos (by omega), show 0 + (0 + (j - 220 * st) - 0) = 0 + (j - 220 * st) by omega]; rw [if_neg d, if_neg d])).le) (kr0 _ _ ⟨(zCpy z sp 0 0), d3, u3, g3, t2_1, (F_text tx ln), o2_3, rfl, rfl⟩)
        · have hI2 : Inv zc := hz ▸ zP_inv hI _
          have k3 := hg.1.1 i hi.1 (by omega)
          have r3 := r2 i hi.1 (by omega)
          refine j_aload_n G 0 dX5_perform_38 rfl ?_
          refine j_iload_n G 1 dX5_perform_39 rfl ?_
          refine j_callV (nA := 1) (As := [.int (jI i)]) (st := []) (wc := (mV Y h q zc (zCpy z sp 0 0) pa st ke ik tx ln sn se d3 u3 g3 lo t2_1 (F_text tx ln) o2_3)) (wr := []) G (c_X5_whyNot l D Y h q zc (zCpy z sp 0 0) pa st ke ik tx ln sn se d3 u3 g3 lo t2_1 (F_text tx ln) o2_3 i (tK tx ln (aP tx ln i.toNat)) (tFi tx ln (aP tx ln i.toNat)) (tSe tx ln (aP tx ln i.toNat)) (by exact hI2) (by omega) (by exact r3.1) (by exact r3.2.1) (by exact k3.1.1) (by exact tB_of k3.1) (by exact r3.2.2)) dX5_perform_40 rfl gX5_perform_X5_whyNot rfl rfl rfl (by decide +kernel) ⟨by decide, by decide⟩ rfl 0 rfl rfl rfl (jLe.nil (jLe.rf _)) (Nat.le_of_ble_eq_true rfl) ⟨Nat.zero_le _, Nat.zero_le _⟩ (fun v_ w_ hp_ => ?_)
          obtain ⟨d2_5, u2_6, f2_7, y2_8, rfl, rfl, hx_9⟩ := hp_
          show J x 0 0 (mV Y h q zc (zCpy z sp 0 0) pa st ke ik tx ln sn se d2_5 u2_6 f2_7 lo t2_1 (F_text tx ln) o2_3) 43 [(0, .ref h), (1, .int (jI i))] [.int (jI y2_8)]
          refine j_istore_n (lv' := [(2, .int (jI y2_8)), (0, .ref h), (1, .int (jI i))]) G dX5_perform_43 (by decide) rfl ?_
          have hy := hx_9
          have hv : dF zc (tK tx ln (aP tx ln i.toNat)) (tFi tx ln (aP tx ln i.toNat)) (tSe tx ln (aP tx ln i.toNat)) = vP tx ln z i.toNat := by rw [hz]; rfl
          have hvb := dF_b hI2 (tK tx ln (aP tx ln i.toNat)) (tFi tx ln (aP tx ln i.toNat)) (tSe tx ln (aP tx ln i.toNat))
          rw [hv] at hy hvb
          refine j_iload_n G 0 dX5_perform_44 rfl ?_
          refine j_if_ge (tgt := 74) G dX5_perform_45 (by decide) (by omega) (fun c45 => ?_) (fun c45 => ?_)
          · have hnE : ¬ isE (vP tx ln z i.toNat) := by omega
            refine j_aload_n G 1 dX5_perform_74 rfl ?_
            refine j_iload_n G 2 dX5_perform_75 rfl ?_
            refine j_callV (nA := 1) (As := [.int (jI i)]) (st := []) (wc := (mV Y h q zc (zCpy z sp 0 0) pa st ke ik tx ln sn se d2_5 u2_6 f2_7 lo t2_1 (F_text tx ln) o2_3)) (wr := []) G (c_X5_doThing l D Y h q zc (zCpy z sp 0 0) pa st ke ik tx ln sn se d2_5 u2_6 f2_7 lo t2_1 (F_text tx ln) o2_3 i (tK tx ln (aP tx ln i.toNat)) (tFi tx ln (aP tx ln i.toNat)) (tSe tx ln (aP tx ln i.toNat)) (by exact hI2) (by omega) (by exact r3.1) (by exact r3.2.1) (by exact k3.1.1) (by exact tB_of k3.1) (by exact r3.2.2) (by rw [hv]; exact hnE)) dX5_perform_76 rfl gX5_perform_X5_doThing rfl rfl rfl (by decide +kernel) ⟨by decide, by decide⟩ rfl 0 rfl rfl rfl (jLe.nil (jLe.rf _)) (Nat.le_of_ble_eq_true rfl) ⟨Nat.zero_le _, Nat.zero_le _⟩ (fun v_ w_ hp_ => ?_)
            obtain ⟨f2_10, rfl, rfl⟩ := hp_
            show J x 0 0 (mV Y h q (dG zc (tK tx ln (aP tx ln i.toNat)) (tFi tx ln (aP tx ln i.toNat)) (tSe tx ln (aP tx ln i.toNat))) (zCpy z sp 0 0) pa st ke ik tx ln sn se d2_5 u2_6 f2_10 lo t2_1 (F_text tx ln) o2_3) 79 [(2, .int (jI y2_8)), (0, .ref h), (1, .int (jI i))] []
            refine j_iinc (w := i + 1) (lv' := [(1, .int (jI (i + 1))), (2, .int (jI y2_8)), (0, .ref h)]) G 2 dX5_perform_79 rfl rfl (by decide) rfl ?_
            refine j_goto (tgt := 30) G dX5_perform_82 (by decide) ?_
            refine j_lv [2, 0] (lv' := [(0, .ref h), (1, .int (jI (i + 1)))]) rfl ?_
            exact ih30 (i + 1) (dG zc (tK tx ln (aP tx ln i.toNat)) (tFi tx ln (aP tx ln i.toNat)) (tSe tx ln (aP tx ln i.toNat))) d2_5 u2_6 f2_10 (by omega) (by rw [hz, zP_S hi.1]) (by rw [pEr_S hi.1, if_pos he, if_neg]; exact hnE) (by omega)
          · have hyE : y2_8 = vP tx ln z i.toNat ∧ isE (vP tx ln z i.toNat) := by omega
            refine j_aload_n G 1 dX5_perform_48 rfl ?_
            refine j_get (q := 1) (C := RX5) (T := TX5) (N := 17) (v := .ref (q 1)) G 0 hinX5 dX5_perform_49 rfl rfl (by decide) (by decide +kernel) rfl ?_
            refine j_iconst G dX5_perform_52 (v := 0) rfl ?_
            refine j_aload_n G 1 dX5_perform_53 rfl ?_
            refine j_get (q := 0) (C := RX5) (T := TX5) (N := 17) (v := .ref (q 0)) G 0 hinX5 dX5_perform_54 rfl rfl (by decide) (by decide +kernel) rfl ?_
            refine j_iconst G dX5_perform_57 (v := 0) rfl ?_
            refine j_callS (nA := 4) (As := [.ref (q 1), .int (jI 0), .ref (q 0), .int (jI 0)]) (st := []) (wc := ([aN Y (q 1) 220 (zCpy z sp 0 0)] ++ ([aN Y (q 0) 220 zc]))) (wr := [ob h 5 [.ref (q 0), .ref (q 1), .ref (q 2), .int (jI st), .ref (q 3), .int (jI ik), .ref (q 4), .int (jI ln), .int (jI sn), .int (jI se), .ref (q 5), .ref (q 6), .ref (q 7), .ref (q 8), .ref (q 9), .int (jI (F_text tx ln)), .int (jI o2_3)], aN Y (q 2) 880 pa, aN Y (q 3) 220 ke, aN Y (q 4) 60 tx, aN Y (q 5) 64 d2_5, aN Y (q 6) 64 u2_6, aN Y (q 7) 64 f2_7, aN Y (q 8) 64 lo, aN Y (q 9) 93 t2_1]) G (c_X5_copyState l D Y (q 1) 220 (zCpy z sp 0 0) (q 0) 220 zc 0 0 (by first | assumption | omega) (by first | assumption | omega)) dX5_perform_58 rfl gX5_perform_X5_copyState rfl rfl rfl (by decide +kernel) ⟨by decide, by decide⟩ rfl (jLe.pos [2, 1, 0, 3, 4, 5, 6, 7, 8, 9, 10] rfl rfl) (Nat.le_of_ble_eq_true rfl) ⟨Nat.zero_le _, Nat.zero_le _⟩ (fun v_ w_ hp_ => ?_)
            obtain ⟨rfl, rfl⟩ := hp_
            refine j_conv (ws' := mV Y h q (zCpy (zCpy z sp 0 0) zc 0 0) (zCpy z sp 0 0) pa st ke ik tx ln sn se d2_5 u2_6 f2_7 lo t2_1 (F_text tx ln) o2_3) (jLe.pos [2, 1, 0, 3, 4, 5, 6, 7, 8, 9, 10] rfl rfl) ?_
            show J x 0 0 (mV Y h q (zCpy (zCpy z sp 0 0) zc 0 0) (zCpy z sp 0 0) pa st ke ik tx ln sn se d2_5 u2_6 f2_7 lo t2_1 (F_text tx ln) o2_3) 61 [(2, .int (jI y2_8)), (0, .ref h), (1, .int (jI i))] []
            refine j_aload_n G 1 dX5_perform_61 rfl ?_
            refine j_iload_n G 2 dX5_perform_62 rfl ?_
            refine j_put (q := 8) (C := RX5) (T := TX5) (N := 17) (ws' := mV Y h q (zCpy (zCpy z sp 0 0) zc 0 0) (zCpy z sp 0 0) pa st ke ik tx ln i se d2_5 u2_6 f2_7 lo t2_1 (F_text tx ln) o2_3) G 0 hinX5 tyX5 tyX5_ok nmX5 dX5_perform_63 rfl rfl (by decide) (by decide +kernel) rfl rfl rfl rfl (Nat.le_of_ble_eq_true rfl) rfl ?_
            refine j_aload_n G 1 dX5_perform_66 rfl ?_
            refine j_iload_n G 0 dX5_perform_67 rfl ?_
            refine j_put (q := 9) (C := RX5) (T := TX5) (N := 17) (ws' := mV Y h q (zCpy (zCpy z sp 0 0) zc 0 0) (zCpy z sp 0 0) pa st ke ik tx ln i y2_8 d2_5 u2_6 f2_7 lo t2_1 (F_text tx ln) o2_3) G 0 hinX5 tyX5 tyX5_ok nmX5 dX5_perform_68 rfl rfl (by decide) (by decide +kernel) rfl rfl rfl rfl (Nat.le_of_ble_eq_true rfl) rfl ?_
            refine j_bipush G dX5_perform_71 (v := (-4)) rfl ?_
            exact j_reti G dX5_perform_73 (by unfold F_perf; rw [if_neg (by omega), if_neg (by rw [show pN tx ln z = i from pEr_stay hi.1 he hyE.2 _ (by omega)]; omega)]) (by have hp := (pEr_stay hi.1 he hyE.2 (F_text tx ln).toNat (by omega)); have hp : pN tx ln z = i := hp; rw [hyE.1, show N_perf tx ln z sn = i from by unfold N_perf; rw [if_neg (by omega), hp], show E_perf tx ln z se = vP tx ln z i.toNat from by unfold E_perf; rw [if_neg (by omega), hp], show G_perf tx ln z = z from by unfold G_perf; rw [if_neg (by omega), if_neg (by omega)], show F_perf tx ln z = -4 from by unfold F_perf; rw [if_neg (by omega), if_neg (by omega)], show hSz (-4) st = st from if_neg (by omega), show mPa (-4) st pa z = pa from if_neg (by omega)]; exact mV_zl (fun j h0 h1 => by unfold zCpy; rw [if_pos (by omega), if_pos (by omega), show 0 + (0 + (j - 0) - 0) = j by omega])) (kr0 _ _ ⟨(zCpy z sp 0 0), d2_5, u2_6, f2_7, t2_1, (F_text tx ln), o2_3, rfl, rfl⟩)
    refine j_lv [1, 0] (lv' := [(0, .ref h), (1, .int (jI 0))]) rfl ?_
    exact lp30 (Int.toNat ((F_text tx ln - 0) + 1)) 0 z dn up fa (by omega) (by rfl) (by rfl) (by omega)
  · have r9 := hx0.2.1 (by omega)
    refine j_bipush G dX5_perform_7 (v := (-100)) rfl ?_
    refine j_aload_n G 0 dX5_perform_9 rfl ?_
    refine j_get (q := 16) (C := RX5) (T := TX5) (N := 17) (v := .int (jI o2_3)) G 0 hinX5 dX5_perform_10 rfl rfl (by decide) (by decide +kernel) rfl ?_
    refine j_isub G dX5_perform_13 ?_
    exact j_reti G dX5_perform_14 (by rw [show F_perf tx ln z = F_text tx ln from if_pos (by omega)]; omega) (by rw [show N_perf tx ln z sn = sn from if_pos (Or.inl (by omega)), show E_perf tx ln z se = se from if_pos (Or.inl (by omega)), show G_perf tx ln z = z from if_pos (by omega), show F_perf tx ln z = F_text tx ln from if_pos (by omega), show hSz (F_text tx ln) st = st from if_neg (by omega), show mPa (F_text tx ln) st pa z = pa from if_neg (by omega)]; exact jLe.rf _) (kr0 _ _ ⟨sp, dn, up, fa, t2_1, m2_2, o2_3, rfl, rfl⟩)

set_option maxHeartbeats 4000000 in
set_option maxRecDepth 100000 in
theorem c_X5_stopped (l : Launch) (D : va_G) (Y : Nat → ClassId) (h : Nat) (q : Nat → Nat) (z : Int → Int) (sp : Int → Int) (pa : Int → Int) (st : Int) (ke : Int → Int) (ik : Int) (tx : Int → Int) (ln : Int) (sn : Int) (se : Int) (dn : Int → Int) (up : Int → Int) (fa : Int → Int) (lo : Int → Int) (to : Int → Int) (tm : Int) (so : Int) (w : Int) (h_w : -2147483648 ≤ w ∧ w < 2147483648) (hse : -2147483648 ≤ se ∧ se < 2147483648) : jM l yX5_stopped wsX5_stopped { frames := 1, cells := 0, slots := 0, locals := 22 } D Y [.ref h, .int (jI w)] (mV Y h q z sp pa st ke ik tx ln sn se dn up fa lo to tm so) (fun v_ w_ => v_ = some (.int (jI (F_stop sn se w))) ∧ w_ = (mV Y h q z sp pa st ke ik tx ln sn se dn up fa lo to tm so)) 0 0 := by
  refine jM_of (cc := cX5_stopped) (maxL := 2) (ret := (some .int)) (by decide) rfl (Nat.le_of_ble_eq_true rfl) (fun v w' h => Or.inr (Or.inl ⟨_, _, rfl, h.1, rfl⟩)) ?_
  intro x G kr0
  have kr := kr0 _ _ ⟨rfl, rfl⟩
  have G : jG x l D Y cX5_stopped RX5 wsX5_stopped 2 ({ frames := 1, cells := 0, slots := 0, locals := 22 } : Room) (some .int) "stopped" := G
  have hinX5 : ∀ w ∈ wsX50, w ∈ wsX5_stopped := fun _ h => List.mem_cons_of_mem _ (List.mem_append_right _ h)
  show J x 0 0 (mV Y h q z sp pa st ke ik tx ln sn se dn up fa lo to tm so) 0 [(0, .ref h), (1, .int (jI w))] []
  refine j_iload_n G 1 dX5_stopped_0 rfl ?_
  refine j_iconst G dX5_stopped_1 (v := 0) rfl ?_
  refine j_iconst G dX5_stopped_2 (v := 1) rfl ?_
  refine j_callS (nA := 3) (As := [.int (jI w), .int (jI 0), .int (jI 1)]) (st := []) (wc := []) (wr := (mV Y h q z sp pa st ke ik tx ln sn se dn up fa lo to tm so)) G (c_X5_in l D Y w 0 1 (by first | assumption | omega) (by first | assumption | omega) (by first | assumption | omega)) dX5_stopped_3 rfl gX5_stopped_X5_in rfl rfl rfl (by decide +kernel) ⟨by decide, by decide⟩ rfl (jLe.rf _) (Nat.le_of_ble_eq_true rfl) ⟨Nat.zero_le _, Nat.zero_le _⟩ (fun v_ w_ hp_ => ?_)
  obtain ⟨rfl, rfl⟩ := hp_
  show J x 0 0 (mV Y h q z sp pa st ke ik tx ln sn se dn up fa lo to tm so) 6 [(0, .ref h), (1, .int (jI w))] [.int (jI (if 0 ≤ w ∧ w ≤ 1 then 1 else 0))]
  refine j_ifz_ne (tgt := 12) G dX5_stopped_6 (by decide) (fun c6 => ?_) (fun c6 => ?_)
  · refine j_aload_n G 0 dX5_stopped_12 rfl ?_
    refine j_get (q := 9) (C := RX5) (T := TX5) (N := 17) (v := .int (jI se)) G 0 hinX5 dX5_stopped_13 rfl rfl (by decide) (by decide +kernel) rfl ?_
    refine j_if_ne (tgt := 24) G dX5_stopped_16 (by decide) (by omega) (fun c16 => ?_) (fun c16 => ?_)
    · refine j_iload_n G 1 dX5_stopped_24 rfl ?_
      refine j_if_ne (tgt := 35) G dX5_stopped_25 (by decide) (by omega) (fun c25 => ?_) (fun c25 => ?_)
      · refine j_aload_n G 0 dX5_stopped_35 rfl ?_
        refine j_get (q := 9) (C := RX5) (T := TX5) (N := 17) (v := .int (jI se)) G 0 hinX5 dX5_stopped_36 rfl rfl (by decide) (by decide +kernel) rfl ?_
        exact j_reti G dX5_stopped_39 (by unfold F_stop; (repeat' split) <;> first | rfl | omega) (jLe.rf _) kr
      · refine j_aload_n G 0 dX5_stopped_28 rfl ?_
        refine j_get (q := 8) (C := RX5) (T := TX5) (N := 17) (v := .int (jI sn)) G 0 hinX5 dX5_stopped_29 rfl rfl (by decide) (by decide +kernel) rfl ?_
        refine j_goto (tgt := 39) G dX5_stopped_32 (by decide) ?_
        exact j_reti G dX5_stopped_39 (by unfold F_stop; (repeat' split) <;> first | rfl | omega) (jLe.rf _) kr
    · refine j_bipush G dX5_stopped_19 (v := (-5)) rfl ?_
      refine j_goto (tgt := 39) G dX5_stopped_21 (by decide) ?_
      exact j_reti G dX5_stopped_39 (by unfold F_stop; (repeat' split) <;> first | rfl | omega) (jLe.rf _) kr
  · refine j_bipush G dX5_stopped_9 (v := (-2)) rfl ?_
    exact j_reti G dX5_stopped_11 (by unfold F_stop; (repeat' split) <;> first | rfl | omega) (jLe.rf _) kr
