
set_option maxHeartbeats 4000000 in
set_option maxRecDepth 100000 in
theorem c_X0_empty (l : Launch) (D : va_G) (Y : Nat → ClassId) (h : Nat) (q : Nat) (tx : Int → Int) (ln : Int) (an : Int) (ki : Int) (fi : Int) (se : Int)  : jM l yX0_empty wsX0_empty { frames := 0, cells := 0, slots := 0, locals := 0 } D Y [.ref h] (dV Y h q tx ln an ki fi se) (fun v_ w_ => v_ = some (.int (jI ln)) ∧ w_ = (dV Y h q tx 0 an ki fi se)) 0 0 := by
  refine jM_of (cc := cX0_empty) (maxL := 2) (ret := (some .int)) (by decide) rfl (Nat.le_of_ble_eq_true rfl) (fun v w' h => Or.inr (Or.inl ⟨_, _, rfl, h.1, rfl⟩)) ?_
  intro x G kr0
  have kr := kr0 _ _ ⟨rfl, rfl⟩
  have G : jG x l D Y cX0_empty RX0 wsX0_empty 2 ({ frames := 0, cells := 0, slots := 0, locals := 0 } : Room) (some .int) "empty" := G
  have hinX0 : ∀ w ∈ wsX00, w ∈ wsX0_empty := fun _ h => List.mem_cons_of_mem _ (List.mem_append_right _ h)
  show J x 0 0 (dV Y h q tx ln an ki fi se) 0 [(0, .ref h)] []
  refine j_aload_n G 0 dX0_empty_0 rfl ?_
  refine j_get (q := 1) (C := RX0) (T := TX0) (N := 6) (v := .int (jI ln)) G 0 hinX0 dX0_empty_1 rfl rfl (by decide) (by decide +kernel) rfl ?_
  refine j_istore_n (lv' := [(1, .int (jI ln)), (0, .ref h)]) G dX0_empty_4 (by decide) rfl ?_
  refine j_aload_n G 1 dX0_empty_5 rfl ?_
  refine j_iconst G dX0_empty_6 (v := 0) rfl ?_
  refine j_put (q := 1) (C := RX0) (T := TX0) (N := 6) (ws' := dV Y h q tx 0 an ki fi se) G 0 hinX0 tyX0 tyX0_ok nmX0 dX0_empty_7 rfl rfl (by decide) (by decide +kernel) rfl rfl rfl rfl (Nat.le_of_ble_eq_true rfl) rfl ?_
  refine j_iload_n G 0 dX0_empty_10 rfl ?_
  exact j_reti G dX0_empty_11 (by first | rfl | omega | exact ite_T (by omega) | exact ite_F (by omega)) (jLe.rf _) kr

set_option maxHeartbeats 4000000 in
set_option maxRecDepth 100000 in
theorem c_X0_startOver (l : Launch) (D : va_G) (Y : Nat → ClassId) (h : Nat) (q : Nat) (tx : Int → Int) (ln : Int) (an : Int) (ki : Int) (fi : Int) (se : Int)  : jM l yX0_startOver wsX0_startOver { frames := 0, cells := 0, slots := 0, locals := 0 } D Y [.ref h] (dV Y h q tx ln an ki fi se) (fun v_ w_ => v_ = none ∧ w_ = (dV Y h q tx ln 0 ki fi se)) 0 0 := by
  refine jM_of (cc := cX0_startOver) (maxL := 1) (ret := none) (by decide) rfl (Nat.le_of_ble_eq_true rfl) (fun v w' h => Or.inl ⟨rfl, h.1⟩) ?_
  intro x G kr0
  have kr := kr0 _ _ ⟨rfl, rfl⟩
  have G : jG x l D Y cX0_startOver RX0 wsX0_startOver 1 ({ frames := 0, cells := 0, slots := 0, locals := 0 } : Room) none "startOver" := G
  have hinX0 : ∀ w ∈ wsX00, w ∈ wsX0_startOver := fun _ h => List.mem_cons_of_mem _ (List.mem_append_right _ h)
  show J x 0 0 (dV Y h q tx ln an ki fi se) 0 [(0, .ref h)] []
  refine j_aload_n G 0 dX0_startOver_0 rfl ?_
  refine j_iconst G dX0_startOver_1 (v := 0) rfl ?_
  refine j_put (q := 2) (C := RX0) (T := TX0) (N := 6) (ws' := dV Y h q tx ln 0 ki fi se) G 0 hinX0 tyX0 tyX0_ok nmX0 dX0_startOver_2 rfl rfl (by decide) (by decide +kernel) rfl rfl rfl rfl (Nat.le_of_ble_eq_true rfl) rfl ?_
  exact j_retv G dX0_startOver_5 (jLe.rf _) kr

set_option maxHeartbeats 4000000 in
set_option maxRecDepth 100000 in
theorem c_X0_digitHere (l : Launch) (D : va_G) (Y : Nat → ClassId) (h : Nat) (q : Nat) (tx : Int → Int) (ln : Int) (an : Int) (ki : Int) (fi : Int) (se : Int) (htx : ∀ j : Int, 0 ≤ j → j < 60 → 0 ≤ tx j ∧ tx j < 65536) (hln : 0 ≤ ln ∧ ln ≤ 60) (han : 0 ≤ an ∧ an ≤ ln) : jM l yX0_digitHere wsX0_digitHere { frames := 0, cells := 0, slots := 0, locals := 0 } D Y [.ref h] (dV Y h q tx ln an ki fi se) (fun v_ w_ => v_ = some (.int (jI (dg tx ln an))) ∧ w_ = (dV Y h q tx ln an ki fi se)) 0 0 := by
  refine jM_of (cc := cX0_digitHere) (maxL := 1) (ret := (some .int)) (by decide) rfl (Nat.le_of_ble_eq_true rfl) (fun v w' h => Or.inr (Or.inl ⟨_, _, rfl, h.1, rfl⟩)) ?_
  intro x G kr0
  have kr := kr0 _ _ ⟨rfl, rfl⟩
  have G : jG x l D Y cX0_digitHere RX0 wsX0_digitHere 1 ({ frames := 0, cells := 0, slots := 0, locals := 0 } : Room) (some .int) "digitHere" := G
  have hinX0 : ∀ w ∈ wsX00, w ∈ wsX0_digitHere := fun _ h => List.mem_cons_of_mem _ (List.mem_append_right _ h)
  show J x 0 0 (dV Y h q tx ln an ki fi se) 0 [(0, .ref h)] []
  refine j_aload_n G 0 dX0_digitHere_0 rfl ?_
  refine j_get (q := 2) (C := RX0) (T := TX0) (N := 6) (v := .int (jI an)) G 0 hinX0 dX0_digitHere_1 rfl rfl (by decide) (by decide +kernel) rfl ?_
  refine j_aload_n G 0 dX0_digitHere_4 rfl ?_
  refine j_get (q := 1) (C := RX0) (T := TX0) (N := 6) (v := .int (jI ln)) G 0 hinX0 dX0_digitHere_5 rfl rfl (by decide) (by decide +kernel) rfl ?_
  refine j_icmp_ge (tgt := 39) G dX0_digitHere_8 (by decide) (by omega) (by omega) (fun c8 => ?_) (fun c8 => ?_)
  · refine j_iconst G dX0_digitHere_39 (v := (-1)) rfl ?_
    exact j_reti G dX0_digitHere_40 (by unfold dg; split <;> omega) (jLe.rf _) kr
  · refine j_aload_n G 0 dX0_digitHere_11 rfl ?_
    refine j_get (q := 0) (C := RX0) (T := TX0) (N := 6) (v := .ref q) G 0 hinX0 dX0_digitHere_12 rfl rfl (by decide) (by decide +kernel) rfl ?_
    refine j_aload_n G 0 dX0_digitHere_15 rfl ?_
    refine j_get (q := 2) (C := RX0) (T := TX0) (N := 6) (v := .int (jI an)) G 0 hinX0 dX0_digitHere_16 rfl rfl (by decide) (by decide +kernel) rfl ?_
    refine j_cald (v := tx an) G 1 dX0_digitHere_19 rfl (by omega) rfl ?_
    have f20 := htx an (by omega) (by omega)
    refine j_bipush G dX0_digitHere_20 (v := 48) rfl ?_
    refine j_icmp_lt (tgt := 39) G dX0_digitHere_22 (by decide) (by omega) (by omega) (fun c22 => ?_) (fun c22 => ?_)
    · refine j_iconst G dX0_digitHere_39 (v := (-1)) rfl ?_
      exact j_reti G dX0_digitHere_40 (by unfold dg; split <;> omega) (jLe.rf _) kr
    · refine j_aload_n G 0 dX0_digitHere_25 rfl ?_
      refine j_get (q := 0) (C := RX0) (T := TX0) (N := 6) (v := .ref q) G 0 hinX0 dX0_digitHere_26 rfl rfl (by decide) (by decide +kernel) rfl ?_
      refine j_aload_n G 0 dX0_digitHere_29 rfl ?_
      refine j_get (q := 2) (C := RX0) (T := TX0) (N := 6) (v := .int (jI an)) G 0 hinX0 dX0_digitHere_30 rfl rfl (by decide) (by decide +kernel) rfl ?_
      refine j_cald (v := tx an) G 1 dX0_digitHere_33 rfl (by omega) rfl ?_
      refine j_bipush G dX0_digitHere_34 (v := 57) rfl ?_
      refine j_icmp_le (tgt := 41) G dX0_digitHere_36 (by decide) (by omega) (by omega) (fun c36 => ?_) (fun c36 => ?_)
      · refine j_aload_n G 0 dX0_digitHere_41 rfl ?_
        refine j_get (q := 0) (C := RX0) (T := TX0) (N := 6) (v := .ref q) G 0 hinX0 dX0_digitHere_42 rfl rfl (by decide) (by decide +kernel) rfl ?_
        refine j_aload_n G 0 dX0_digitHere_45 rfl ?_
        refine j_get (q := 2) (C := RX0) (T := TX0) (N := 6) (v := .int (jI an)) G 0 hinX0 dX0_digitHere_46 rfl rfl (by decide) (by decide +kernel) rfl ?_
        refine j_cald (v := tx an) G 1 dX0_digitHere_49 rfl (by omega) rfl ?_
        refine j_bipush G dX0_digitHere_50 (v := 48) rfl ?_
        refine j_isub G dX0_digitHere_52 ?_
        exact j_reti G dX0_digitHere_53 (by unfold dg; split <;> omega) (jLe.rf _) kr
      · refine j_iconst G dX0_digitHere_39 (v := (-1)) rfl ?_
        exact j_reti G dX0_digitHere_40 (by unfold dg; split <;> omega) (jLe.rf _) kr

set_option maxHeartbeats 4000000 in
set_option maxRecDepth 100000 in
theorem c_X0_readSign (l : Launch) (D : va_G) (Y : Nat → ClassId) (h : Nat) (q : Nat) (tx : Int → Int) (ln : Int) (an : Int) (ki : Int) (fi : Int) (se : Int) (c : Int) (htx : ∀ j : Int, 0 ≤ j → j < 60 → 0 ≤ tx j ∧ tx j < 65536) (hln : 0 ≤ ln ∧ ln ≤ 60) (han : 0 ≤ an ∧ an ≤ ln) (hc : 0 ≤ c ∧ c < 65536) : jM l yX0_readSign wsX0_readSign { frames := 0, cells := 0, slots := 0, locals := 0 } D Y [.ref h, .int (jI c)] (dV Y h q tx ln an ki fi se) (fun v_ w_ => v_ = some (.int (jI (if an < ln ∧ tx an = c then 1 else 0))) ∧ w_ = (dV Y h q tx ln (if an < ln ∧ tx an = c then an + 1 else an) ki fi se)) 0 0 := by
  refine jM_of (cc := cX0_readSign) (maxL := 2) (ret := (some .boolean)) (by decide) rfl (Nat.le_of_ble_eq_true rfl) (fun v w' h => Or.inr (Or.inl ⟨_, _, rfl, h.1, jI_z (ite_01 _)⟩)) ?_
  intro x G kr0
  have kr := kr0 _ _ ⟨rfl, rfl⟩
  have G : jG x l D Y cX0_readSign RX0 wsX0_readSign 2 ({ frames := 0, cells := 0, slots := 0, locals := 0 } : Room) (some .boolean) "readSign" := G
  have hinX0 : ∀ w ∈ wsX00, w ∈ wsX0_readSign := fun _ h => List.mem_cons_of_mem _ (List.mem_append_right _ h)
  show J x 0 0 (dV Y h q tx ln an ki fi se) 0 [(0, .ref h), (1, .int (jI c))] []
  refine j_aload_n G 0 dX0_readSign_0 rfl ?_
  refine j_get (q := 2) (C := RX0) (T := TX0) (N := 6) (v := .int (jI an)) G 0 hinX0 dX0_readSign_1 rfl rfl (by decide) (by decide +kernel) rfl ?_
  refine j_aload_n G 0 dX0_readSign_4 rfl ?_
  refine j_get (q := 1) (C := RX0) (T := TX0) (N := 6) (v := .int (jI ln)) G 0 hinX0 dX0_readSign_5 rfl rfl (by decide) (by decide +kernel) rfl ?_
  refine j_icmp_ge (tgt := 24) G dX0_readSign_8 (by decide) (by omega) (by omega) (fun c8 => ?_) (fun c8 => ?_)
  · refine j_iconst G dX0_readSign_24 (v := 0) rfl ?_
    exact j_reti G dX0_readSign_25 (by first | rfl | omega | exact ite_T (by omega) | exact ite_F (by omega)) (by exact dV_an (if_neg (by omega)).symm) kr
  · refine j_aload_n G 0 dX0_readSign_11 rfl ?_
    refine j_get (q := 0) (C := RX0) (T := TX0) (N := 6) (v := .ref q) G 0 hinX0 dX0_readSign_12 rfl rfl (by decide) (by decide +kernel) rfl ?_
    refine j_aload_n G 0 dX0_readSign_15 rfl ?_
    refine j_get (q := 2) (C := RX0) (T := TX0) (N := 6) (v := .int (jI an)) G 0 hinX0 dX0_readSign_16 rfl rfl (by decide) (by decide +kernel) rfl ?_
    refine j_cald (v := tx an) G 1 dX0_readSign_19 rfl (by omega) rfl ?_
    have f20 := htx an (by omega) (by omega)
    refine j_iload_n G 1 dX0_readSign_20 rfl ?_
    refine j_icmp_eq (tgt := 26) G dX0_readSign_21 (by decide) (by omega) (by omega) (fun c21 => ?_) (fun c21 => ?_)
    · refine j_aload_n G 0 dX0_readSign_26 rfl ?_
      refine j_dup G dX0_readSign_27 rfl ?_
      refine j_get (q := 2) (C := RX0) (T := TX0) (N := 6) (v := .int (jI an)) G 0 hinX0 dX0_readSign_28 rfl rfl (by decide) (by decide +kernel) rfl ?_
      refine j_iconst G dX0_readSign_31 (v := 1) rfl ?_
      refine j_iadd G dX0_readSign_32 ?_
      refine j_put (q := 2) (C := RX0) (T := TX0) (N := 6) (ws' := dV Y h q tx ln (an + 1) ki fi se) G 0 hinX0 tyX0 tyX0_ok nmX0 dX0_readSign_33 rfl rfl (by decide) (by decide +kernel) rfl rfl rfl rfl (Nat.le_of_ble_eq_true rfl) rfl ?_
      refine j_iconst G dX0_readSign_36 (v := 1) rfl ?_
      exact j_reti G dX0_readSign_37 (by first | rfl | omega | exact ite_T (by omega) | exact ite_F (by omega)) (by exact dV_an (if_pos (by omega)).symm) kr
    · refine j_iconst G dX0_readSign_24 (v := 0) rfl ?_
      exact j_reti G dX0_readSign_25 (by first | rfl | omega | exact ite_T (by omega) | exact ite_F (by omega)) (by exact dV_an (if_neg (by omega)).symm) kr

set_option maxHeartbeats 4000000 in
set_option maxRecDepth 100000 in
theorem c_X0_readKind (l : Launch) (D : va_G) (Y : Nat → ClassId) (h : Nat) (q : Nat) (tx : Int → Int) (ln : Int) (an : Int) (ki : Int) (fi : Int) (se : Int) (c : Int) (htx : ∀ j : Int, 0 ≤ j → j < 60 → 0 ≤ tx j ∧ tx j < 65536) (hln : 0 ≤ ln ∧ ln ≤ 60) (han : 0 ≤ an ∧ an ≤ ln) (hc : 0 ≤ c ∧ c < 65536) : jM l yX0_readKind wsX0_readKind { frames := 1, cells := 0, slots := 0, locals := 21 } D Y [.ref h, .int (jI c)] (dV Y h q tx ln an ki fi se) (fun v_ w_ => v_ = some (.int (jI (if an < ln ∧ tx an = c then 1 else 0))) ∧ w_ = (dV Y h q tx ln (if an < ln ∧ tx an = c then an + 1 else an) (if an < ln ∧ tx an = c then c else ki) fi se)) 0 0 := by
  refine jM_of (cc := cX0_readKind) (maxL := 2) (ret := (some .boolean)) (by decide) rfl (Nat.le_of_ble_eq_true rfl) (fun v w' h => Or.inr (Or.inl ⟨_, _, rfl, h.1, jI_z (ite_01 _)⟩)) ?_
  intro x G kr0
  have kr := kr0 _ _ ⟨rfl, rfl⟩
  have G : jG x l D Y cX0_readKind RX0 wsX0_readKind 2 ({ frames := 1, cells := 0, slots := 0, locals := 21 } : Room) (some .boolean) "readKind" := G
  have hinX0 : ∀ w ∈ wsX00, w ∈ wsX0_readKind := fun _ h => List.mem_cons_of_mem _ (List.mem_append_right _ h)
  show J x 0 0 (dV Y h q tx ln an ki fi se) 0 [(0, .ref h), (1, .int (jI c))] []
  refine j_aload_n G 0 dX0_readKind_0 rfl ?_
  refine j_iload_n G 1 dX0_readKind_1 rfl ?_
  refine j_callV (nA := 1) (As := [.int (jI c)]) (st := []) (wc := (dV Y h q tx ln an ki fi se)) (wr := []) G (c_X0_readSign l D Y h q tx ln an ki fi se c (by first | assumption | omega) (by first | assumption | omega) (by first | assumption | omega) (by first | assumption | omega)) dX0_readKind_2 rfl gX0_readKind_X0_readSign rfl rfl rfl (by decide +kernel) ⟨by decide, by decide⟩ rfl 0 rfl rfl rfl (jLe.nil (jLe.rf _)) (Nat.le_of_ble_eq_true rfl) ⟨Nat.zero_le _, Nat.zero_le _⟩ (fun v_ w_ hp_ => ?_)
  obtain ⟨rfl, rfl⟩ := hp_
  show J x 0 0 (dV Y h q tx ln (if an < ln ∧ tx an = c then an + 1 else an) ki fi se) 5 [(0, .ref h), (1, .int (jI c))] [.int (jI (if an < ln ∧ tx an = c then 1 else 0))]
  refine j_ifz_ne (tgt := 10) G dX0_readKind_5 (by decide) (fun c5 => ?_) (fun c5 => ?_)
  · refine j_aload_n G 0 dX0_readKind_10 rfl ?_
    refine j_iload_n G 1 dX0_readKind_11 rfl ?_
    refine j_put (q := 3) (C := RX0) (T := TX0) (N := 6) (ws' := dV Y h q tx ln (if an < ln ∧ tx an = c then an + 1 else an) c fi se) G 0 hinX0 tyX0 tyX0_ok nmX0 dX0_readKind_12 rfl rfl (by decide) (by decide +kernel) rfl rfl (jI_c (by omega)).1 (jI_c (by omega)).2 (Nat.le_of_ble_eq_true rfl) rfl ?_
    refine j_iconst G dX0_readKind_15 (v := 1) rfl ?_
    exact j_reti G dX0_readKind_16 (by exact ite_T c5) (by rw [if_pos c5, if_pos c5]; exact jLe.rf _) kr
  · refine j_iconst G dX0_readKind_8 (v := 0) rfl ?_
    exact j_reti G dX0_readKind_9 (by exact ite_F c5) (by rw [if_neg c5, if_neg c5]; exact jLe.rf _) kr

set_option maxHeartbeats 4000000 in
set_option maxRecDepth 100000 in
theorem c_X0_readNumber (l : Launch) (D : va_G) (Y : Nat → ClassId) (h : Nat) (q : Nat) (tx : Int → Int) (ln : Int) (an : Int) (ki : Int) (fi : Int) (se : Int) (lo : Int) (hi : Int) (htx : ∀ j : Int, 0 ≤ j → j < 60 → 0 ≤ tx j ∧ tx j < 65536) (hln : 0 ≤ ln ∧ ln ≤ 60) (han : 0 ≤ an ∧ an ≤ ln) (hlo : 0 ≤ lo ∧ lo ≤ 1) (hhi : 2 ≤ hi ∧ hi ≤ 99) : jM l yX0_readNumber wsX0_readNumber { frames := 1, cells := 0, slots := 0, locals := 22 } D Y [.ref h, .int (jI lo), .int (jI hi)] (dV Y h q tx ln an ki fi se) (fun v_ w_ => v_ = some (.int (jI (nV tx ln lo hi an))) ∧ w_ = (dV Y h q tx ln (nP tx ln lo hi an) ki fi se)) 0 0 := by
  refine jM_of (cc := cX0_readNumber) (maxL := 5) (ret := (some .int)) (by decide) rfl (Nat.le_of_ble_eq_true rfl) (fun v w' h => Or.inr (Or.inl ⟨_, _, rfl, h.1, rfl⟩)) ?_
  intro x G kr0
  have kr := kr0 _ _ ⟨rfl, rfl⟩
  have G : jG x l D Y cX0_readNumber RX0 wsX0_readNumber 5 ({ frames := 1, cells := 0, slots := 0, locals := 22 } : Room) (some .int) "readNumber" := G
  have hinX0 : ∀ w ∈ wsX00, w ∈ wsX0_readNumber := fun _ h => List.mem_cons_of_mem _ (List.mem_append_right _ h)
  show J x 0 0 (dV Y h q tx ln an ki fi se) 0 [(0, .ref h), (1, .int (jI lo)), (2, .int (jI hi))] []
  refine j_aload_n G 0 dX0_readNumber_0 rfl ?_
  refine j_callV (nA := 0) (As := []) (st := []) (wc := (dV Y h q tx ln an ki fi se)) (wr := []) G (c_X0_digitHere l D Y h q tx ln an ki fi se (by first | assumption | omega) (by first | assumption | omega) (by first | assumption | omega)) dX0_readNumber_1 rfl gX0_readNumber_X0_digitHere rfl rfl rfl (by decide +kernel) ⟨by decide, by decide⟩ rfl 0 rfl rfl rfl (jLe.nil (jLe.rf _)) (Nat.le_of_ble_eq_true rfl) ⟨Nat.zero_le _, Nat.zero_le _⟩ (fun v_ w_ hp_ => ?_)
  obtain ⟨rfl, rfl⟩ := hp_
  show J x 0 0 (dV Y h q tx ln an ki fi se) 4 [(0, .ref h), (1, .int (jI lo)), (2, .int (jI hi))] [.int (jI (dg tx ln an))]
  have f4 := dg_b tx ln an
  refine j_istore_n (lv' := [(3, .int (jI (dg tx ln an))), (0, .ref h), (1, .int (jI lo)), (2, .int (jI hi))]) G dX0_readNumber_4 (by decide) rfl ?_
  refine j_iload_n G 0 dX0_readNumber_5 rfl ?_
  refine j_iload_n G 2 dX0_readNumber_6 rfl ?_
  refine j_iload_n G 3 dX0_readNumber_7 rfl ?_
  refine j_callSN (host := "StormFelling") (nA := 3) (As := [.int (jI (dg tx ln an)), .int (jI lo), .int (jI hi)]) (st := []) (wc := []) (wr := (dV Y h q tx ln an ki fi se)) G (c_X4_isIn l D Y (dg tx ln an) lo hi (by first | assumption | omega) (by first | assumption | omega) (by first | assumption | omega)) dX0_readNumber_8 rfl gX0_readNumber_X4_isIn_n62 rfl rfl rfl (by decide +kernel) (by decide +kernel) (by decide +kernel) (by decide +kernel) ⟨by decide, by decide⟩ rfl (jLe.rf _) (Nat.le_of_ble_eq_true rfl) ⟨Nat.zero_le _, Nat.zero_le _⟩ (fun v_ w_ hp_ => ?_)
  obtain ⟨rfl, rfl⟩ := hp_
  show J x 0 0 (dV Y h q tx ln an ki fi se) 11 [(3, .int (jI (dg tx ln an))), (0, .ref h), (1, .int (jI lo)), (2, .int (jI hi))] [.int (jI (if lo ≤ (dg tx ln an) ∧ (dg tx ln an) ≤ hi then 1 else 0))]
  refine j_ifz_ne (tgt := 16) G dX0_readNumber_11 (by decide) (fun c11 => ?_) (fun c11 => ?_)
  · have f16 := dg_lt (tx := tx) (ln := ln) (a := an) (by omega)
    refine j_aload_n G 1 dX0_readNumber_16 rfl ?_
    refine j_dup G dX0_readNumber_17 rfl ?_
    refine j_get (q := 2) (C := RX0) (T := TX0) (N := 6) (v := .int (jI an)) G 0 hinX0 dX0_readNumber_18 rfl rfl (by decide) (by decide +kernel) rfl ?_
    refine j_iconst G dX0_readNumber_21 (v := 1) rfl ?_
    refine j_iadd G dX0_readNumber_22 ?_
    refine j_put (q := 2) (C := RX0) (T := TX0) (N := 6) (ws' := dV Y h q tx ln (an + 1) ki fi se) G 0 hinX0 tyX0 tyX0_ok nmX0 dX0_readNumber_23 rfl rfl (by decide) (by decide +kernel) rfl rfl rfl rfl (Nat.le_of_ble_eq_true rfl) rfl ?_
    refine j_aload_n G 1 dX0_readNumber_26 rfl ?_
    refine j_callV (nA := 0) (As := []) (st := []) (wc := (dV Y h q tx ln (an + 1) ki fi se)) (wr := []) G (c_X0_digitHere l D Y h q tx ln (an + 1) ki fi se (by first | assumption | omega) (by first | assumption | omega) (by first | assumption | omega)) dX0_readNumber_27 rfl gX0_readNumber_X0_digitHere rfl rfl rfl (by decide +kernel) ⟨by decide, by decide⟩ rfl 0 rfl rfl rfl (jLe.nil (jLe.rf _)) (Nat.le_of_ble_eq_true rfl) ⟨Nat.zero_le _, Nat.zero_le _⟩ (fun v_ w_ hp_ => ?_)
    obtain ⟨rfl, rfl⟩ := hp_
    show J x 0 0 (dV Y h q tx ln (an + 1) ki fi se) 30 [(3, .int (jI (dg tx ln an))), (0, .ref h), (1, .int (jI lo)), (2, .int (jI hi))] [.int (jI (dg tx ln (an + 1)))]
    have f30 := dg_b tx ln (an + 1)
    refine j_istore (lv' := [(4, .int (jI (dg tx ln (an + 1)))), (3, .int (jI (dg tx ln an))), (0, .ref h), (1, .int (jI lo)), (2, .int (jI hi))]) G dX0_readNumber_30 (by decide) rfl ?_
    refine j_iload_n G 1 dX0_readNumber_32 rfl ?_
    refine j_if_eq (tgt := 53) G dX0_readNumber_33 (by decide) (by omega) (fun c33 => ?_) (fun c33 => ?_)
    · refine j_iload_n G 1 dX0_readNumber_53 rfl ?_
      exact j_reti G dX0_readNumber_54 (by unfold nV; rw [if_pos c11, if_pos (by omega)]) (by exact dV_an (by unfold nP; rw [if_pos c11, if_pos (by omega)])) kr
    · refine j_iload G 0 dX0_readNumber_36 rfl ?_
      refine j_iconst G dX0_readNumber_38 (v := (-1)) rfl ?_
      refine j_icmp_eq (tgt := 53) G dX0_readNumber_39 (by decide) (by omega) (by omega) (fun c39 => ?_) (fun c39 => ?_)
      · refine j_iload_n G 1 dX0_readNumber_53 rfl ?_
        exact j_reti G dX0_readNumber_54 (by unfold nV; rw [if_pos c11, if_pos (by omega)]) (by exact dV_an (by unfold nP; rw [if_pos c11, if_pos (by omega)])) kr
      · refine j_iload_n G 1 dX0_readNumber_42 rfl ?_
        refine j_bipush G dX0_readNumber_43 (v := 10) rfl ?_
        refine j_imul G dX0_readNumber_45 ?_
        refine j_iload G 0 dX0_readNumber_46 rfl ?_
        refine j_iadd G dX0_readNumber_48 ?_
        refine j_iload_n G 4 dX0_readNumber_49 rfl ?_
        refine j_icmp_le (tgt := 55) G dX0_readNumber_50 (by decide) (by omega) (by omega) (fun c50 => ?_) (fun c50 => ?_)
        · refine j_aload_n G 2 dX0_readNumber_55 rfl ?_
          refine j_dup G dX0_readNumber_56 rfl ?_
          refine j_get (q := 2) (C := RX0) (T := TX0) (N := 6) (v := .int (jI (an + 1))) G 0 hinX0 dX0_readNumber_57 rfl rfl (by decide) (by decide +kernel) rfl ?_
          refine j_iconst G dX0_readNumber_60 (v := 1) rfl ?_
          refine j_iadd G dX0_readNumber_61 ?_
          refine j_put (q := 2) (C := RX0) (T := TX0) (N := 6) (ws' := dV Y h q tx ln ((an + 1) + 1) ki fi se) G 0 hinX0 tyX0 tyX0_ok nmX0 dX0_readNumber_62 rfl rfl (by decide) (by decide +kernel) rfl rfl rfl rfl (Nat.le_of_ble_eq_true rfl) rfl ?_
          refine j_iload_n G 1 dX0_readNumber_65 rfl ?_
          refine j_bipush G dX0_readNumber_66 (v := 10) rfl ?_
          refine j_imul G dX0_readNumber_68 ?_
          refine j_iload G 0 dX0_readNumber_69 rfl ?_
          refine j_iadd G dX0_readNumber_71 ?_
          exact j_reti G dX0_readNumber_72 (by unfold nV; rw [if_pos c11, if_neg (by omega)]) (by exact dV_an (by unfold nP; rw [if_pos c11, if_neg (by omega)]; omega)) kr
        · refine j_iload_n G 1 dX0_readNumber_53 rfl ?_
          exact j_reti G dX0_readNumber_54 (by unfold nV; rw [if_pos c11, if_pos (by omega)]) (by exact dV_an (by unfold nP; rw [if_pos c11, if_pos (by omega)])) kr
  · refine j_iconst G dX0_readNumber_14 (v := (-1)) rfl ?_
    exact j_reti G dX0_readNumber_15 (by unfold nV; rw [if_neg c11]) (by exact dV_an (by unfold nP; rw [if_neg c11])) kr

set_option maxHeartbeats 4000000 in
set_option maxRecDepth 100000 in
theorem c_X0_readFirst (l : Launch) (D : va_G) (Y : Nat → ClassId) (h : Nat) (q : Nat) (tx : Int → Int) (ln : Int) (an : Int) (ki : Int) (fi : Int) (se : Int) (lo : Int) (hi : Int) (htx : ∀ j : Int, 0 ≤ j → j < 60 → 0 ≤ tx j ∧ tx j < 65536) (hln : 0 ≤ ln ∧ ln ≤ 60) (han : 0 ≤ an ∧ an ≤ ln) (hlo : 0 ≤ lo ∧ lo ≤ 1) (hhi : 2 ≤ hi ∧ hi ≤ 99) : jM l yX0_readFirst wsX0_readFirst { frames := 2, cells := 0, slots := 0, locals := 46 } D Y [.ref h, .int (jI lo), .int (jI hi)] (dV Y h q tx ln an ki fi se) (fun v_ w_ => v_ = some (.int (jI (if ¬ nV tx ln lo hi an = -1 then 1 else 0))) ∧ w_ = (dV Y h q tx ln (nP tx ln lo hi an) ki (nV tx ln lo hi an) se)) 0 0 := by
  refine jM_of (cc := cX0_readFirst) (maxL := 3) (ret := (some .boolean)) (by decide) rfl (Nat.le_of_ble_eq_true rfl) (fun v w' h => Or.inr (Or.inl ⟨_, _, rfl, h.1, jI_z (ite_01 _)⟩)) ?_
  intro x G kr0
  have kr := kr0 _ _ ⟨rfl, rfl⟩
  have G : jG x l D Y cX0_readFirst RX0 wsX0_readFirst 3 ({ frames := 2, cells := 0, slots := 0, locals := 46 } : Room) (some .boolean) "readFirst" := G
  have hinX0 : ∀ w ∈ wsX00, w ∈ wsX0_readFirst := fun _ h => List.mem_cons_of_mem _ (List.mem_append_right _ h)
  have f0 := nV_b (tx := tx) (ln := ln) (a := an) hlo.1 hlo.2 hhi.2
  show J x 0 0 (dV Y h q tx ln an ki fi se) 0 [(0, .ref h), (1, .int (jI lo)), (2, .int (jI hi))] []
  refine j_aload_n G 0 dX0_readFirst_0 rfl ?_
  refine j_aload_n G 0 dX0_readFirst_1 rfl ?_
  refine j_iload_n G 1 dX0_readFirst_2 rfl ?_
  refine j_iload_n G 2 dX0_readFirst_3 rfl ?_
  refine j_callV (nA := 2) (As := [.int (jI lo), .int (jI hi)]) (st := [.ref h]) (wc := (dV Y h q tx ln an ki fi se)) (wr := []) G (c_X0_readNumber l D Y h q tx ln an ki fi se lo hi (by first | assumption | omega) (by first | assumption | omega) (by first | assumption | omega) (by first | assumption | omega) (by first | assumption | omega)) dX0_readFirst_4 rfl gX0_readFirst_X0_readNumber rfl rfl rfl (by decide +kernel) ⟨by decide, by decide⟩ rfl 0 rfl rfl rfl (jLe.nil (jLe.rf _)) (Nat.le_of_ble_eq_true rfl) ⟨Nat.zero_le _, Nat.zero_le _⟩ (fun v_ w_ hp_ => ?_)
  obtain ⟨rfl, rfl⟩ := hp_
  show J x 0 0 (dV Y h q tx ln (nP tx ln lo hi an) ki fi se) 7 [(0, .ref h), (1, .int (jI lo)), (2, .int (jI hi))] [.int (jI (nV tx ln lo hi an)), .ref h]
  refine j_put (q := 4) (C := RX0) (T := TX0) (N := 6) (ws' := dV Y h q tx ln (nP tx ln lo hi an) ki (nV tx ln lo hi an) se) G 0 hinX0 tyX0 tyX0_ok nmX0 dX0_readFirst_7 rfl rfl (by decide) (by decide +kernel) rfl rfl rfl rfl (Nat.le_of_ble_eq_true rfl) rfl ?_
  refine j_aload_n G 0 dX0_readFirst_10 rfl ?_
  refine j_get (q := 4) (C := RX0) (T := TX0) (N := 6) (v := .int (jI (nV tx ln lo hi an))) G 0 hinX0 dX0_readFirst_11 rfl rfl (by decide) (by decide +kernel) rfl ?_
  refine j_iconst G dX0_readFirst_14 (v := (-1)) rfl ?_
  refine j_icmp_eq (tgt := 22) G dX0_readFirst_15 (by decide) (by omega) (by omega) (fun c15 => ?_) (fun c15 => ?_)
  · refine j_iconst G dX0_readFirst_22 (v := 0) rfl ?_
    exact j_reti G dX0_readFirst_23 (by first | rfl | omega | exact ite_T (by omega) | exact ite_F (by omega)) (jLe.rf _) kr
  · refine j_iconst G dX0_readFirst_18 (v := 1) rfl ?_
    refine j_goto (tgt := 23) G dX0_readFirst_19 (by decide) ?_
    exact j_reti G dX0_readFirst_23 (by first | rfl | omega | exact ite_T (by omega) | exact ite_F (by omega)) (jLe.rf _) kr

set_option maxHeartbeats 4000000 in
set_option maxRecDepth 100000 in
theorem c_X0_readSecond (l : Launch) (D : va_G) (Y : Nat → ClassId) (h : Nat) (q : Nat) (tx : Int → Int) (ln : Int) (an : Int) (ki : Int) (fi : Int) (se : Int) (hi : Int) (htx : ∀ j : Int, 0 ≤ j → j < 60 → 0 ≤ tx j ∧ tx j < 65536) (hln : 0 ≤ ln ∧ ln ≤ 60) (han : 0 ≤ an ∧ an ≤ ln) (hhi : 2 ≤ hi ∧ hi ≤ 99) : jM l yX0_readSecond wsX0_readSecond { frames := 2, cells := 0, slots := 0, locals := 46 } D Y [.ref h, .int (jI hi)] (dV Y h q tx ln an ki fi se) (fun v_ w_ => v_ = some (.int (jI (if ¬ nV tx ln 0 hi an = -1 then 1 else 0))) ∧ w_ = (dV Y h q tx ln (nP tx ln 0 hi an) ki fi (nV tx ln 0 hi an))) 0 0 := by
  refine jM_of (cc := cX0_readSecond) (maxL := 2) (ret := (some .boolean)) (by decide) rfl (Nat.le_of_ble_eq_true rfl) (fun v w' h => Or.inr (Or.inl ⟨_, _, rfl, h.1, jI_z (ite_01 _)⟩)) ?_
  intro x G kr0
  have kr := kr0 _ _ ⟨rfl, rfl⟩
  have G : jG x l D Y cX0_readSecond RX0 wsX0_readSecond 2 ({ frames := 2, cells := 0, slots := 0, locals := 46 } : Room) (some .boolean) "readSecond" := G
  have hinX0 : ∀ w ∈ wsX00, w ∈ wsX0_readSecond := fun _ h => List.mem_cons_of_mem _ (List.mem_append_right _ h)
  have f0 := nV_b (tx := tx) (ln := ln) (lo := 0) (a := an) (by omega) (by omega) hhi.2
  show J x 0 0 (dV Y h q tx ln an ki fi se) 0 [(0, .ref h), (1, .int (jI hi))] []
  refine j_aload_n G 0 dX0_readSecond_0 rfl ?_
  refine j_aload_n G 0 dX0_readSecond_1 rfl ?_
  refine j_iconst G dX0_readSecond_2 (v := 0) rfl ?_
  refine j_iload_n G 1 dX0_readSecond_3 rfl ?_
  refine j_callV (nA := 2) (As := [.int (jI 0), .int (jI hi)]) (st := [.ref h]) (wc := (dV Y h q tx ln an ki fi se)) (wr := []) G (c_X0_readNumber l D Y h q tx ln an ki fi se 0 hi (by first | assumption | omega) (by first | assumption | omega) (by first | assumption | omega) (by first | assumption | omega) (by first | assumption | omega)) dX0_readSecond_4 rfl gX0_readSecond_X0_readNumber rfl rfl rfl (by decide +kernel) ⟨by decide, by decide⟩ rfl 0 rfl rfl rfl (jLe.nil (jLe.rf _)) (Nat.le_of_ble_eq_true rfl) ⟨Nat.zero_le _, Nat.zero_le _⟩ (fun v_ w_ hp_ => ?_)
  obtain ⟨rfl, rfl⟩ := hp_
  show J x 0 0 (dV Y h q tx ln (nP tx ln 0 hi an) ki fi se) 7 [(0, .ref h), (1, .int (jI hi))] [.int (jI (nV tx ln 0 hi an)), .ref h]
  refine j_put (q := 5) (C := RX0) (T := TX0) (N := 6) (ws' := dV Y h q tx ln (nP tx ln 0 hi an) ki fi (nV tx ln 0 hi an)) G 0 hinX0 tyX0 tyX0_ok nmX0 dX0_readSecond_7 rfl rfl (by decide) (by decide +kernel) rfl rfl rfl rfl (Nat.le_of_ble_eq_true rfl) rfl ?_
  refine j_aload_n G 0 dX0_readSecond_10 rfl ?_
  refine j_get (q := 5) (C := RX0) (T := TX0) (N := 6) (v := .int (jI (nV tx ln 0 hi an))) G 0 hinX0 dX0_readSecond_11 rfl rfl (by decide) (by decide +kernel) rfl ?_
  refine j_iconst G dX0_readSecond_14 (v := (-1)) rfl ?_
  refine j_icmp_eq (tgt := 22) G dX0_readSecond_15 (by decide) (by omega) (by omega) (fun c15 => ?_) (fun c15 => ?_)
  · refine j_iconst G dX0_readSecond_22 (v := 0) rfl ?_
    exact j_reti G dX0_readSecond_23 (by first | rfl | omega | exact ite_T (by omega) | exact ite_F (by omega)) (jLe.rf _) kr
  · refine j_iconst G dX0_readSecond_18 (v := 1) rfl ?_
    refine j_goto (tgt := 23) G dX0_readSecond_19 (by decide) ?_
    exact j_reti G dX0_readSecond_23 (by first | rfl | omega | exact ite_T (by omega) | exact ite_F (by omega)) (jLe.rf _) kr

set_option maxHeartbeats 4000000 in
set_option maxRecDepth 100000 in
theorem c_X0_readThing (l : Launch) (D : va_G) (Y : Nat → ClassId) (h : Nat) (q : Nat) (tx : Int → Int) (ln : Int) (an : Int) (ki : Int) (fi : Int) (se : Int) (htx : ∀ j : Int, 0 ≤ j → j < 60 → 0 ≤ tx j ∧ tx j < 65536) (hln : 0 ≤ ln ∧ ln ≤ 60) (han : 0 ≤ an ∧ an ≤ ln) : jM l yX0_readThing wsX0_readThing { frames := 3, cells := 0, slots := 0, locals := 68 } D Y [.ref h] (dV Y h q tx ln an ki fi se) (fun v_ w_ => ∃ (ki2 : Int) (fi2 : Int) (se2 : Int), v_ = some (.int (jI (if tOk tx ln an then 1 else 0))) ∧ w_ = (dV Y h q tx ln (tEnd tx ln an) ki2 fi2 se2) ∧ (tOk tx ln an → ki2 = tK tx ln an ∧ fi2 = tFi tx ln an ∧ (¬ sg (tK tx ln an) = 0 → se2 = tSe tx ln an))) 0 0 := by
  refine jM_of (cc := cX0_readThing) (maxL := 1) (ret := (some .boolean)) (by decide) rfl (Nat.le_of_ble_eq_true rfl) (fun v w' h => by obtain ⟨_, _, _, h⟩ := h; exact Or.inr (Or.inl ⟨_, _, rfl, h.1, jI_z (ite_01 _)⟩)) ?_
  intro x G kr0
  have G : jG x l D Y cX0_readThing RX0 wsX0_readThing 1 ({ frames := 3, cells := 0, slots := 0, locals := 68 } : Room) (some .boolean) "readThing" := G
  have han0 := han
  show J x 0 0 (dV Y h q tx ln an ki fi se) 0 [(0, .ref h)] []
  refine j_aload_n G 0 dX0_readThing_0 rfl ?_
  refine j_bipush G dX0_readThing_1 (v := 116) rfl ?_
  refine j_callV (nA := 1) (As := [.int (jI 116)]) (st := []) (wc := (dV Y h q tx ln an ki fi se)) (wr := []) G (c_X0_readKind l D Y h q tx ln an ki fi se 116 (by first | assumption | omega) (by first | assumption | omega) (by first | assumption | omega) (by first | assumption | omega)) dX0_readThing_3 rfl gX0_readThing_X0_readKind rfl rfl rfl (by decide +kernel) ⟨by decide, by decide⟩ rfl 0 rfl rfl rfl (jLe.nil (jLe.rf _)) (Nat.le_of_ble_eq_true rfl) ⟨Nat.zero_le _, Nat.zero_le _⟩ (fun v_ w_ hp_ => ?_)
  obtain ⟨rfl, rfl⟩ := hp_
  show J x 0 0 (dV Y h q tx ln (if an < ln ∧ tx an = 116 then an + 1 else an) (if an < ln ∧ tx an = 116 then 116 else ki) fi se) 6 [(0, .ref h)] [.int (jI (if an < ln ∧ tx an = 116 then 1 else 0))]
  refine j_ifz_eq (tgt := 43) G dX0_readThing_6 (by decide) (fun c6 => ?_) (fun c6 => ?_)
  · rw [if_neg c6, if_neg c6]
    refine j_aload_n G 0 dX0_readThing_43 rfl ?_
    refine j_bipush G dX0_readThing_44 (v := 114) rfl ?_
    refine j_callV (nA := 1) (As := [.int (jI 114)]) (st := []) (wc := (dV Y h q tx ln an ki fi se)) (wr := []) G (c_X0_readKind l D Y h q tx ln an ki fi se 114 (by first | assumption | omega) (by first | assumption | omega) (by first | assumption | omega) (by first | assumption | omega)) dX0_readThing_46 rfl gX0_readThing_X0_readKind rfl rfl rfl (by decide +kernel) ⟨by decide, by decide⟩ rfl 0 rfl rfl rfl (jLe.nil (jLe.rf _)) (Nat.le_of_ble_eq_true rfl) ⟨Nat.zero_le _, Nat.zero_le _⟩ (fun v_ w_ hp_ => ?_)
    obtain ⟨rfl, rfl⟩ := hp_
    show J x 0 0 (dV Y h q tx ln (if an < ln ∧ tx an = 114 then an + 1 else an) (if an < ln ∧ tx an = 114 then 114 else ki) fi se) 49 [(0, .ref h)] [.int (jI (if an < ln ∧ tx an = 114 then 1 else 0))]
    refine j_ifz_eq (tgt := 60) G dX0_readThing_49 (by decide) (fun c49 => ?_) (fun c49 => ?_)
    · rw [if_neg c49, if_neg c49]
      refine j_aload_n G 0 dX0_readThing_60 rfl ?_
      refine j_bipush G dX0_readThing_61 (v := 104) rfl ?_
      refine j_callV (nA := 1) (As := [.int (jI 104)]) (st := []) (wc := (dV Y h q tx ln an ki fi se)) (wr := []) G (c_X0_readKind l D Y h q tx ln an ki fi se 104 (by first | assumption | omega) (by first | assumption | omega) (by first | assumption | omega) (by first | assumption | omega)) dX0_readThing_63 rfl gX0_readThing_X0_readKind rfl rfl rfl (by decide +kernel) ⟨by decide, by decide⟩ rfl 0 rfl rfl rfl (jLe.nil (jLe.rf _)) (Nat.le_of_ble_eq_true rfl) ⟨Nat.zero_le _, Nat.zero_le _⟩ (fun v_ w_ hp_ => ?_)
      obtain ⟨rfl, rfl⟩ := hp_
      show J x 0 0 (dV Y h q tx ln (if an < ln ∧ tx an = 104 then an + 1 else an) (if an < ln ∧ tx an = 104 then 104 else ki) fi se) 66 [(0, .ref h)] [.int (jI (if an < ln ∧ tx an = 104 then 1 else 0))]
      refine j_ifz_eq (tgt := 103) G dX0_readThing_66 (by decide) (fun c66 => ?_) (fun c66 => ?_)
      · rw [if_neg c66, if_neg c66]
        refine j_aload_n G 0 dX0_readThing_103 rfl ?_
        refine j_bipush G dX0_readThing_104 (v := 103) rfl ?_
        refine j_callV (nA := 1) (As := [.int (jI 103)]) (st := []) (wc := (dV Y h q tx ln an ki fi se)) (wr := []) G (c_X0_readKind l D Y h q tx ln an ki fi se 103 (by first | assumption | omega) (by first | assumption | omega) (by first | assumption | omega) (by first | assumption | omega)) dX0_readThing_106 rfl gX0_readThing_X0_readKind rfl rfl rfl (by decide +kernel) ⟨by decide, by decide⟩ rfl 0 rfl rfl rfl (jLe.nil (jLe.rf _)) (Nat.le_of_ble_eq_true rfl) ⟨Nat.zero_le _, Nat.zero_le _⟩ (fun v_ w_ hp_ => ?_)
        obtain ⟨rfl, rfl⟩ := hp_
        show J x 0 0 (dV Y h q tx ln (if an < ln ∧ tx an = 103 then an + 1 else an) (if an < ln ∧ tx an = 103 then 103 else ki) fi se) 109 [(0, .ref h)] [.int (jI (if an < ln ∧ tx an = 103 then 1 else 0))]
        refine j_ifz_eq (tgt := 145) G dX0_readThing_109 (by decide) (fun c109 => ?_) (fun c109 => ?_)
        · rw [if_neg c109, if_neg c109]
          refine j_aload_n G 0 dX0_readThing_145 rfl ?_
          refine j_bipush G dX0_readThing_146 (v := 102) rfl ?_
          refine j_callV (nA := 1) (As := [.int (jI 102)]) (st := []) (wc := (dV Y h q tx ln an ki fi se)) (wr := []) G (c_X0_readKind l D Y h q tx ln an ki fi se 102 (by first | assumption | omega) (by first | assumption | omega) (by first | assumption | omega) (by first | assumption | omega)) dX0_readThing_148 rfl gX0_readThing_X0_readKind rfl rfl rfl (by decide +kernel) ⟨by decide, by decide⟩ rfl 0 rfl rfl rfl (jLe.nil (jLe.rf _)) (Nat.le_of_ble_eq_true rfl) ⟨Nat.zero_le _, Nat.zero_le _⟩ (fun v_ w_ hp_ => ?_)
          obtain ⟨rfl, rfl⟩ := hp_
          show J x 0 0 (dV Y h q tx ln (if an < ln ∧ tx an = 102 then an + 1 else an) (if an < ln ∧ tx an = 102 then 102 else ki) fi se) 151 [(0, .ref h)] [.int (jI (if an < ln ∧ tx an = 102 then 1 else 0))]
          refine j_ifz_eq (tgt := 161) G dX0_readThing_151 (by decide) (fun c151 => ?_) (fun c151 => ?_)
          · rw [if_neg c151, if_neg c151]
            refine j_aload_n G 0 dX0_readThing_161 rfl ?_
            refine j_bipush G dX0_readThing_162 (v := 46) rfl ?_
            refine j_callV (nA := 1) (As := [.int (jI 46)]) (st := []) (wc := (dV Y h q tx ln an ki fi se)) (wr := []) G (c_X0_readKind l D Y h q tx ln an ki fi se 46 (by first | assumption | omega) (by first | assumption | omega) (by first | assumption | omega) (by first | assumption | omega)) dX0_readThing_164 rfl gX0_readThing_X0_readKind rfl rfl rfl (by decide +kernel) ⟨by decide, by decide⟩ rfl 0 rfl rfl rfl (jLe.nil (jLe.rf _)) (Nat.le_of_ble_eq_true rfl) ⟨Nat.zero_le _, Nat.zero_le _⟩ (fun v_ w_ hp_ => ?_)
            obtain ⟨rfl, rfl⟩ := hp_
            show J x 0 0 (dV Y h q tx ln (if an < ln ∧ tx an = 46 then an + 1 else an) (if an < ln ∧ tx an = 46 then 46 else ki) fi se) 167 [(0, .ref h)] [.int (jI (if an < ln ∧ tx an = 46 then 1 else 0))]
            refine j_ifz_eq (tgt := 184) G dX0_readThing_167 (by decide) (fun c167 => ?_) (fun c167 => ?_)
            · refine j_iconst G dX0_readThing_184 (v := 0) rfl ?_
              exact j_reti G dX0_readThing_185 (by first | exact ite_T ((tOk_1 (tx := tx) (ln := ln) (a := an) (K := 46) (lo := 1) (hi := 99) (tK_of (K := 46) c167) rfl rfl rfl (by omega)).mpr c177) | exact ite_F (fun z => c177 ((tOk_1 (tx := tx) (ln := ln) (a := an) (K := 46) (lo := 1) (hi := 99) (tK_of (K := 46) c167) rfl rfl rfl (by omega)).mp z)) | exact ite_F (fun z => by have a1 := tK_no (K := 116) (by omega) c6; have a2 := tK_no (K := 114) (by omega) c49; have a3 := tK_no (K := 104) (by omega) c66; have a4 := tK_no (K := 103) (by omega) c109; have a5 := tK_no (K := 102) (by omega) c151; have a6 := tK_no (K := 46) (by omega) c167; have a7 := z.1; omega)) (by first | exact dV_an (by rw [tEnd_1 (tx := tx) (ln := ln) (a := an) (K := 46) (lo := 1) (hi := 99) (tK_of (K := 46) c167) rfl rfl rfl (by omega) (by omega) (by omega)]) | (rw [if_neg c167, if_neg c167]; exact dV_an (by unfold tEnd; exact (if_neg (fun z => by have a1 := tK_no (K := 116) (by omega) c6; have a2 := tK_no (K := 114) (by omega) c49; have a3 := tK_no (K := 104) (by omega) c66; have a4 := tK_no (K := 103) (by omega) c109; have a5 := tK_no (K := 102) (by omega) c151; have a6 := tK_no (K := 46) (by omega) c167; have a7 := z; omega)).symm))) (kr0 _ _ ⟨(if an < ln ∧ tx an = 46 then 46 else ki), fi, se, rfl, rfl, (fun z => by first | exact ⟨k0.symm, by unfold tFi; rw [k0]; rfl, fun z => absurd (by rw [k0]; rfl) z⟩ | exact absurd z (fun z => by have a1 := tK_no (K := 116) (by omega) c6; have a2 := tK_no (K := 114) (by omega) c49; have a3 := tK_no (K := 104) (by omega) c66; have a4 := tK_no (K := 103) (by omega) c109; have a5 := tK_no (K := 102) (by omega) c151; have a6 := tK_no (K := 46) (by omega) c167; have a7 := z.1; omega))⟩)
            · rw [if_pos c167, if_pos c167]
              have k0 := tK_of (K := 46) c167
              refine j_aload_n G 0 dX0_readThing_170 rfl ?_
              refine j_iconst G dX0_readThing_171 (v := 1) rfl ?_
              refine j_bipush G dX0_readThing_172 (v := 99) rfl ?_
              refine j_callV (nA := 2) (As := [.int (jI 1), .int (jI 99)]) (st := []) (wc := (dV Y h q tx ln (an + 1) 46 fi se)) (wr := []) G (c_X0_readFirst l D Y h q tx ln (an + 1) 46 fi se 1 99 (by first | assumption | omega) (by first | assumption | omega) (by first | assumption | omega) (by first | assumption | omega) (by first | assumption | omega)) dX0_readThing_174 rfl gX0_readThing_X0_readFirst rfl rfl rfl (by decide +kernel) ⟨by decide, by decide⟩ rfl 0 rfl rfl rfl (jLe.nil (jLe.rf _)) (Nat.le_of_ble_eq_true rfl) ⟨Nat.zero_le _, Nat.zero_le _⟩ (fun v_ w_ hp_ => ?_)
              obtain ⟨rfl, rfl⟩ := hp_
              show J x 0 0 (dV Y h q tx ln (nP tx ln 1 99 (an + 1)) 46 (nV tx ln 1 99 (an + 1)) se) 177 [(0, .ref h)] [.int (jI (if ¬ nV tx ln 1 99 (an + 1) = -1 then 1 else 0))]
              refine j_ifz_eq (tgt := 184) G dX0_readThing_177 (by decide) (fun c177 => ?_) (fun c177 => ?_)
              · refine j_iconst G dX0_readThing_184 (v := 0) rfl ?_
                exact j_reti G dX0_readThing_185 (by first | exact ite_T ((tOk_1 (tx := tx) (ln := ln) (a := an) (K := 46) (lo := 1) (hi := 99) (tK_of (K := 46) c167) rfl rfl rfl (by omega)).mpr c177) | exact ite_F (fun z => c177 ((tOk_1 (tx := tx) (ln := ln) (a := an) (K := 46) (lo := 1) (hi := 99) (tK_of (K := 46) c167) rfl rfl rfl (by omega)).mp z)) | exact ite_F (fun z => by have a1 := tK_no (K := 116) (by omega) c6; have a2 := tK_no (K := 114) (by omega) c49; have a3 := tK_no (K := 104) (by omega) c66; have a4 := tK_no (K := 103) (by omega) c109; have a5 := tK_no (K := 102) (by omega) c151; have a6 := tK_no (K := 46) (by omega) c167; have a7 := z.1; omega)) (by first | exact dV_an (by rw [tEnd_1 (tx := tx) (ln := ln) (a := an) (K := 46) (lo := 1) (hi := 99) (tK_of (K := 46) c167) rfl rfl rfl (by omega) (by omega) (by omega)]) | (rw [if_neg c167, if_neg c167]; exact dV_an (by unfold tEnd; exact (if_neg (fun z => by have a1 := tK_no (K := 116) (by omega) c6; have a2 := tK_no (K := 114) (by omega) c49; have a3 := tK_no (K := 104) (by omega) c66; have a4 := tK_no (K := 103) (by omega) c109; have a5 := tK_no (K := 102) (by omega) c151; have a6 := tK_no (K := 46) (by omega) c167; have a7 := z; omega)).symm))) (kr0 _ _ ⟨46, (nV tx ln 1 99 (an + 1)), se, rfl, rfl, (fun z => by first | exact ⟨k0.symm, by unfold tFi; rw [k0]; rfl, fun z => absurd (by rw [k0]; rfl) z⟩ | exact absurd z (fun z => by have a1 := tK_no (K := 116) (by omega) c6; have a2 := tK_no (K := 114) (by omega) c49; have a3 := tK_no (K := 104) (by omega) c66; have a4 := tK_no (K := 103) (by omega) c109; have a5 := tK_no (K := 102) (by omega) c151; have a6 := tK_no (K := 46) (by omega) c167; have a7 := z.1; omega))⟩)
              · refine j_iconst G dX0_readThing_180 (v := 1) rfl ?_
                refine j_goto (tgt := 185) G dX0_readThing_181 (by decide) ?_
                exact j_reti G dX0_readThing_185 (by first | exact ite_T ((tOk_1 (tx := tx) (ln := ln) (a := an) (K := 46) (lo := 1) (hi := 99) (tK_of (K := 46) c167) rfl rfl rfl (by omega)).mpr c177) | exact ite_F (fun z => c177 ((tOk_1 (tx := tx) (ln := ln) (a := an) (K := 46) (lo := 1) (hi := 99) (tK_of (K := 46) c167) rfl rfl rfl (by omega)).mp z)) | exact ite_F (fun z => by have a1 := tK_no (K := 116) (by omega) c6; have a2 := tK_no (K := 114) (by omega) c49; have a3 := tK_no (K := 104) (by omega) c66; have a4 := tK_no (K := 103) (by omega) c109; have a5 := tK_no (K := 102) (by omega) c151; have a6 := tK_no (K := 46) (by omega) c167; have a7 := z.1; omega)) (by first | exact dV_an (by rw [tEnd_1 (tx := tx) (ln := ln) (a := an) (K := 46) (lo := 1) (hi := 99) (tK_of (K := 46) c167) rfl rfl rfl (by omega) (by omega) (by omega)]) | (rw [if_neg c167, if_neg c167]; exact dV_an (by unfold tEnd; exact (if_neg (fun z => by have a1 := tK_no (K := 116) (by omega) c6; have a2 := tK_no (K := 114) (by omega) c49; have a3 := tK_no (K := 104) (by omega) c66; have a4 := tK_no (K := 103) (by omega) c109; have a5 := tK_no (K := 102) (by omega) c151; have a6 := tK_no (K := 46) (by omega) c167; have a7 := z; omega)).symm))) (kr0 _ _ ⟨46, (nV tx ln 1 99 (an + 1)), se, rfl, rfl, (fun z => by first | exact ⟨k0.symm, by unfold tFi; rw [k0]; rfl, fun z => absurd (by rw [k0]; rfl) z⟩ | exact absurd z (fun z => by have a1 := tK_no (K := 116) (by omega) c6; have a2 := tK_no (K := 114) (by omega) c49; have a3 := tK_no (K := 104) (by omega) c66; have a4 := tK_no (K := 103) (by omega) c109; have a5 := tK_no (K := 102) (by omega) c151; have a6 := tK_no (K := 46) (by omega) c167; have a7 := z.1; omega))⟩)
          · rw [if_pos c151, if_pos c151]
            have k0 := tK_of (K := 102) c151
            refine j_aload_n G 0 dX0_readThing_154 rfl ?_
            refine j_iconst G dX0_readThing_155 (v := 0) rfl ?_
            refine j_iconst G dX0_readThing_156 (v := 2) rfl ?_
            refine j_callV (nA := 2) (As := [.int (jI 0), .int (jI 2)]) (st := []) (wc := (dV Y h q tx ln (an + 1) 102 fi se)) (wr := []) G (c_X0_readFirst l D Y h q tx ln (an + 1) 102 fi se 0 2 (by first | assumption | omega) (by first | assumption | omega) (by first | assumption | omega) (by first | assumption | omega) (by first | assumption | omega)) dX0_readThing_157 rfl gX0_readThing_X0_readFirst rfl rfl rfl (by decide +kernel) ⟨by decide, by decide⟩ rfl 0 rfl rfl rfl (jLe.nil (jLe.rf _)) (Nat.le_of_ble_eq_true rfl) ⟨Nat.zero_le _, Nat.zero_le _⟩ (fun v_ w_ hp_ => ?_)
            obtain ⟨rfl, rfl⟩ := hp_
            show J x 0 0 (dV Y h q tx ln (nP tx ln 0 2 (an + 1)) 102 (nV tx ln 0 2 (an + 1)) se) 160 [(0, .ref h)] [.int (jI (if ¬ nV tx ln 0 2 (an + 1) = -1 then 1 else 0))]
            exact j_reti G dX0_readThing_160 (by by_cases z : nV tx ln 0 2 (an + 1) = -1; rw [if_neg (fun y => y z), if_neg (fun y => ((tOk_1 (tx := tx) (ln := ln) (a := an) (K := 102) (lo := 0) (hi := 2) (tK_of (K := 102) c151) rfl rfl rfl (by omega)).mp y) z)]; rw [if_pos z, if_pos ((tOk_1 (tx := tx) (ln := ln) (a := an) (K := 102) (lo := 0) (hi := 2) (tK_of (K := 102) c151) rfl rfl rfl (by omega)).mpr z)]) (by exact dV_an (by rw [tEnd_1 (tx := tx) (ln := ln) (a := an) (K := 102) (lo := 0) (hi := 2) (tK_of (K := 102) c151) rfl rfl rfl (by omega) (by omega) (by omega)])) (kr0 _ _ ⟨102, (nV tx ln 0 2 (an + 1)), se, rfl, rfl, (fun _ => ⟨k0.symm, by unfold tFi; rw [k0]; rfl, fun z => absurd (by rw [k0]; rfl) z⟩)⟩)
        · rw [if_pos c109, if_pos c109]
          have k0 := tK_of (K := 103) c109
          have p0 := nP_b (tx := tx) (ln := ln) (lo := 0) (hi := 2) (a := an + 1) (by omega) (by omega)
          refine j_aload_n G 0 dX0_readThing_112 rfl ?_
          refine j_iconst G dX0_readThing_113 (v := 0) rfl ?_
          refine j_iconst G dX0_readThing_114 (v := 2) rfl ?_
          refine j_callV (nA := 2) (As := [.int (jI 0), .int (jI 2)]) (st := []) (wc := (dV Y h q tx ln (an + 1) 103 fi se)) (wr := []) G (c_X0_readFirst l D Y h q tx ln (an + 1) 103 fi se 0 2 (by first | assumption | omega) (by first | assumption | omega) (by first | assumption | omega) (by first | assumption | omega) (by first | assumption | omega)) dX0_readThing_115 rfl gX0_readThing_X0_readFirst rfl rfl rfl (by decide +kernel) ⟨by decide, by decide⟩ rfl 0 rfl rfl rfl (jLe.nil (jLe.rf _)) (Nat.le_of_ble_eq_true rfl) ⟨Nat.zero_le _, Nat.zero_le _⟩ (fun v_ w_ hp_ => ?_)
          obtain ⟨rfl, rfl⟩ := hp_
          show J x 0 0 (dV Y h q tx ln (nP tx ln 0 2 (an + 1)) 103 (nV tx ln 0 2 (an + 1)) se) 118 [(0, .ref h)] [.int (jI (if ¬ nV tx ln 0 2 (an + 1) = -1 then 1 else 0))]
          refine j_ifz_eq (tgt := 143) G dX0_readThing_118 (by decide) (fun c118 => ?_) (fun c118 => ?_)
          · refine j_iconst G dX0_readThing_143 (v := 0) rfl ?_
            exact j_reti G dX0_readThing_144 (by first | exact ite_T ((tOk_2 (tx := tx) (ln := ln) (a := an) (K := 103) (lo := 0) (hi := 2) (s := 62) (m := 63) (tK_of (K := 103) c109) rfl rfl rfl rfl (by omega) (by omega)).mpr ⟨c118, c127.1, c127.2, c136⟩) | exact ite_F (fun z => c118 ((tOk_2 (tx := tx) (ln := ln) (a := an) (K := 103) (lo := 0) (hi := 2) (s := 62) (m := 63) (tK_of (K := 103) c109) rfl rfl rfl rfl (by omega) (by omega)).mp z).1) | exact ite_F (fun z => c127 ⟨((tOk_2 (tx := tx) (ln := ln) (a := an) (K := 103) (lo := 0) (hi := 2) (s := 62) (m := 63) (tK_of (K := 103) c109) rfl rfl rfl rfl (by omega) (by omega)).mp z).2.1, ((tOk_2 (tx := tx) (ln := ln) (a := an) (K := 103) (lo := 0) (hi := 2) (s := 62) (m := 63) (tK_of (K := 103) c109) rfl rfl rfl rfl (by omega) (by omega)).mp z).2.2.1⟩) | exact ite_F (fun z => c136 ((tOk_2 (tx := tx) (ln := ln) (a := an) (K := 103) (lo := 0) (hi := 2) (s := 62) (m := 63) (tK_of (K := 103) c109) rfl rfl rfl rfl (by omega) (by omega)).mp z).2.2.2)) (by exact dV_an (by rw [tEnd_2 (tx := tx) (ln := ln) (a := an) (K := 103) (lo := 0) (hi := 2) (s := 62) (m := 63) (tK_of (K := 103) c109) rfl rfl rfl rfl (by omega) (by omega)]; first | (rw [if_neg c118, if_pos c127]; done) | (rw [if_pos (Classical.not_not.mp c118)]; exact p0.2.2.2 (Classical.not_not.mp c118)) | (rw [if_neg c118, if_neg c127, if_neg c127]; done))) (kr0 _ _ ⟨103, (nV tx ln 0 2 (an + 1)), se, rfl, rfl, (fun z => ⟨k0.symm, by unfold tFi; rw [k0]; rfl, fun _ => by first | (unfold tSe tP1; rw [k0]; rfl) | exact absurd ((tOk_2 (tx := tx) (ln := ln) (a := an) (K := 103) (lo := 0) (hi := 2) (s := 62) (m := 63) (tK_of (K := 103) c109) rfl rfl rfl rfl (by omega) (by omega)).mp z).1 c118 | exact absurd ⟨((tOk_2 (tx := tx) (ln := ln) (a := an) (K := 103) (lo := 0) (hi := 2) (s := 62) (m := 63) (tK_of (K := 103) c109) rfl rfl rfl rfl (by omega) (by omega)).mp z).2.1, ((tOk_2 (tx := tx) (ln := ln) (a := an) (K := 103) (lo := 0) (hi := 2) (s := 62) (m := 63) (tK_of (K := 103) c109) rfl rfl rfl rfl (by omega) (by omega)).mp z).2.2.1⟩ c127⟩)⟩)
          · refine j_aload_n G 0 dX0_readThing_121 rfl ?_
            refine j_bipush G dX0_readThing_122 (v := 62) rfl ?_
            refine j_callV (nA := 1) (As := [.int (jI 62)]) (st := []) (wc := (dV Y h q tx ln (nP tx ln 0 2 (an + 1)) 103 (nV tx ln 0 2 (an + 1)) se)) (wr := []) G (c_X0_readSign l D Y h q tx ln (nP tx ln 0 2 (an + 1)) 103 (nV tx ln 0 2 (an + 1)) se 62 (by first | assumption | omega) (by first | assumption | omega) (by first | assumption | omega) (by first | assumption | omega)) dX0_readThing_124 rfl gX0_readThing_X0_readSign rfl rfl rfl (by decide +kernel) ⟨by decide, by decide⟩ rfl 0 rfl rfl rfl (jLe.nil (jLe.rf _)) (Nat.le_of_ble_eq_true rfl) ⟨Nat.zero_le _, Nat.zero_le _⟩ (fun v_ w_ hp_ => ?_)
            obtain ⟨rfl, rfl⟩ := hp_
            show J x 0 0 (dV Y h q tx ln (if (nP tx ln 0 2 (an + 1)) < ln ∧ tx (nP tx ln 0 2 (an + 1)) = 62 then (nP tx ln 0 2 (an + 1)) + 1 else (nP tx ln 0 2 (an + 1))) 103 (nV tx ln 0 2 (an + 1)) se) 127 [(0, .ref h)] [.int (jI (if (nP tx ln 0 2 (an + 1)) < ln ∧ tx (nP tx ln 0 2 (an + 1)) = 62 then 1 else 0))]
            refine j_ifz_eq (tgt := 143) G dX0_readThing_127 (by decide) (fun c127 => ?_) (fun c127 => ?_)
            · refine j_iconst G dX0_readThing_143 (v := 0) rfl ?_
              exact j_reti G dX0_readThing_144 (by first | exact ite_T ((tOk_2 (tx := tx) (ln := ln) (a := an) (K := 103) (lo := 0) (hi := 2) (s := 62) (m := 63) (tK_of (K := 103) c109) rfl rfl rfl rfl (by omega) (by omega)).mpr ⟨c118, c127.1, c127.2, c136⟩) | exact ite_F (fun z => c118 ((tOk_2 (tx := tx) (ln := ln) (a := an) (K := 103) (lo := 0) (hi := 2) (s := 62) (m := 63) (tK_of (K := 103) c109) rfl rfl rfl rfl (by omega) (by omega)).mp z).1) | exact ite_F (fun z => c127 ⟨((tOk_2 (tx := tx) (ln := ln) (a := an) (K := 103) (lo := 0) (hi := 2) (s := 62) (m := 63) (tK_of (K := 103) c109) rfl rfl rfl rfl (by omega) (by omega)).mp z).2.1, ((tOk_2 (tx := tx) (ln := ln) (a := an) (K := 103) (lo := 0) (hi := 2) (s := 62) (m := 63) (tK_of (K := 103) c109) rfl rfl rfl rfl (by omega) (by omega)).mp z).2.2.1⟩) | exact ite_F (fun z => c136 ((tOk_2 (tx := tx) (ln := ln) (a := an) (K := 103) (lo := 0) (hi := 2) (s := 62) (m := 63) (tK_of (K := 103) c109) rfl rfl rfl rfl (by omega) (by omega)).mp z).2.2.2)) (by exact dV_an (by rw [tEnd_2 (tx := tx) (ln := ln) (a := an) (K := 103) (lo := 0) (hi := 2) (s := 62) (m := 63) (tK_of (K := 103) c109) rfl rfl rfl rfl (by omega) (by omega)]; first | (rw [if_neg c118, if_pos c127]; done) | (rw [if_pos (Classical.not_not.mp c118)]; exact p0.2.2.2 (Classical.not_not.mp c118)) | (rw [if_neg c118, if_neg c127, if_neg c127]; done))) (kr0 _ _ ⟨103, (nV tx ln 0 2 (an + 1)), se, rfl, rfl, (fun z => ⟨k0.symm, by unfold tFi; rw [k0]; rfl, fun _ => by first | (unfold tSe tP1; rw [k0]; rfl) | exact absurd ((tOk_2 (tx := tx) (ln := ln) (a := an) (K := 103) (lo := 0) (hi := 2) (s := 62) (m := 63) (tK_of (K := 103) c109) rfl rfl rfl rfl (by omega) (by omega)).mp z).1 c118 | exact absurd ⟨((tOk_2 (tx := tx) (ln := ln) (a := an) (K := 103) (lo := 0) (hi := 2) (s := 62) (m := 63) (tK_of (K := 103) c109) rfl rfl rfl rfl (by omega) (by omega)).mp z).2.1, ((tOk_2 (tx := tx) (ln := ln) (a := an) (K := 103) (lo := 0) (hi := 2) (s := 62) (m := 63) (tK_of (K := 103) c109) rfl rfl rfl rfl (by omega) (by omega)).mp z).2.2.1⟩ c127⟩)⟩)
            · rw [if_pos c127]
              have p1 := nP_b (tx := tx) (ln := ln) (lo := 0) (hi := 63) (a := nP tx ln 0 2 (an + 1) + 1) (by omega) (by omega)
              refine j_aload_n G 0 dX0_readThing_130 rfl ?_
              refine j_bipush G dX0_readThing_131 (v := 63) rfl ?_
              refine j_callV (nA := 1) (As := [.int (jI 63)]) (st := []) (wc := (dV Y h q tx ln (nP tx ln 0 2 (an + 1) + 1) 103 (nV tx ln 0 2 (an + 1)) se)) (wr := []) G (c_X0_readSecond l D Y h q tx ln (nP tx ln 0 2 (an + 1) + 1) 103 (nV tx ln 0 2 (an + 1)) se 63 (by first | assumption | omega) (by first | assumption | omega) (by first | assumption | omega) (by first | assumption | omega)) dX0_readThing_133 rfl gX0_readThing_X0_readSecond rfl rfl rfl (by decide +kernel) ⟨by decide, by decide⟩ rfl 0 rfl rfl rfl (jLe.nil (jLe.rf _)) (Nat.le_of_ble_eq_true rfl) ⟨Nat.zero_le _, Nat.zero_le _⟩ (fun v_ w_ hp_ => ?_)
              obtain ⟨rfl, rfl⟩ := hp_
              show J x 0 0 (dV Y h q tx ln (nP tx ln 0 63 (nP tx ln 0 2 (an + 1) + 1)) 103 (nV tx ln 0 2 (an + 1)) (nV tx ln 0 63 (nP tx ln 0 2 (an + 1) + 1))) 136 [(0, .ref h)] [.int (jI (if ¬ nV tx ln 0 63 (nP tx ln 0 2 (an + 1) + 1) = -1 then 1 else 0))]
              refine j_ifz_eq (tgt := 143) G dX0_readThing_136 (by decide) (fun c136 => ?_) (fun c136 => ?_)
              · refine j_iconst G dX0_readThing_143 (v := 0) rfl ?_
                exact j_reti G dX0_readThing_144 (by first | exact ite_T ((tOk_2 (tx := tx) (ln := ln) (a := an) (K := 103) (lo := 0) (hi := 2) (s := 62) (m := 63) (tK_of (K := 103) c109) rfl rfl rfl rfl (by omega) (by omega)).mpr ⟨c118, c127.1, c127.2, c136⟩) | exact ite_F (fun z => c118 ((tOk_2 (tx := tx) (ln := ln) (a := an) (K := 103) (lo := 0) (hi := 2) (s := 62) (m := 63) (tK_of (K := 103) c109) rfl rfl rfl rfl (by omega) (by omega)).mp z).1) | exact ite_F (fun z => c127 ⟨((tOk_2 (tx := tx) (ln := ln) (a := an) (K := 103) (lo := 0) (hi := 2) (s := 62) (m := 63) (tK_of (K := 103) c109) rfl rfl rfl rfl (by omega) (by omega)).mp z).2.1, ((tOk_2 (tx := tx) (ln := ln) (a := an) (K := 103) (lo := 0) (hi := 2) (s := 62) (m := 63) (tK_of (K := 103) c109) rfl rfl rfl rfl (by omega) (by omega)).mp z).2.2.1⟩) | exact ite_F (fun z => c136 ((tOk_2 (tx := tx) (ln := ln) (a := an) (K := 103) (lo := 0) (hi := 2) (s := 62) (m := 63) (tK_of (K := 103) c109) rfl rfl rfl rfl (by omega) (by omega)).mp z).2.2.2)) (by exact dV_an (by rw [tEnd_2 (tx := tx) (ln := ln) (a := an) (K := 103) (lo := 0) (hi := 2) (s := 62) (m := 63) (tK_of (K := 103) c109) rfl rfl rfl rfl (by omega) (by omega)]; first | (rw [if_neg c118, if_pos c127]; done) | (rw [if_pos (Classical.not_not.mp c118)]; exact p0.2.2.2 (Classical.not_not.mp c118)) | (rw [if_neg c118, if_neg c127, if_neg c127]; done))) (kr0 _ _ ⟨103, (nV tx ln 0 2 (an + 1)), (nV tx ln 0 63 (nP tx ln 0 2 (an + 1) + 1)), rfl, rfl, (fun z => ⟨k0.symm, by unfold tFi; rw [k0]; rfl, fun _ => by first | (unfold tSe tP1; rw [k0]; rfl) | exact absurd ((tOk_2 (tx := tx) (ln := ln) (a := an) (K := 103) (lo := 0) (hi := 2) (s := 62) (m := 63) (tK_of (K := 103) c109) rfl rfl rfl rfl (by omega) (by omega)).mp z).1 c118 | exact absurd ⟨((tOk_2 (tx := tx) (ln := ln) (a := an) (K := 103) (lo := 0) (hi := 2) (s := 62) (m := 63) (tK_of (K := 103) c109) rfl rfl rfl rfl (by omega) (by omega)).mp z).2.1, ((tOk_2 (tx := tx) (ln := ln) (a := an) (K := 103) (lo := 0) (hi := 2) (s := 62) (m := 63) (tK_of (K := 103) c109) rfl rfl rfl rfl (by omega) (by omega)).mp z).2.2.1⟩ c127⟩)⟩)
              · refine j_iconst G dX0_readThing_139 (v := 1) rfl ?_
                refine j_goto (tgt := 144) G dX0_readThing_140 (by decide) ?_
                exact j_reti G dX0_readThing_144 (by first | exact ite_T ((tOk_2 (tx := tx) (ln := ln) (a := an) (K := 103) (lo := 0) (hi := 2) (s := 62) (m := 63) (tK_of (K := 103) c109) rfl rfl rfl rfl (by omega) (by omega)).mpr ⟨c118, c127.1, c127.2, c136⟩) | exact ite_F (fun z => c118 ((tOk_2 (tx := tx) (ln := ln) (a := an) (K := 103) (lo := 0) (hi := 2) (s := 62) (m := 63) (tK_of (K := 103) c109) rfl rfl rfl rfl (by omega) (by omega)).mp z).1) | exact ite_F (fun z => c127 ⟨((tOk_2 (tx := tx) (ln := ln) (a := an) (K := 103) (lo := 0) (hi := 2) (s := 62) (m := 63) (tK_of (K := 103) c109) rfl rfl rfl rfl (by omega) (by omega)).mp z).2.1, ((tOk_2 (tx := tx) (ln := ln) (a := an) (K := 103) (lo := 0) (hi := 2) (s := 62) (m := 63) (tK_of (K := 103) c109) rfl rfl rfl rfl (by omega) (by omega)).mp z).2.2.1⟩) | exact ite_F (fun z => c136 ((tOk_2 (tx := tx) (ln := ln) (a := an) (K := 103) (lo := 0) (hi := 2) (s := 62) (m := 63) (tK_of (K := 103) c109) rfl rfl rfl rfl (by omega) (by omega)).mp z).2.2.2)) (by exact dV_an (by rw [tEnd_2 (tx := tx) (ln := ln) (a := an) (K := 103) (lo := 0) (hi := 2) (s := 62) (m := 63) (tK_of (K := 103) c109) rfl rfl rfl rfl (by omega) (by omega)]; first | (rw [if_neg c118, if_pos c127]; done) | (rw [if_pos (Classical.not_not.mp c118)]; exact p0.2.2.2 (Classical.not_not.mp c118)) | (rw [if_neg c118, if_neg c127, if_neg c127]; done))) (kr0 _ _ ⟨103, (nV tx ln 0 2 (an + 1)), (nV tx ln 0 63 (nP tx ln 0 2 (an + 1) + 1)), rfl, rfl, (fun z => ⟨k0.symm, by unfold tFi; rw [k0]; rfl, fun _ => by first | (unfold tSe tP1; rw [k0]; rfl) | exact absurd ((tOk_2 (tx := tx) (ln := ln) (a := an) (K := 103) (lo := 0) (hi := 2) (s := 62) (m := 63) (tK_of (K := 103) c109) rfl rfl rfl rfl (by omega) (by omega)).mp z).1 c118 | exact absurd ⟨((tOk_2 (tx := tx) (ln := ln) (a := an) (K := 103) (lo := 0) (hi := 2) (s := 62) (m := 63) (tK_of (K := 103) c109) rfl rfl rfl rfl (by omega) (by omega)).mp z).2.1, ((tOk_2 (tx := tx) (ln := ln) (a := an) (K := 103) (lo := 0) (hi := 2) (s := 62) (m := 63) (tK_of (K := 103) c109) rfl rfl rfl rfl (by omega) (by omega)).mp z).2.2.1⟩ c127⟩)⟩)
      · rw [if_pos c66, if_pos c66]
        have k0 := tK_of (K := 104) c66
        have p0 := nP_b (tx := tx) (ln := ln) (lo := 0) (hi := 7) (a := an + 1) (by omega) (by omega)
        refine j_aload_n G 0 dX0_readThing_69 rfl ?_
        refine j_iconst G dX0_readThing_70 (v := 0) rfl ?_
        refine j_bipush G dX0_readThing_71 (v := 7) rfl ?_
        refine j_callV (nA := 2) (As := [.int (jI 0), .int (jI 7)]) (st := []) (wc := (dV Y h q tx ln (an + 1) 104 fi se)) (wr := []) G (c_X0_readFirst l D Y h q tx ln (an + 1) 104 fi se 0 7 (by first | assumption | omega) (by first | assumption | omega) (by first | assumption | omega) (by first | assumption | omega) (by first | assumption | omega)) dX0_readThing_73 rfl gX0_readThing_X0_readFirst rfl rfl rfl (by decide +kernel) ⟨by decide, by decide⟩ rfl 0 rfl rfl rfl (jLe.nil (jLe.rf _)) (Nat.le_of_ble_eq_true rfl) ⟨Nat.zero_le _, Nat.zero_le _⟩ (fun v_ w_ hp_ => ?_)
        obtain ⟨rfl, rfl⟩ := hp_
        show J x 0 0 (dV Y h q tx ln (nP tx ln 0 7 (an + 1)) 104 (nV tx ln 0 7 (an + 1)) se) 76 [(0, .ref h)] [.int (jI (if ¬ nV tx ln 0 7 (an + 1) = -1 then 1 else 0))]
        refine j_ifz_eq (tgt := 101) G dX0_readThing_76 (by decide) (fun c76 => ?_) (fun c76 => ?_)
        · refine j_iconst G dX0_readThing_101 (v := 0) rfl ?_
          exact j_reti G dX0_readThing_102 (by first | exact ite_T ((tOk_2 (tx := tx) (ln := ln) (a := an) (K := 104) (lo := 0) (hi := 7) (s := 58) (m := 7) (tK_of (K := 104) c66) rfl rfl rfl rfl (by omega) (by omega)).mpr ⟨c76, c85.1, c85.2, c94⟩) | exact ite_F (fun z => c76 ((tOk_2 (tx := tx) (ln := ln) (a := an) (K := 104) (lo := 0) (hi := 7) (s := 58) (m := 7) (tK_of (K := 104) c66) rfl rfl rfl rfl (by omega) (by omega)).mp z).1) | exact ite_F (fun z => c85 ⟨((tOk_2 (tx := tx) (ln := ln) (a := an) (K := 104) (lo := 0) (hi := 7) (s := 58) (m := 7) (tK_of (K := 104) c66) rfl rfl rfl rfl (by omega) (by omega)).mp z).2.1, ((tOk_2 (tx := tx) (ln := ln) (a := an) (K := 104) (lo := 0) (hi := 7) (s := 58) (m := 7) (tK_of (K := 104) c66) rfl rfl rfl rfl (by omega) (by omega)).mp z).2.2.1⟩) | exact ite_F (fun z => c94 ((tOk_2 (tx := tx) (ln := ln) (a := an) (K := 104) (lo := 0) (hi := 7) (s := 58) (m := 7) (tK_of (K := 104) c66) rfl rfl rfl rfl (by omega) (by omega)).mp z).2.2.2)) (by exact dV_an (by rw [tEnd_2 (tx := tx) (ln := ln) (a := an) (K := 104) (lo := 0) (hi := 7) (s := 58) (m := 7) (tK_of (K := 104) c66) rfl rfl rfl rfl (by omega) (by omega)]; first | (rw [if_neg c76, if_pos c85]; done) | (rw [if_pos (Classical.not_not.mp c76)]; exact p0.2.2.2 (Classical.not_not.mp c76)) | (rw [if_neg c76, if_neg c85, if_neg c85]; done))) (kr0 _ _ ⟨104, (nV tx ln 0 7 (an + 1)), se, rfl, rfl, (fun z => ⟨k0.symm, by unfold tFi; rw [k0]; rfl, fun _ => by first | (unfold tSe tP1; rw [k0]; rfl) | exact absurd ((tOk_2 (tx := tx) (ln := ln) (a := an) (K := 104) (lo := 0) (hi := 7) (s := 58) (m := 7) (tK_of (K := 104) c66) rfl rfl rfl rfl (by omega) (by omega)).mp z).1 c76 | exact absurd ⟨((tOk_2 (tx := tx) (ln := ln) (a := an) (K := 104) (lo := 0) (hi := 7) (s := 58) (m := 7) (tK_of (K := 104) c66) rfl rfl rfl rfl (by omega) (by omega)).mp z).2.1, ((tOk_2 (tx := tx) (ln := ln) (a := an) (K := 104) (lo := 0) (hi := 7) (s := 58) (m := 7) (tK_of (K := 104) c66) rfl rfl rfl rfl (by omega) (by omega)).mp z).2.2.1⟩ c85⟩)⟩)
        · refine j_aload_n G 0 dX0_readThing_79 rfl ?_
          refine j_bipush G dX0_readThing_80 (v := 58) rfl ?_
          refine j_callV (nA := 1) (As := [.int (jI 58)]) (st := []) (wc := (dV Y h q tx ln (nP tx ln 0 7 (an + 1)) 104 (nV tx ln 0 7 (an + 1)) se)) (wr := []) G (c_X0_readSign l D Y h q tx ln (nP tx ln 0 7 (an + 1)) 104 (nV tx ln 0 7 (an + 1)) se 58 (by first | assumption | omega) (by first | assumption | omega) (by first | assumption | omega) (by first | assumption | omega)) dX0_readThing_82 rfl gX0_readThing_X0_readSign rfl rfl rfl (by decide +kernel) ⟨by decide, by decide⟩ rfl 0 rfl rfl rfl (jLe.nil (jLe.rf _)) (Nat.le_of_ble_eq_true rfl) ⟨Nat.zero_le _, Nat.zero_le _⟩ (fun v_ w_ hp_ => ?_)
          obtain ⟨rfl, rfl⟩ := hp_
          show J x 0 0 (dV Y h q tx ln (if (nP tx ln 0 7 (an + 1)) < ln ∧ tx (nP tx ln 0 7 (an + 1)) = 58 then (nP tx ln 0 7 (an + 1)) + 1 else (nP tx ln 0 7 (an + 1))) 104 (nV tx ln 0 7 (an + 1)) se) 85 [(0, .ref h)] [.int (jI (if (nP tx ln 0 7 (an + 1)) < ln ∧ tx (nP tx ln 0 7 (an + 1)) = 58 then 1 else 0))]
          refine j_ifz_eq (tgt := 101) G dX0_readThing_85 (by decide) (fun c85 => ?_) (fun c85 => ?_)
          · refine j_iconst G dX0_readThing_101 (v := 0) rfl ?_
            exact j_reti G dX0_readThing_102 (by first | exact ite_T ((tOk_2 (tx := tx) (ln := ln) (a := an) (K := 104) (lo := 0) (hi := 7) (s := 58) (m := 7) (tK_of (K := 104) c66) rfl rfl rfl rfl (by omega) (by omega)).mpr ⟨c76, c85.1, c85.2, c94⟩) | exact ite_F (fun z => c76 ((tOk_2 (tx := tx) (ln := ln) (a := an) (K := 104) (lo := 0) (hi := 7) (s := 58) (m := 7) (tK_of (K := 104) c66) rfl rfl rfl rfl (by omega) (by omega)).mp z).1) | exact ite_F (fun z => c85 ⟨((tOk_2 (tx := tx) (ln := ln) (a := an) (K := 104) (lo := 0) (hi := 7) (s := 58) (m := 7) (tK_of (K := 104) c66) rfl rfl rfl rfl (by omega) (by omega)).mp z).2.1, ((tOk_2 (tx := tx) (ln := ln) (a := an) (K := 104) (lo := 0) (hi := 7) (s := 58) (m := 7) (tK_of (K := 104) c66) rfl rfl rfl rfl (by omega) (by omega)).mp z).2.2.1⟩) | exact ite_F (fun z => c94 ((tOk_2 (tx := tx) (ln := ln) (a := an) (K := 104) (lo := 0) (hi := 7) (s := 58) (m := 7) (tK_of (K := 104) c66) rfl rfl rfl rfl (by omega) (by omega)).mp z).2.2.2)) (by exact dV_an (by rw [tEnd_2 (tx := tx) (ln := ln) (a := an) (K := 104) (lo := 0) (hi := 7) (s := 58) (m := 7) (tK_of (K := 104) c66) rfl rfl rfl rfl (by omega) (by omega)]; first | (rw [if_neg c76, if_pos c85]; done) | (rw [if_pos (Classical.not_not.mp c76)]; exact p0.2.2.2 (Classical.not_not.mp c76)) | (rw [if_neg c76, if_neg c85, if_neg c85]; done))) (kr0 _ _ ⟨104, (nV tx ln 0 7 (an + 1)), se, rfl, rfl, (fun z => ⟨k0.symm, by unfold tFi; rw [k0]; rfl, fun _ => by first | (unfold tSe tP1; rw [k0]; rfl) | exact absurd ((tOk_2 (tx := tx) (ln := ln) (a := an) (K := 104) (lo := 0) (hi := 7) (s := 58) (m := 7) (tK_of (K := 104) c66) rfl rfl rfl rfl (by omega) (by omega)).mp z).1 c76 | exact absurd ⟨((tOk_2 (tx := tx) (ln := ln) (a := an) (K := 104) (lo := 0) (hi := 7) (s := 58) (m := 7) (tK_of (K := 104) c66) rfl rfl rfl rfl (by omega) (by omega)).mp z).2.1, ((tOk_2 (tx := tx) (ln := ln) (a := an) (K := 104) (lo := 0) (hi := 7) (s := 58) (m := 7) (tK_of (K := 104) c66) rfl rfl rfl rfl (by omega) (by omega)).mp z).2.2.1⟩ c85⟩)⟩)
          · rw [if_pos c85]
            have p1 := nP_b (tx := tx) (ln := ln) (lo := 0) (hi := 7) (a := nP tx ln 0 7 (an + 1) + 1) (by omega) (by omega)
            refine j_aload_n G 0 dX0_readThing_88 rfl ?_
            refine j_bipush G dX0_readThing_89 (v := 7) rfl ?_
            refine j_callV (nA := 1) (As := [.int (jI 7)]) (st := []) (wc := (dV Y h q tx ln (nP tx ln 0 7 (an + 1) + 1) 104 (nV tx ln 0 7 (an + 1)) se)) (wr := []) G (c_X0_readSecond l D Y h q tx ln (nP tx ln 0 7 (an + 1) + 1) 104 (nV tx ln 0 7 (an + 1)) se 7 (by first | assumption | omega) (by first | assumption | omega) (by first | assumption | omega) (by first | assumption | omega)) dX0_readThing_91 rfl gX0_readThing_X0_readSecond rfl rfl rfl (by decide +kernel) ⟨by decide, by decide⟩ rfl 0 rfl rfl rfl (jLe.nil (jLe.rf _)) (Nat.le_of_ble_eq_true rfl) ⟨Nat.zero_le _, Nat.zero_le _⟩ (fun v_ w_ hp_ => ?_)
            obtain ⟨rfl, rfl⟩ := hp_
            show J x 0 0 (dV Y h q tx ln (nP tx ln 0 7 (nP tx ln 0 7 (an + 1) + 1)) 104 (nV tx ln 0 7 (an + 1)) (nV tx ln 0 7 (nP tx ln 0 7 (an + 1) + 1))) 94 [(0, .ref h)] [.int (jI (if ¬ nV tx ln 0 7 (nP tx ln 0 7 (an + 1) + 1) = -1 then 1 else 0))]
            refine j_ifz_eq (tgt := 101) G dX0_readThing_94 (by decide) (fun c94 => ?_) (fun c94 => ?_)
            · refine j_iconst G dX0_readThing_101 (v := 0) rfl ?_
              exact j_reti G dX0_readThing_102 (by first | exact ite_T ((tOk_2 (tx := tx) (ln := ln) (a := an) (K := 104) (lo := 0) (hi := 7) (s := 58) (m := 7) (tK_of (K := 104) c66) rfl rfl rfl rfl (by omega) (by omega)).mpr ⟨c76, c85.1, c85.2, c94⟩) | exact ite_F (fun z => c76 ((tOk_2 (tx := tx) (ln := ln) (a := an) (K := 104) (lo := 0) (hi := 7) (s := 58) (m := 7) (tK_of (K := 104) c66) rfl rfl rfl rfl (by omega) (by omega)).mp z).1) | exact ite_F (fun z => c85 ⟨((tOk_2 (tx := tx) (ln := ln) (a := an) (K := 104) (lo := 0) (hi := 7) (s := 58) (m := 7) (tK_of (K := 104) c66) rfl rfl rfl rfl (by omega) (by omega)).mp z).2.1, ((tOk_2 (tx := tx) (ln := ln) (a := an) (K := 104) (lo := 0) (hi := 7) (s := 58) (m := 7) (tK_of (K := 104) c66) rfl rfl rfl rfl (by omega) (by omega)).mp z).2.2.1⟩) | exact ite_F (fun z => c94 ((tOk_2 (tx := tx) (ln := ln) (a := an) (K := 104) (lo := 0) (hi := 7) (s := 58) (m := 7) (tK_of (K := 104) c66) rfl rfl rfl rfl (by omega) (by omega)).mp z).2.2.2)) (by exact dV_an (by rw [tEnd_2 (tx := tx) (ln := ln) (a := an) (K := 104) (lo := 0) (hi := 7) (s := 58) (m := 7) (tK_of (K := 104) c66) rfl rfl rfl rfl (by omega) (by omega)]; first | (rw [if_neg c76, if_pos c85]; done) | (rw [if_pos (Classical.not_not.mp c76)]; exact p0.2.2.2 (Classical.not_not.mp c76)) | (rw [if_neg c76, if_neg c85, if_neg c85]; done))) (kr0 _ _ ⟨104, (nV tx ln 0 7 (an + 1)), (nV tx ln 0 7 (nP tx ln 0 7 (an + 1) + 1)), rfl, rfl, (fun z => ⟨k0.symm, by unfold tFi; rw [k0]; rfl, fun _ => by first | (unfold tSe tP1; rw [k0]; rfl) | exact absurd ((tOk_2 (tx := tx) (ln := ln) (a := an) (K := 104) (lo := 0) (hi := 7) (s := 58) (m := 7) (tK_of (K := 104) c66) rfl rfl rfl rfl (by omega) (by omega)).mp z).1 c76 | exact absurd ⟨((tOk_2 (tx := tx) (ln := ln) (a := an) (K := 104) (lo := 0) (hi := 7) (s := 58) (m := 7) (tK_of (K := 104) c66) rfl rfl rfl rfl (by omega) (by omega)).mp z).2.1, ((tOk_2 (tx := tx) (ln := ln) (a := an) (K := 104) (lo := 0) (hi := 7) (s := 58) (m := 7) (tK_of (K := 104) c66) rfl rfl rfl rfl (by omega) (by omega)).mp z).2.2.1⟩ c85⟩)⟩)
            · refine j_iconst G dX0_readThing_97 (v := 1) rfl ?_
              refine j_goto (tgt := 102) G dX0_readThing_98 (by decide) ?_
              exact j_reti G dX0_readThing_102 (by first | exact ite_T ((tOk_2 (tx := tx) (ln := ln) (a := an) (K := 104) (lo := 0) (hi := 7) (s := 58) (m := 7) (tK_of (K := 104) c66) rfl rfl rfl rfl (by omega) (by omega)).mpr ⟨c76, c85.1, c85.2, c94⟩) | exact ite_F (fun z => c76 ((tOk_2 (tx := tx) (ln := ln) (a := an) (K := 104) (lo := 0) (hi := 7) (s := 58) (m := 7) (tK_of (K := 104) c66) rfl rfl rfl rfl (by omega) (by omega)).mp z).1) | exact ite_F (fun z => c85 ⟨((tOk_2 (tx := tx) (ln := ln) (a := an) (K := 104) (lo := 0) (hi := 7) (s := 58) (m := 7) (tK_of (K := 104) c66) rfl rfl rfl rfl (by omega) (by omega)).mp z).2.1, ((tOk_2 (tx := tx) (ln := ln) (a := an) (K := 104) (lo := 0) (hi := 7) (s := 58) (m := 7) (tK_of (K := 104) c66) rfl rfl rfl rfl (by omega) (by omega)).mp z).2.2.1⟩) | exact ite_F (fun z => c94 ((tOk_2 (tx := tx) (ln := ln) (a := an) (K := 104) (lo := 0) (hi := 7) (s := 58) (m := 7) (tK_of (K := 104) c66) rfl rfl rfl rfl (by omega) (by omega)).mp z).2.2.2)) (by exact dV_an (by rw [tEnd_2 (tx := tx) (ln := ln) (a := an) (K := 104) (lo := 0) (hi := 7) (s := 58) (m := 7) (tK_of (K := 104) c66) rfl rfl rfl rfl (by omega) (by omega)]; first | (rw [if_neg c76, if_pos c85]; done) | (rw [if_pos (Classical.not_not.mp c76)]; exact p0.2.2.2 (Classical.not_not.mp c76)) | (rw [if_neg c76, if_neg c85, if_neg c85]; done))) (kr0 _ _ ⟨104, (nV tx ln 0 7 (an + 1)), (nV tx ln 0 7 (nP tx ln 0 7 (an + 1) + 1)), rfl, rfl, (fun z => ⟨k0.symm, by unfold tFi; rw [k0]; rfl, fun _ => by first | (unfold tSe tP1; rw [k0]; rfl) | exact absurd ((tOk_2 (tx := tx) (ln := ln) (a := an) (K := 104) (lo := 0) (hi := 7) (s := 58) (m := 7) (tK_of (K := 104) c66) rfl rfl rfl rfl (by omega) (by omega)).mp z).1 c76 | exact absurd ⟨((tOk_2 (tx := tx) (ln := ln) (a := an) (K := 104) (lo := 0) (hi := 7) (s := 58) (m := 7) (tK_of (K := 104) c66) rfl rfl rfl rfl (by omega) (by omega)).mp z).2.1, ((tOk_2 (tx := tx) (ln := ln) (a := an) (K := 104) (lo := 0) (hi := 7) (s := 58) (m := 7) (tK_of (K := 104) c66) rfl rfl rfl rfl (by omega) (by omega)).mp z).2.2.1⟩ c85⟩)⟩)
    · rw [if_pos c49, if_pos c49]
      have k0 := tK_of (K := 114) c49
      refine j_aload_n G 0 dX0_readThing_52 rfl ?_
      refine j_iconst G dX0_readThing_53 (v := 1) rfl ?_
      refine j_bipush G dX0_readThing_54 (v := 9) rfl ?_
      refine j_callV (nA := 2) (As := [.int (jI 1), .int (jI 9)]) (st := []) (wc := (dV Y h q tx ln (an + 1) 114 fi se)) (wr := []) G (c_X0_readFirst l D Y h q tx ln (an + 1) 114 fi se 1 9 (by first | assumption | omega) (by first | assumption | omega) (by first | assumption | omega) (by first | assumption | omega) (by first | assumption | omega)) dX0_readThing_56 rfl gX0_readThing_X0_readFirst rfl rfl rfl (by decide +kernel) ⟨by decide, by decide⟩ rfl 0 rfl rfl rfl (jLe.nil (jLe.rf _)) (Nat.le_of_ble_eq_true rfl) ⟨Nat.zero_le _, Nat.zero_le _⟩ (fun v_ w_ hp_ => ?_)
      obtain ⟨rfl, rfl⟩ := hp_
      show J x 0 0 (dV Y h q tx ln (nP tx ln 1 9 (an + 1)) 114 (nV tx ln 1 9 (an + 1)) se) 59 [(0, .ref h)] [.int (jI (if ¬ nV tx ln 1 9 (an + 1) = -1 then 1 else 0))]
      exact j_reti G dX0_readThing_59 (by by_cases z : nV tx ln 1 9 (an + 1) = -1; rw [if_neg (fun y => y z), if_neg (fun y => ((tOk_1 (tx := tx) (ln := ln) (a := an) (K := 114) (lo := 1) (hi := 9) (tK_of (K := 114) c49) rfl rfl rfl (by omega)).mp y) z)]; rw [if_pos z, if_pos ((tOk_1 (tx := tx) (ln := ln) (a := an) (K := 114) (lo := 1) (hi := 9) (tK_of (K := 114) c49) rfl rfl rfl (by omega)).mpr z)]) (by exact dV_an (by rw [tEnd_1 (tx := tx) (ln := ln) (a := an) (K := 114) (lo := 1) (hi := 9) (tK_of (K := 114) c49) rfl rfl rfl (by omega) (by omega) (by omega)])) (kr0 _ _ ⟨114, (nV tx ln 1 9 (an + 1)), se, rfl, rfl, (fun _ => ⟨k0.symm, by unfold tFi; rw [k0]; rfl, fun z => absurd (by rw [k0]; rfl) z⟩)⟩)
  · rw [if_pos c6, if_pos c6]
    have k0 := tK_of (K := 116) c6
    have p0 := nP_b (tx := tx) (ln := ln) (lo := 0) (hi := 63) (a := an + 1) (by omega) (by omega)
    refine j_aload_n G 0 dX0_readThing_9 rfl ?_
    refine j_iconst G dX0_readThing_10 (v := 0) rfl ?_
    refine j_bipush G dX0_readThing_11 (v := 63) rfl ?_
    refine j_callV (nA := 2) (As := [.int (jI 0), .int (jI 63)]) (st := []) (wc := (dV Y h q tx ln (an + 1) 116 fi se)) (wr := []) G (c_X0_readFirst l D Y h q tx ln (an + 1) 116 fi se 0 63 (by first | assumption | omega) (by first | assumption | omega) (by first | assumption | omega) (by first | assumption | omega) (by first | assumption | omega)) dX0_readThing_13 rfl gX0_readThing_X0_readFirst rfl rfl rfl (by decide +kernel) ⟨by decide, by decide⟩ rfl 0 rfl rfl rfl (jLe.nil (jLe.rf _)) (Nat.le_of_ble_eq_true rfl) ⟨Nat.zero_le _, Nat.zero_le _⟩ (fun v_ w_ hp_ => ?_)
    obtain ⟨rfl, rfl⟩ := hp_
    show J x 0 0 (dV Y h q tx ln (nP tx ln 0 63 (an + 1)) 116 (nV tx ln 0 63 (an + 1)) se) 16 [(0, .ref h)] [.int (jI (if ¬ nV tx ln 0 63 (an + 1) = -1 then 1 else 0))]
    refine j_ifz_eq (tgt := 41) G dX0_readThing_16 (by decide) (fun c16 => ?_) (fun c16 => ?_)
    · refine j_iconst G dX0_readThing_41 (v := 0) rfl ?_
      exact j_reti G dX0_readThing_42 (by first | exact ite_T ((tOk_2 (tx := tx) (ln := ln) (a := an) (K := 116) (lo := 0) (hi := 63) (s := 61) (m := 99) (tK_of (K := 116) c6) rfl rfl rfl rfl (by omega) (by omega)).mpr ⟨c16, c25.1, c25.2, c34⟩) | exact ite_F (fun z => c16 ((tOk_2 (tx := tx) (ln := ln) (a := an) (K := 116) (lo := 0) (hi := 63) (s := 61) (m := 99) (tK_of (K := 116) c6) rfl rfl rfl rfl (by omega) (by omega)).mp z).1) | exact ite_F (fun z => c25 ⟨((tOk_2 (tx := tx) (ln := ln) (a := an) (K := 116) (lo := 0) (hi := 63) (s := 61) (m := 99) (tK_of (K := 116) c6) rfl rfl rfl rfl (by omega) (by omega)).mp z).2.1, ((tOk_2 (tx := tx) (ln := ln) (a := an) (K := 116) (lo := 0) (hi := 63) (s := 61) (m := 99) (tK_of (K := 116) c6) rfl rfl rfl rfl (by omega) (by omega)).mp z).2.2.1⟩) | exact ite_F (fun z => c34 ((tOk_2 (tx := tx) (ln := ln) (a := an) (K := 116) (lo := 0) (hi := 63) (s := 61) (m := 99) (tK_of (K := 116) c6) rfl rfl rfl rfl (by omega) (by omega)).mp z).2.2.2)) (by exact dV_an (by rw [tEnd_2 (tx := tx) (ln := ln) (a := an) (K := 116) (lo := 0) (hi := 63) (s := 61) (m := 99) (tK_of (K := 116) c6) rfl rfl rfl rfl (by omega) (by omega)]; first | (rw [if_neg c16, if_pos c25]; done) | (rw [if_pos (Classical.not_not.mp c16)]; exact p0.2.2.2 (Classical.not_not.mp c16)) | (rw [if_neg c16, if_neg c25, if_neg c25]; done))) (kr0 _ _ ⟨116, (nV tx ln 0 63 (an + 1)), se, rfl, rfl, (fun z => ⟨k0.symm, by unfold tFi; rw [k0]; rfl, fun _ => by first | (unfold tSe tP1; rw [k0]; rfl) | exact absurd ((tOk_2 (tx := tx) (ln := ln) (a := an) (K := 116) (lo := 0) (hi := 63) (s := 61) (m := 99) (tK_of (K := 116) c6) rfl rfl rfl rfl (by omega) (by omega)).mp z).1 c16 | exact absurd ⟨((tOk_2 (tx := tx) (ln := ln) (a := an) (K := 116) (lo := 0) (hi := 63) (s := 61) (m := 99) (tK_of (K := 116) c6) rfl rfl rfl rfl (by omega) (by omega)).mp z).2.1, ((tOk_2 (tx := tx) (ln := ln) (a := an) (K := 116) (lo := 0) (hi := 63) (s := 61) (m := 99) (tK_of (K := 116) c6) rfl rfl rfl rfl (by omega) (by omega)).mp z).2.2.1⟩ c25⟩)⟩)
    · refine j_aload_n G 0 dX0_readThing_19 rfl ?_
      refine j_bipush G dX0_readThing_20 (v := 61) rfl ?_
      refine j_callV (nA := 1) (As := [.int (jI 61)]) (st := []) (wc := (dV Y h q tx ln (nP tx ln 0 63 (an + 1)) 116 (nV tx ln 0 63 (an + 1)) se)) (wr := []) G (c_X0_readSign l D Y h q tx ln (nP tx ln 0 63 (an + 1)) 116 (nV tx ln 0 63 (an + 1)) se 61 (by first | assumption | omega) (by first | assumption | omega) (by first | assumption | omega) (by first | assumption | omega)) dX0_readThing_22 rfl gX0_readThing_X0_readSign rfl rfl rfl (by decide +kernel) ⟨by decide, by decide⟩ rfl 0 rfl rfl rfl (jLe.nil (jLe.rf _)) (Nat.le_of_ble_eq_true rfl) ⟨Nat.zero_le _, Nat.zero_le _⟩ (fun v_ w_ hp_ => ?_)
      obtain ⟨rfl, rfl⟩ := hp_
      show J x 0 0 (dV Y h q tx ln (if (nP tx ln 0 63 (an + 1)) < ln ∧ tx (nP tx ln 0 63 (an + 1)) = 61 then (nP tx ln 0 63 (an + 1)) + 1 else (nP tx ln 0 63 (an + 1))) 116 (nV tx ln 0 63 (an + 1)) se) 25 [(0, .ref h)] [.int (jI (if (nP tx ln 0 63 (an + 1)) < ln ∧ tx (nP tx ln 0 63 (an + 1)) = 61 then 1 else 0))]
      refine j_ifz_eq (tgt := 41) G dX0_readThing_25 (by decide) (fun c25 => ?_) (fun c25 => ?_)
      · refine j_iconst G dX0_readThing_41 (v := 0) rfl ?_
        exact j_reti G dX0_readThing_42 (by first | exact ite_T ((tOk_2 (tx := tx) (ln := ln) (a := an) (K := 116) (lo := 0) (hi := 63) (s := 61) (m := 99) (tK_of (K := 116) c6) rfl rfl rfl rfl (by omega) (by omega)).mpr ⟨c16, c25.1, c25.2, c34⟩) | exact ite_F (fun z => c16 ((tOk_2 (tx := tx) (ln := ln) (a := an) (K := 116) (lo := 0) (hi := 63) (s := 61) (m := 99) (tK_of (K := 116) c6) rfl rfl rfl rfl (by omega) (by omega)).mp z).1) | exact ite_F (fun z => c25 ⟨((tOk_2 (tx := tx) (ln := ln) (a := an) (K := 116) (lo := 0) (hi := 63) (s := 61) (m := 99) (tK_of (K := 116) c6) rfl rfl rfl rfl (by omega) (by omega)).mp z).2.1, ((tOk_2 (tx := tx) (ln := ln) (a := an) (K := 116) (lo := 0) (hi := 63) (s := 61) (m := 99) (tK_of (K := 116) c6) rfl rfl rfl rfl (by omega) (by omega)).mp z).2.2.1⟩) | exact ite_F (fun z => c34 ((tOk_2 (tx := tx) (ln := ln) (a := an) (K := 116) (lo := 0) (hi := 63) (s := 61) (m := 99) (tK_of (K := 116) c6) rfl rfl rfl rfl (by omega) (by omega)).mp z).2.2.2)) (by exact dV_an (by rw [tEnd_2 (tx := tx) (ln := ln) (a := an) (K := 116) (lo := 0) (hi := 63) (s := 61) (m := 99) (tK_of (K := 116) c6) rfl rfl rfl rfl (by omega) (by omega)]; first | (rw [if_neg c16, if_pos c25]; done) | (rw [if_pos (Classical.not_not.mp c16)]; exact p0.2.2.2 (Classical.not_not.mp c16)) | (rw [if_neg c16, if_neg c25, if_neg c25]; done))) (kr0 _ _ ⟨116, (nV tx ln 0 63 (an + 1)), se, rfl, rfl, (fun z => ⟨k0.symm, by unfold tFi; rw [k0]; rfl, fun _ => by first | (unfold tSe tP1; rw [k0]; rfl) | exact absurd ((tOk_2 (tx := tx) (ln := ln) (a := an) (K := 116) (lo := 0) (hi := 63) (s := 61) (m := 99) (tK_of (K := 116) c6) rfl rfl rfl rfl (by omega) (by omega)).mp z).1 c16 | exact absurd ⟨((tOk_2 (tx := tx) (ln := ln) (a := an) (K := 116) (lo := 0) (hi := 63) (s := 61) (m := 99) (tK_of (K := 116) c6) rfl rfl rfl rfl (by omega) (by omega)).mp z).2.1, ((tOk_2 (tx := tx) (ln := ln) (a := an) (K := 116) (lo := 0) (hi := 63) (s := 61) (m := 99) (tK_of (K := 116) c6) rfl rfl rfl rfl (by omega) (by omega)).mp z).2.2.1⟩ c25⟩)⟩)
      · rw [if_pos c25]
        have p1 := nP_b (tx := tx) (ln := ln) (lo := 0) (hi := 99) (a := nP tx ln 0 63 (an + 1) + 1) (by omega) (by omega)
        refine j_aload_n G 0 dX0_readThing_28 rfl ?_
        refine j_bipush G dX0_readThing_29 (v := 99) rfl ?_
        refine j_callV (nA := 1) (As := [.int (jI 99)]) (st := []) (wc := (dV Y h q tx ln (nP tx ln 0 63 (an + 1) + 1) 116 (nV tx ln 0 63 (an + 1)) se)) (wr := []) G (c_X0_readSecond l D Y h q tx ln (nP tx ln 0 63 (an + 1) + 1) 116 (nV tx ln 0 63 (an + 1)) se 99 (by first | assumption | omega) (by first | assumption | omega) (by first | assumption | omega) (by first | assumption | omega)) dX0_readThing_31 rfl gX0_readThing_X0_readSecond rfl rfl rfl (by decide +kernel) ⟨by decide, by decide⟩ rfl 0 rfl rfl rfl (jLe.nil (jLe.rf _)) (Nat.le_of_ble_eq_true rfl) ⟨Nat.zero_le _, Nat.zero_le _⟩ (fun v_ w_ hp_ => ?_)
        obtain ⟨rfl, rfl⟩ := hp_
        show J x 0 0 (dV Y h q tx ln (nP tx ln 0 99 (nP tx ln 0 63 (an + 1) + 1)) 116 (nV tx ln 0 63 (an + 1)) (nV tx ln 0 99 (nP tx ln 0 63 (an + 1) + 1))) 34 [(0, .ref h)] [.int (jI (if ¬ nV tx ln 0 99 (nP tx ln 0 63 (an + 1) + 1) = -1 then 1 else 0))]
        refine j_ifz_eq (tgt := 41) G dX0_readThing_34 (by decide) (fun c34 => ?_) (fun c34 => ?_)
        · refine j_iconst G dX0_readThing_41 (v := 0) rfl ?_
          exact j_reti G dX0_readThing_42 (by first | exact ite_T ((tOk_2 (tx := tx) (ln := ln) (a := an) (K := 116) (lo := 0) (hi := 63) (s := 61) (m := 99) (tK_of (K := 116) c6) rfl rfl rfl rfl (by omega) (by omega)).mpr ⟨c16, c25.1, c25.2, c34⟩) | exact ite_F (fun z => c16 ((tOk_2 (tx := tx) (ln := ln) (a := an) (K := 116) (lo := 0) (hi := 63) (s := 61) (m := 99) (tK_of (K := 116) c6) rfl rfl rfl rfl (by omega) (by omega)).mp z).1) | exact ite_F (fun z => c25 ⟨((tOk_2 (tx := tx) (ln := ln) (a := an) (K := 116) (lo := 0) (hi := 63) (s := 61) (m := 99) (tK_of (K := 116) c6) rfl rfl rfl rfl (by omega) (by omega)).mp z).2.1, ((tOk_2 (tx := tx) (ln := ln) (a := an) (K := 116) (lo := 0) (hi := 63) (s := 61) (m := 99) (tK_of (K := 116) c6) rfl rfl rfl rfl (by omega) (by omega)).mp z).2.2.1⟩) | exact ite_F (fun z => c34 ((tOk_2 (tx := tx) (ln := ln) (a := an) (K := 116) (lo := 0) (hi := 63) (s := 61) (m := 99) (tK_of (K := 116) c6) rfl rfl rfl rfl (by omega) (by omega)).mp z).2.2.2)) (by exact dV_an (by rw [tEnd_2 (tx := tx) (ln := ln) (a := an) (K := 116) (lo := 0) (hi := 63) (s := 61) (m := 99) (tK_of (K := 116) c6) rfl rfl rfl rfl (by omega) (by omega)]; first | (rw [if_neg c16, if_pos c25]; done) | (rw [if_pos (Classical.not_not.mp c16)]; exact p0.2.2.2 (Classical.not_not.mp c16)) | (rw [if_neg c16, if_neg c25, if_neg c25]; done))) (kr0 _ _ ⟨116, (nV tx ln 0 63 (an + 1)), (nV tx ln 0 99 (nP tx ln 0 63 (an + 1) + 1)), rfl, rfl, (fun z => ⟨k0.symm, by unfold tFi; rw [k0]; rfl, fun _ => by first | (unfold tSe tP1; rw [k0]; rfl) | exact absurd ((tOk_2 (tx := tx) (ln := ln) (a := an) (K := 116) (lo := 0) (hi := 63) (s := 61) (m := 99) (tK_of (K := 116) c6) rfl rfl rfl rfl (by omega) (by omega)).mp z).1 c16 | exact absurd ⟨((tOk_2 (tx := tx) (ln := ln) (a := an) (K := 116) (lo := 0) (hi := 63) (s := 61) (m := 99) (tK_of (K := 116) c6) rfl rfl rfl rfl (by omega) (by omega)).mp z).2.1, ((tOk_2 (tx := tx) (ln := ln) (a := an) (K := 116) (lo := 0) (hi := 63) (s := 61) (m := 99) (tK_of (K := 116) c6) rfl rfl rfl rfl (by omega) (by omega)).mp z).2.2.1⟩ c25⟩)⟩)
        · refine j_iconst G dX0_readThing_37 (v := 1) rfl ?_
          refine j_goto (tgt := 42) G dX0_readThing_38 (by decide) ?_
          exact j_reti G dX0_readThing_42 (by first | exact ite_T ((tOk_2 (tx := tx) (ln := ln) (a := an) (K := 116) (lo := 0) (hi := 63) (s := 61) (m := 99) (tK_of (K := 116) c6) rfl rfl rfl rfl (by omega) (by omega)).mpr ⟨c16, c25.1, c25.2, c34⟩) | exact ite_F (fun z => c16 ((tOk_2 (tx := tx) (ln := ln) (a := an) (K := 116) (lo := 0) (hi := 63) (s := 61) (m := 99) (tK_of (K := 116) c6) rfl rfl rfl rfl (by omega) (by omega)).mp z).1) | exact ite_F (fun z => c25 ⟨((tOk_2 (tx := tx) (ln := ln) (a := an) (K := 116) (lo := 0) (hi := 63) (s := 61) (m := 99) (tK_of (K := 116) c6) rfl rfl rfl rfl (by omega) (by omega)).mp z).2.1, ((tOk_2 (tx := tx) (ln := ln) (a := an) (K := 116) (lo := 0) (hi := 63) (s := 61) (m := 99) (tK_of (K := 116) c6) rfl rfl rfl rfl (by omega) (by omega)).mp z).2.2.1⟩) | exact ite_F (fun z => c34 ((tOk_2 (tx := tx) (ln := ln) (a := an) (K := 116) (lo := 0) (hi := 63) (s := 61) (m := 99) (tK_of (K := 116) c6) rfl rfl rfl rfl (by omega) (by omega)).mp z).2.2.2)) (by exact dV_an (by rw [tEnd_2 (tx := tx) (ln := ln) (a := an) (K := 116) (lo := 0) (hi := 63) (s := 61) (m := 99) (tK_of (K := 116) c6) rfl rfl rfl rfl (by omega) (by omega)]; first | (rw [if_neg c16, if_pos c25]; done) | (rw [if_pos (Classical.not_not.mp c16)]; exact p0.2.2.2 (Classical.not_not.mp c16)) | (rw [if_neg c16, if_neg c25, if_neg c25]; done))) (kr0 _ _ ⟨116, (nV tx ln 0 63 (an + 1)), (nV tx ln 0 99 (nP tx ln 0 63 (an + 1) + 1)), rfl, rfl, (fun z => ⟨k0.symm, by unfold tFi; rw [k0]; rfl, fun _ => by first | (unfold tSe tP1; rw [k0]; rfl) | exact absurd ((tOk_2 (tx := tx) (ln := ln) (a := an) (K := 116) (lo := 0) (hi := 63) (s := 61) (m := 99) (tK_of (K := 116) c6) rfl rfl rfl rfl (by omega) (by omega)).mp z).1 c16 | exact absurd ⟨((tOk_2 (tx := tx) (ln := ln) (a := an) (K := 116) (lo := 0) (hi := 63) (s := 61) (m := 99) (tK_of (K := 116) c6) rfl rfl rfl rfl (by omega) (by omega)).mp z).2.1, ((tOk_2 (tx := tx) (ln := ln) (a := an) (K := 116) (lo := 0) (hi := 63) (s := 61) (m := 99) (tK_of (K := 116) c6) rfl rfl rfl rfl (by omega) (by omega)).mp z).2.2.1⟩ c25⟩)⟩)

set_option maxHeartbeats 4000000 in
set_option maxRecDepth 100000 in
theorem c_X0_readNext (l : Launch) (D : va_G) (Y : Nat → ClassId) (h : Nat) (q : Nat) (tx : Int → Int) (ln : Int) (an : Int) (ki : Int) (fi : Int) (se : Int) (htx : ∀ j : Int, 0 ≤ j → j < 60 → 0 ≤ tx j ∧ tx j < 65536) (hln : 0 ≤ ln ∧ ln ≤ 60) (han : 0 ≤ an ∧ an ≤ ln) : jM l yX0_readNext wsX0_readNext { frames := 4, cells := 0, slots := 0, locals := 88 } D Y [.ref h] (dV Y h q tx ln an ki fi se) (fun v_ w_ => ∃ (ki2 : Int) (fi2 : Int) (se2 : Int), v_ = none ∧ w_ = (dV Y h q tx ln (tEnd tx ln (if an < ln ∧ tx an = 59 then an + 1 else an)) ki2 fi2 se2) ∧ (tOk tx ln (if an < ln ∧ tx an = 59 then an + 1 else an) → ki2 = tK tx ln (if an < ln ∧ tx an = 59 then an + 1 else an) ∧ fi2 = tFi tx ln (if an < ln ∧ tx an = 59 then an + 1 else an) ∧ (¬ sg (tK tx ln (if an < ln ∧ tx an = 59 then an + 1 else an)) = 0 → se2 = tSe tx ln (if an < ln ∧ tx an = 59 then an + 1 else an)))) 0 0 := by
  refine jM_of (cc := cX0_readNext) (maxL := 1) (ret := none) (by decide) rfl (Nat.le_of_ble_eq_true rfl) (fun v w' h => by obtain ⟨_, _, _, h⟩ := h; exact Or.inl ⟨rfl, h.1⟩) ?_
  intro x G kr0
  have G : jG x l D Y cX0_readNext RX0 wsX0_readNext 1 ({ frames := 4, cells := 0, slots := 0, locals := 88 } : Room) none "readNext" := G
  show J x 0 0 (dV Y h q tx ln an ki fi se) 0 [(0, .ref h)] []
  refine j_aload_n G 0 dX0_readNext_0 rfl ?_
  refine j_bipush G dX0_readNext_1 (v := 59) rfl ?_
  refine j_callV (nA := 1) (As := [.int (jI 59)]) (st := []) (wc := (dV Y h q tx ln an ki fi se)) (wr := []) G (c_X0_readSign l D Y h q tx ln an ki fi se 59 (by first | assumption | omega) (by first | assumption | omega) (by first | assumption | omega) (by first | assumption | omega)) dX0_readNext_3 rfl gX0_readNext_X0_readSign rfl rfl rfl (by decide +kernel) ⟨by decide, by decide⟩ rfl 0 rfl rfl rfl (jLe.nil (jLe.rf _)) (Nat.le_of_ble_eq_true rfl) ⟨Nat.zero_le _, Nat.zero_le _⟩ (fun v_ w_ hp_ => ?_)
  obtain ⟨rfl, rfl⟩ := hp_
  show J x 0 0 (dV Y h q tx ln (if an < ln ∧ tx an = 59 then an + 1 else an) ki fi se) 6 [(0, .ref h)] [.int (jI (if an < ln ∧ tx an = 59 then 1 else 0))]
  refine j_pop G dX0_readNext_6 rfl ?_
  refine j_aload_n G 0 dX0_readNext_7 rfl ?_
  refine j_callV (nA := 0) (As := []) (st := []) (wc := (dV Y h q tx ln (if an < ln ∧ tx an = 59 then an + 1 else an) ki fi se)) (wr := []) G (c_X0_readThing l D Y h q tx ln (if an < ln ∧ tx an = 59 then an + 1 else an) ki fi se (by first | assumption | omega) (by first | assumption | omega) (by split <;> omega)) dX0_readNext_8 rfl gX0_readNext_X0_readThing rfl rfl rfl (by decide +kernel) ⟨by decide, by decide⟩ rfl 0 rfl rfl rfl (jLe.nil (jLe.rf _)) (Nat.le_of_ble_eq_true rfl) ⟨Nat.zero_le _, Nat.zero_le _⟩ (fun v_ w_ hp_ => ?_)
  obtain ⟨ki2_1, fi2_2, se2_3, rfl, rfl, hx_4⟩ := hp_
  show J x 0 0 (dV Y h q tx ln (tEnd tx ln (if an < ln ∧ tx an = 59 then an + 1 else an)) ki2_1 fi2_2 se2_3) 11 [(0, .ref h)] [.int (jI (if tOk tx ln (if an < ln ∧ tx an = 59 then an + 1 else an) then 1 else 0))]
  refine j_pop G dX0_readNext_11 rfl ?_
  exact j_retv G dX0_readNext_12 (jLe.rf _) (kr0 _ _ ⟨ki2_1, fi2_2, se2_3, rfl, rfl, hx_4⟩)

set_option maxHeartbeats 4000000 in
set_option maxRecDepth 100000 in
theorem c_X0_countThings (l : Launch) (D : va_G) (Y : Nat → ClassId) (h : Nat) (q : Nat) (tx : Int → Int) (ln : Int) (an : Int) (ki : Int) (fi : Int) (se : Int) (htx : ∀ j : Int, 0 ≤ j → j < 60 → 0 ≤ tx j ∧ tx j < 65536) (hln : 0 ≤ ln ∧ ln ≤ 60) : jM l yX0_countThings wsX0_countThings { frames := 4, cells := 0, slots := 0, locals := 88 } D Y [.ref h] (dV Y h q tx ln an ki fi se) (fun v_ w_ => ∃ (an2 : Int) (ki2 : Int) (fi2 : Int) (se2 : Int), v_ = some (.int (jI (F_text tx ln))) ∧ w_ = (dV Y h q tx ln an2 ki2 fi2 se2)) 0 0 := by
  refine jM_of (cc := cX0_countThings) (maxL := 2) (ret := (some .int)) (by decide) rfl (Nat.le_of_ble_eq_true rfl) (fun v w' h => by obtain ⟨_, _, _, _, h⟩ := h; exact Or.inr (Or.inl ⟨_, _, rfl, h.1, rfl⟩)) ?_
  intro x G kr0
  have G : jG x l D Y cX0_countThings RX0 wsX0_countThings 2 ({ frames := 4, cells := 0, slots := 0, locals := 88 } : Room) (some .int) "countThings" := G
  have hinX0 : ∀ w ∈ wsX00, w ∈ wsX0_countThings := fun _ h => List.mem_cons_of_mem _ (List.mem_append_right _ h)
  show J x 0 0 (dV Y h q tx ln an ki fi se) 0 [(0, .ref h)] []
  refine j_aload_n G 0 dX0_countThings_0 rfl ?_
  refine j_callV (nA := 0) (As := []) (st := []) (wc := (dV Y h q tx ln an ki fi se)) (wr := []) G (c_X0_startOver l D Y h q tx ln an ki fi se ) dX0_countThings_1 rfl gX0_countThings_X0_startOver rfl rfl rfl (by decide +kernel) ⟨by decide, by decide⟩ rfl 0 rfl rfl rfl (jLe.nil (jLe.rf _)) (Nat.le_of_ble_eq_true rfl) ⟨Nat.zero_le _, Nat.zero_le _⟩ (fun v_ w_ hp_ => ?_)
  obtain ⟨rfl, rfl⟩ := hp_
  show J x 0 0 (dV Y h q tx ln 0 ki fi se) 4 [(0, .ref h)] []
  refine j_iconst G dX0_countThings_4 (v := 1) rfl ?_
  refine j_istore_n (lv' := [(1, .int (jI 1)), (0, .ref h)]) G dX0_countThings_5 (by decide) rfl ?_
  have lp6 : ∀ (n_ : Nat) (n : Int) (a : Int) (k1 : Int) (k2 : Int) (k3 : Int), (1 ≤ n) → (0 ≤ a ∧ a ≤ ln ∧ 3 * (n - 1) ≤ a) → (F_text tx ln = gT tx ln (40 - (n - 1)).toNat a (n - 1)) → (60 - a) < (n_ : Int) → J x 0 0 (dV Y h q tx ln a k1 k2 k3) 6 [(0, .ref h), (1, .int (jI n))] [] := by
    intro n_
    induction n_ with
    | zero =>
      intro n a k1 k2 k3 hn ha hF hm_
      exact absurd hm_ (by omega)
    | succ n_ ih6 =>
      intro n a k1 k2 k3 hn ha hF hm_
      refine j_iload_n G 1 dX0_countThings_6 rfl ?_
      refine j_bipush G dX0_countThings_7 (v := 60) rfl ?_
      refine j_icmp_gt (tgt := 50) G dX0_countThings_9 (by decide) (by omega) (by omega) (fun c9 => absurd c9 (by omega)) (fun c9 => ?_)
      refine j_aload_n G 0 dX0_countThings_12 rfl ?_
      refine j_callV (nA := 0) (As := []) (st := []) (wc := (dV Y h q tx ln a k1 k2 k3)) (wr := []) G (c_X0_readThing l D Y h q tx ln a k1 k2 k3 (by first | assumption | omega) (by first | assumption | omega) (by first | assumption | omega)) dX0_countThings_13 rfl gX0_countThings_X0_readThing rfl rfl rfl (by decide +kernel) ⟨by decide, by decide⟩ rfl 0 rfl rfl rfl (jLe.nil (jLe.rf _)) (Nat.le_of_ble_eq_true rfl) ⟨Nat.zero_le _, Nat.zero_le _⟩ (fun v_ w_ hp_ => ?_)
      obtain ⟨ki2_1, fi2_2, se2_3, rfl, rfl, hx_4⟩ := hp_
      show J x 0 0 (dV Y h q tx ln (tEnd tx ln a) ki2_1 fi2_2 se2_3) 16 [(0, .ref h), (1, .int (jI n))] [.int (jI (if tOk tx ln a then 1 else 0))]
      have e16 := tEnd_b (tx := tx) (ln := ln) (a := a) (by omega)
      refine j_ifz_eq (tgt := 50) G dX0_countThings_16 (by decide) (fun c16 => ?_) (fun c16 => ?_)
      · refine j_bipush G dX0_countThings_50 (v := (-100)) rfl ?_
        refine j_aload_n G 0 dX0_countThings_52 rfl ?_
        refine j_get (q := 2) (C := RX0) (T := TX0) (N := 6) (v := .int (jI (tEnd tx ln a))) G 0 hinX0 dX0_countThings_53 rfl rfl (by decide) (by decide +kernel) rfl ?_
        refine j_isub G dX0_countThings_56 ?_
        exact j_reti G dX0_countThings_57 (by rw [hF, show (40 - (n - 1)).toNat = (40 - n).toNat + 1 by omega, gT_S]; first | (rw [if_neg c16]; done) | (rw [if_pos c16, if_neg c27, if_neg c38]; done)) (jLe.rf _) (kr0 _ _ ⟨(tEnd tx ln a), ki2_1, fi2_2, se2_3, rfl, rfl⟩)
      · have e19 := tEnd_b (tx := tx) (ln := ln) (a := a) (by omega)
        have e20 := e19.2.2 c16
        refine j_aload_n G 0 dX0_countThings_19 rfl ?_
        refine j_get (q := 2) (C := RX0) (T := TX0) (N := 6) (v := .int (jI (tEnd tx ln a))) G 0 hinX0 dX0_countThings_20 rfl rfl (by decide) (by decide +kernel) rfl ?_
        refine j_aload_n G 0 dX0_countThings_23 rfl ?_
        refine j_get (q := 1) (C := RX0) (T := TX0) (N := 6) (v := .int (jI ln)) G 0 hinX0 dX0_countThings_24 rfl rfl (by decide) (by decide +kernel) rfl ?_
        refine j_icmp_ne (tgt := 32) G dX0_countThings_27 (by decide) (by omega) (by omega) (fun c27 => ?_) (fun c27 => ?_)
        · refine j_aload_n G 0 dX0_countThings_32 rfl ?_
          refine j_bipush G dX0_countThings_33 (v := 59) rfl ?_
          refine j_callV (nA := 1) (As := [.int (jI 59)]) (st := []) (wc := (dV Y h q tx ln (tEnd tx ln a) ki2_1 fi2_2 se2_3)) (wr := []) G (c_X0_readSign l D Y h q tx ln (tEnd tx ln a) ki2_1 fi2_2 se2_3 59 (by first | assumption | omega) (by first | assumption | omega) (by first | assumption | omega) (by first | assumption | omega)) dX0_countThings_35 rfl gX0_countThings_X0_readSign rfl rfl rfl (by decide +kernel) ⟨by decide, by decide⟩ rfl 0 rfl rfl rfl (jLe.nil (jLe.rf _)) (Nat.le_of_ble_eq_true rfl) ⟨Nat.zero_le _, Nat.zero_le _⟩ (fun v_ w_ hp_ => ?_)
          obtain ⟨rfl, rfl⟩ := hp_
          show J x 0 0 (dV Y h q tx ln (if (tEnd tx ln a) < ln ∧ tx (tEnd tx ln a) = 59 then (tEnd tx ln a) + 1 else (tEnd tx ln a)) ki2_1 fi2_2 se2_3) 38 [(0, .ref h), (1, .int (jI n))] [.int (jI (if (tEnd tx ln a) < ln ∧ tx (tEnd tx ln a) = 59 then 1 else 0))]
          refine j_ifz_ne (tgt := 44) G dX0_countThings_38 (by decide) (fun c38 => ?_) (fun c38 => ?_)
          · rw [if_pos c38]
            refine j_iinc (w := n + 1) (lv' := [(1, .int (jI (n + 1))), (0, .ref h)]) G 1 dX0_countThings_44 rfl rfl (by decide) rfl ?_
            refine j_goto (tgt := 6) G dX0_countThings_47 (by decide) ?_
            refine j_lv [1, 0] (lv' := [(0, .ref h), (1, .int (jI (n + 1)))]) rfl ?_
            exact ih6 (n + 1) (tEnd tx ln a + 1) ki2_1 fi2_2 se2_3 (by omega) (by omega) (by rw [hF, show (40 - (n - 1)).toNat = (40 - (n + 1 - 1)).toNat + 1 by omega, gT_S, if_pos c16, if_neg c27, if_pos c38, show n + 1 - 1 = n - 1 + 1 by omega]) (by omega)
          · rw [if_neg c38]
            refine j_goto (tgt := 50) G dX0_countThings_41 (by decide) ?_
            refine j_bipush G dX0_countThings_50 (v := (-100)) rfl ?_
            refine j_aload_n G 0 dX0_countThings_52 rfl ?_
            refine j_get (q := 2) (C := RX0) (T := TX0) (N := 6) (v := .int (jI (tEnd tx ln a))) G 0 hinX0 dX0_countThings_53 rfl rfl (by decide) (by decide +kernel) rfl ?_
            refine j_isub G dX0_countThings_56 ?_
            exact j_reti G dX0_countThings_57 (by rw [hF, show (40 - (n - 1)).toNat = (40 - n).toNat + 1 by omega, gT_S]; first | (rw [if_neg c16]; done) | (rw [if_pos c16, if_neg c27, if_neg c38]; done)) (jLe.rf _) (kr0 _ _ ⟨(tEnd tx ln a), ki2_1, fi2_2, se2_3, rfl, rfl⟩)
        · refine j_iload_n G 1 dX0_countThings_30 rfl ?_
          exact j_reti G dX0_countThings_31 (by rw [hF, show (40 - (n - 1)).toNat = (40 - n).toNat + 1 by omega, gT_S, if_pos c16, if_pos c27]; omega) (jLe.rf _) (kr0 _ _ ⟨(tEnd tx ln a), ki2_1, fi2_2, se2_3, rfl, rfl⟩)
  refine j_lv [1, 0] (lv' := [(0, .ref h), (1, .int (jI 1))]) rfl ?_
  exact lp6 (Int.toNat ((60 - 0) + 1)) 1 0 ki fi se (by omega) (by omega) (by rfl) (by omega)
