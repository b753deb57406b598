set_option maxHeartbeats 4000000 in
set_option maxRecDepth 100000 in
theorem c_X4_recorded (l : Launch) (D : va_G) (Y : Nat → ClassId) (h : Nat) (hw : Nat) (hb : Nat) (hs : Nat) (hh : Nat) (hp : Nat) (hd : Nat) (ik : Int) (sn : Int) (se : Int) (qb : Nat → Nat) (zb : Int → Int) (qh : Nat) (sz : Int) (a : Int) (A : Nat → Nat) (Q : Nat → Nat → Nat) (S : Nat → Int → Int) (hsz : 0 ≤ sz ∧ sz ≤ 4) (ha : -2147483648 ≤ a ∧ a < 2147483648) (hf2 : ∀ j : Int, 0 ≤ j → j < 64 → zb (156 + j) = 0 ∨ zb (156 + j) = 1) : jM l yX4_recorded wsX4_recorded { frames := 3, cells := 0, slots := 0, locals := 60 } D Y [.ref h, .int (jI a)] (sV Y h hw hb hs hh hp hd ik sn se ++ (wZ Y hb qb zb ++ (gV Y hh qh sz (r4 (A 0) (A 1) (A 2) (A 3)) ++ (wZ Y (A 0) (Q 0) (S 0) ++ (wZ Y (A 1) (Q 1) (S 1) ++ (wZ Y (A 2) (Q 2) (S 2) ++ (wZ Y (A 3) (Q 3) (S 3)))))))) (fun v_ w_ => ∃ (A2 : Nat → Nat) (Q2 : Nat → Nat → Nat), v_ = some (.int (jI a)) ∧ w_ = (sV Y h hw hb hs hh hp hd ik sn se ++ (wZ Y hb qb zb ++ (gV Y hh qh (hSz a sz) (r4 (A2 0) (A2 1) (A2 2) (A2 3)) ++ (wZ Y (A2 0) (Q2 0) (hSt a sz S zb 0) ++ (wZ Y (A2 1) (Q2 1) (hSt a sz S zb 1) ++ (wZ Y (A2 2) (Q2 2) (hSt a sz S zb 2) ++ (wZ Y (A2 3) (Q2 3) (hSt a sz S zb 3))))))))) 0 0 := by
  refine jM_of (cc := cX4_recorded) (maxL := 2) (ret := (some .int)) (by decide) rfl (Nat.le_of_ble_eq_true rfl) (fun v w' h => by obtain ⟨_, _, h⟩ := h; exact Or.inr (Or.inl ⟨_, _, rfl, h.1, rfl⟩)) ?_
  intro x G kr0
  have G : jG x l D Y cX4_recorded RX4 wsX4_recorded 2 ({ frames := 3, cells := 0, slots := 0, locals := 60 } : Room) (some .int) "recorded" := G
  have hinX4 : ∀ w ∈ wsX40, w ∈ wsX4_recorded := fun _ h => List.mem_cons_of_mem _ (List.mem_append_left _ (List.mem_append_left _ (List.mem_append_right _ h)))
  show J x 0 0 (sV Y h hw hb hs hh hp hd ik sn se ++ (wZ Y hb qb zb ++ (gV Y hh qh sz (r4 (A 0) (A 1) (A 2) (A 3)) ++ (wZ Y (A 0) (Q 0) (S 0) ++ (wZ Y (A 1) (Q 1) (S 1) ++ (wZ Y (A 2) (Q 2) (S 2) ++ (wZ Y (A 3) (Q 3) (S 3)))))))) 0 [(0, .ref h), (1, .int (jI a))] []
  refine j_iload_n G 1 dX4_recorded_0 rfl ?_
  refine j_if_lt (tgt := 15) G dX4_recorded_1 (by decide) (by omega) (fun c1 => ?_) (fun c1 => ?_)
  · refine j_iload_n G 1 dX4_recorded_15 rfl ?_
    exact j_reti G dX4_recorded_16 (by first | rfl | omega | exact ite_T (by omega) | exact ite_F (by omega)) (by first | (rw [show hSz a sz = sz from if_neg (by omega), show hSt a sz S zb = S from if_neg (by omega)]; exact jLe.rf _) | (rw [show hSz a sz = hUp sz from if_pos (by omega), show hSt a sz S zb = hPush sz S zb from if_pos (by omega)]; exact jLe.rf _)) (kr0 _ _ ⟨A, Q, rfl, rfl⟩)
  · refine j_aload_n G 0 dX4_recorded_4 rfl ?_
    refine j_get (q := 4) (C := RX4) (T := TX4) (N := 9) (v := .ref hh) G 0 hinX4 dX4_recorded_5 rfl rfl (by decide) (by decide +kernel) rfl ?_
    refine j_aload_n G 0 dX4_recorded_8 rfl ?_
    refine j_get (q := 1) (C := RX4) (T := TX4) (N := 9) (v := .ref hb) G 0 hinX4 dX4_recorded_9 rfl rfl (by decide) (by decide +kernel) rfl ?_
    refine j_callV (nA := 1) (As := [.ref hb]) (st := []) (wc := (gV Y hh qh sz (r4 (A 0) (A 1) (A 2) (A 3)) ++ (wZ Y (A 0) (Q 0) (S 0) ++ (wZ Y (A 1) (Q 1) (S 1) ++ (wZ Y (A 2) (Q 2) (S 2) ++ (wZ Y (A 3) (Q 3) (S 3) ++ (wZ Y hb qb zb))))))) (wr := (sV Y h hw hb hs hh hp hd ik sn se)) G (c_X1_push l D Y hh qh sz hb qb zb A Q S (by first | assumption | omega) (by first | assumption | omega)) dX4_recorded_12 rfl gX4_recorded_X1_push rfl rfl rfl (by decide +kernel) ⟨by decide, by decide⟩ rfl 0 rfl rfl rfl (jLe.pos [10, 11, 12, 13, 14, 15, 16, 17, 18, 19, 20, 21, 22, 23, 24, 25, 26, 27, 28, 29, 30, 31, 32, 33, 34, 35, 36, 37, 38, 39, 40, 41, 42, 43, 44, 45, 46, 47, 1, 2, 3, 4, 5, 6, 7, 8, 9, 0] rfl rfl) (Nat.le_of_ble_eq_true rfl) ⟨Nat.zero_le _, Nat.zero_le _⟩ (fun v_ w_ hp_ => ?_)
    obtain ⟨A2_1, Q2_2, rfl, rfl⟩ := hp_
    refine j_conv (ws' := sV Y h hw hb hs hh hp hd ik sn se ++ (wZ Y hb qb zb ++ (gV Y hh qh (hUp sz) (r4 (A2_1 0) (A2_1 1) (A2_1 2) (A2_1 3)) ++ (wZ Y (A2_1 0) (Q2_2 0) (hPush sz S zb 0) ++ (wZ Y (A2_1 1) (Q2_2 1) (hPush sz S zb 1) ++ (wZ Y (A2_1 2) (Q2_2 2) (hPush sz S zb 2) ++ (wZ Y (A2_1 3) (Q2_2 3) (hPush sz S zb 3)))))))) (jLe.pos [47, 38, 39, 40, 41, 42, 43, 44, 45, 46, 0, 1, 2, 3, 4, 5, 6, 7, 8, 9, 10, 11, 12, 13, 14, 15, 16, 17, 18, 19, 20, 21, 22, 23, 24, 25, 26, 27, 28, 29, 30, 31, 32, 33, 34, 35, 36, 37] rfl rfl) ?_
    show J x 0 0 (sV Y h hw hb hs hh hp hd ik sn se ++ (wZ Y hb qb zb ++ (gV Y hh qh (hUp sz) (r4 (A2_1 0) (A2_1 1) (A2_1 2) (A2_1 3)) ++ (wZ Y (A2_1 0) (Q2_2 0) (hPush sz S zb 0) ++ (wZ Y (A2_1 1) (Q2_2 1) (hPush sz S zb 1) ++ (wZ Y (A2_1 2) (Q2_2 2) (hPush sz S zb 2) ++ (wZ Y (A2_1 3) (Q2_2 3) (hPush sz S zb 3)))))))) 15 [(0, .ref h), (1, .int (jI a))] []
    refine j_iload_n G 1 dX4_recorded_15 rfl ?_
    exact j_reti G dX4_recorded_16 (by first | rfl | omega | exact ite_T (by omega) | exact ite_F (by omega)) (by first | (rw [show hSz a sz = sz from if_neg (by omega), show hSt a sz S zb = S from if_neg (by omega)]; exact jLe.rf _) | (rw [show hSz a sz = hUp sz from if_pos (by omega), show hSt a sz S zb = hPush sz S zb from if_pos (by omega)]; exact jLe.rf _)) (kr0 _ _ ⟨A2_1, Q2_2, rfl, rfl⟩)

set_option maxHeartbeats 4000000 in
set_option maxRecDepth 100000 in
theorem c_X4_pathsLeft (l : Launch) (D : va_G) (Y : Nat → ClassId) (h : Nat) (hw : Nat) (hb : Nat) (hs : Nat) (hh : Nat) (hp : Nat) (hd : Nat) (ik : Int) (sn : Int) (se : Int) (qw : Nat → Nat) (z : Int → Int) (qp : Nat → Nat) (ab : Int → Int) (be : Int → Int) (al : Int) (hI : Inv z) : jM l yX4_pathsLeft wsX4_pathsLeft { frames := 2, cells := 0, slots := 0, locals := 44 } D Y [.ref h] (sV Y h hw hb hs hh hp hd ik sn se ++ (wZ Y hw qw z ++ (pV Y hp qp ab be al))) (fun v_ w_ => v_ = some (.ref hp) ∧ w_ = (sV Y h hw hb hs hh hp hd ik sn se ++ (wZ Y hw qw z ++ (pT Y hp qp (tZ z))))) 0 0 := by
  refine jM_of (cc := cX4_pathsLeft) (maxL := 1) (ret := (some (.object "StormFelling$Paths"))) (by decide) rfl (Nat.le_of_ble_eq_true rfl) (fun v w' h => Or.inr (Or.inr ⟨_, _, rfl, h.1⟩)) ?_
  intro x G kr0
  have kr := kr0 _ _ ⟨rfl, rfl⟩
  have G : jG x l D Y cX4_pathsLeft RX4 wsX4_pathsLeft 1 ({ frames := 2, cells := 0, slots := 0, locals := 44 } : Room) (some (.object "StormFelling$Paths")) "pathsLeft" := G
  have hinX3 : ∀ w ∈ wsX30, w ∈ wsX4_pathsLeft := fun _ h => List.mem_cons_of_mem _ (List.mem_append_left _ (List.mem_append_right _ h))
  have hinX4 : ∀ w ∈ wsX40, w ∈ wsX4_pathsLeft := fun _ h => List.mem_cons_of_mem _ (List.mem_append_left _ (List.mem_append_left _ (List.mem_append_right _ h)))
  show J x 0 0 (sV Y h hw hb hs hh hp hd ik sn se ++ (wZ Y hw qw z ++ (pV Y hp qp ab be al))) 0 [(0, .ref h)] []
  refine j_aload_n G 0 dX4_pathsLeft_0 rfl ?_
  refine j_get (q := 5) (C := RX4) (T := TX4) (N := 9) (v := .ref hp) G 0 hinX4 dX4_pathsLeft_1 rfl rfl (by decide) (by decide +kernel) rfl ?_
  refine j_aload_n G 0 dX4_pathsLeft_4 rfl ?_
  refine j_get (q := 0) (C := RX4) (T := TX4) (N := 9) (v := .ref hw) G 0 hinX4 dX4_pathsLeft_5 rfl rfl (by decide) (by decide +kernel) rfl ?_
  refine j_getN (q := 7) (C := RX3) (T := TX3) (N := 13) (v := .ref (qw 6)) (host := "StormFelling") G 1 hinX3 dX4_pathsLeft_8 rfl rfl (by decide) (by decide +kernel) rfl ?_
  refine j_callV (nA := 1) (As := [.ref (qw 6)]) (st := []) (wc := (pV Y hp qp ab be al ++ ([aN Y (qw 6) 8 (fun j => z (7 + j))]))) (wr := [ob h 4 [.ref hw, .ref hb, .ref hs, .int (jI ik), .ref hh, .ref hp, .ref hd, .int (jI sn), .int (jI se)], ob hw 3 [.ref (qw 0), .ref (qw 1), .int (jI (z 92)), .ref (qw 2), .ref (qw 3), .ref (qw 4), .ref (qw 5), .ref (qw 6), .ref (qw 7), .int (jI (z 3)), .int (jI (z 4)), .int (jI (z 5)), .int (jI (z 6))], aN Y (qw 0) 64 (fun j => z (28 + j)), aZ Y (qw 1) 64 (fun j => z (156 + j)), aN Y (qw 2) 3 (fun j => z (15 + 4 * j)), aN Y (qw 3) 3 (fun j => z (16 + 4 * j)), aN Y (qw 4) 3 (fun j => z (17 + 4 * j)), aN Y (qw 5) 3 (fun j => z (18 + 4 * j)), aN Y (qw 7) 3 (fun j => z j)]) G (c_X2_follow l D Y hp qp ab be al (qw 6) (fun j => z (7 + j)) (by intro r a b; exact hI.tR r a b)) dX4_pathsLeft_11 rfl gX4_pathsLeft_X2_follow rfl rfl rfl (by decide +kernel) ⟨by decide, by decide⟩ rfl 0 rfl rfl rfl (jLe.pos [10, 11, 12, 8, 0, 1, 2, 3, 4, 5, 6, 7, 9] rfl rfl) (Nat.le_of_ble_eq_true rfl) ⟨Nat.zero_le _, Nat.zero_le _⟩ (fun v_ w_ hp_ => ?_)
  obtain ⟨rfl, rfl⟩ := hp_
  refine j_conv (ws' := sV Y h hw hb hs hh hp hd ik sn se ++ (wV Y hw qw (fun j => z (28 + j)) (fun j => z (156 + j)) (z 92) (fun j => z (15 + 4 * j)) (fun j => z (16 + 4 * j)) (fun j => z (17 + 4 * j)) (fun j => z (18 + 4 * j)) (fun j => z (7 + j)) (fun j => z j) (z 3) (z 4) (z 5) (z 6) ++ (pT Y hp qp (fun j => z (7 + j))))) (jLe.pos [4, 5, 6, 7, 8, 9, 10, 11, 3, 12, 0, 1, 2] rfl rfl) ?_
  show J x 0 0 (sV Y h hw hb hs hh hp hd ik sn se ++ (wV Y hw qw (fun j => z (28 + j)) (fun j => z (156 + j)) (z 92) (fun j => z (15 + 4 * j)) (fun j => z (16 + 4 * j)) (fun j => z (17 + 4 * j)) (fun j => z (18 + 4 * j)) (fun j => z (7 + j)) (fun j => z j) (z 3) (z 4) (z 5) (z 6) ++ (pT Y hp qp (fun j => z (7 + j))))) 14 [(0, .ref h)] []
  refine j_aload_n G 0 dX4_pathsLeft_14 rfl ?_
  refine j_get (q := 5) (C := RX4) (T := TX4) (N := 9) (v := .ref hp) G 0 hinX4 dX4_pathsLeft_15 rfl rfl (by decide) (by decide +kernel) rfl ?_
  exact j_reta G dX4_pathsLeft_18 (jLe.rf _) kr

set_option maxHeartbeats 4000000 in
set_option maxRecDepth 100000 in
theorem c_X4_grow (l : Launch) (D : va_G) (Y : Nat → ClassId) (h : Nat) (hw : Nat) (hb : Nat) (hs : Nat) (hh : Nat) (hp : Nat) (hd : Nat) (ik : Int) (sn : Int) (se : Int) (qw : Nat → Nat) (z : Int → Int) (qb : Nat → Nat) (zb : Int → Int) (qh : Nat) (sz : Int) (p : Int) (w : Int) (A : Nat → Nat) (Q : Nat → Nat → Nat) (S : Nat → Int → Int) (hI : Inv z) (hsz : 0 ≤ sz ∧ sz ≤ 4) (h_p : -2147483648 ≤ p ∧ p < 2147483648) (h_w : -2147483648 ≤ w ∧ w < 2147483648) : jM l yX4_grow wsX4_grow { frames := 4, cells := 0, slots := 0, locals := 81 } D Y [.ref h, .int (jI p), .int (jI w)] (sV Y h hw hb hs hh hp hd ik sn se ++ (wZ Y hw qw z ++ (wZ Y hb qb zb ++ (gV Y hh qh sz (r4 (A 0) (A 1) (A 2) (A 3)) ++ (wZ Y (A 0) (Q 0) (S 0) ++ (wZ Y (A 1) (Q 1) (S 1) ++ (wZ Y (A 2) (Q 2) (S 2) ++ (wZ Y (A 3) (Q 3) (S 3))))))))) (fun v_ w_ => ∃ (A2 : Nat → Nat) (Q2 : Nat → Nat → Nat), v_ = some (.int (jI (F_grow z p w))) ∧ w_ = (sV Y h hw hb hs hh hp hd ik sn se ++ (wZ Y hw qw (G_grow z p w) ++ (wZ Y hb qb z ++ (gV Y hh qh (hSz (F_grow z p w) sz) (r4 (A2 0) (A2 1) (A2 2) (A2 3)) ++ (wZ Y (A2 0) (Q2 0) (hSt (F_grow z p w) sz S z 0) ++ (wZ Y (A2 1) (Q2 1) (hSt (F_grow z p w) sz S z 1) ++ (wZ Y (A2 2) (Q2 2) (hSt (F_grow z p w) sz S z 2) ++ (wZ Y (A2 3) (Q2 3) (hSt (F_grow z p w) sz S z 3)))))))))) 0 0 := by
  refine jM_of (cc := cX4_grow) (maxL := 3) (ret := (some .int)) (by decide) rfl (Nat.le_of_ble_eq_true rfl) (fun v w' h => by obtain ⟨_, _, h⟩ := h; exact Or.inr (Or.inl ⟨_, _, rfl, h.1, rfl⟩)) ?_
  intro x G kr0
  have G : jG x l D Y cX4_grow RX4 wsX4_grow 3 ({ frames := 4, cells := 0, slots := 0, locals := 81 } : Room) (some .int) "grow" := G
  have hinX4 : ∀ w ∈ wsX40, w ∈ wsX4_grow := fun _ h => List.mem_cons_of_mem _ (List.mem_append_left _ (List.mem_append_left _ (List.mem_append_right _ h)))
  show J x 0 0 (sV Y h hw hb hs hh hp hd ik sn se ++ (wZ Y hw qw z ++ (wZ Y hb qb zb ++ (gV Y hh qh sz (r4 (A 0) (A 1) (A 2) (A 3)) ++ (wZ Y (A 0) (Q 0) (S 0) ++ (wZ Y (A 1) (Q 1) (S 1) ++ (wZ Y (A 2) (Q 2) (S 2) ++ (wZ Y (A 3) (Q 3) (S 3))))))))) 0 [(0, .ref h), (1, .int (jI p)), (2, .int (jI w))] []
  refine j_aload_n G 0 dX4_grow_0 rfl ?_
  refine j_get (q := 1) (C := RX4) (T := TX4) (N := 9) (v := .ref hb) G 0 hinX4 dX4_grow_1 rfl rfl (by decide) (by decide +kernel) rfl ?_
  refine j_aload_n G 0 dX4_grow_4 rfl ?_
  refine j_get (q := 0) (C := RX4) (T := TX4) (N := 9) (v := .ref hw) G 0 hinX4 dX4_grow_5 rfl rfl (by decide) (by decide +kernel) rfl ?_
  refine j_callV (nA := 1) (As := [.ref hw]) (st := []) (wc := (wZ Y hb qb zb ++ (wZ Y hw qw z))) (wr := (sV Y h hw hb hs hh hp hd ik sn se ++ (gV Y hh qh sz (r4 (A 0) (A 1) (A 2) (A 3)) ++ (wZ Y (A 0) (Q 0) (S 0) ++ (wZ Y (A 1) (Q 1) (S 1) ++ (wZ Y (A 2) (Q 2) (S 2) ++ (wZ Y (A 3) (Q 3) (S 3)))))))) G (c_X3_copyFromZ l D Y hb qb zb hw qw z (by first | assumption | exact hI.fe)) dX4_grow_8 rfl gX4_grow_X3_copyFrom rfl rfl rfl (by decide +kernel) ⟨by decide, by decide⟩ rfl 0 rfl rfl rfl (jLe.pos [10, 11, 12, 13, 14, 15, 16, 17, 18, 1, 2, 3, 4, 5, 6, 7, 8, 9, 0, 19, 20, 21, 22, 23, 24, 25, 26, 27, 28, 29, 30, 31, 32, 33, 34, 35, 36, 37, 38, 39, 40, 41, 42, 43, 44, 45, 46, 47, 48, 49, 50, 51, 52, 53, 54, 55, 56] rfl rfl) (Nat.le_of_ble_eq_true rfl) ⟨Nat.zero_le _, Nat.zero_le _⟩ (fun v_ w_ hp_ => ?_)
  obtain ⟨rfl, rfl⟩ := hp_
  refine j_conv (ws' := sV Y h hw hb hs hh hp hd ik sn se ++ (wZ Y hw qw z ++ (wZ Y hb qb z ++ (gV Y hh qh sz (r4 (A 0) (A 1) (A 2) (A 3)) ++ (wZ Y (A 0) (Q 0) (S 0) ++ (wZ Y (A 1) (Q 1) (S 1) ++ (wZ Y (A 2) (Q 2) (S 2) ++ (wZ Y (A 3) (Q 3) (S 3))))))))) (jLe.pos [18, 9, 10, 11, 12, 13, 14, 15, 16, 17, 0, 1, 2, 3, 4, 5, 6, 7, 8, 19, 20, 21, 22, 23, 24, 25, 26, 27, 28, 29, 30, 31, 32, 33, 34, 35, 36, 37, 38, 39, 40, 41, 42, 43, 44, 45, 46, 47, 48, 49, 50, 51, 52, 53, 54, 55, 56] rfl rfl) ?_
  show J x 0 0 (sV Y h hw hb hs hh hp hd ik sn se ++ (wZ Y hw qw z ++ (wZ Y hb qb z ++ (gV Y hh qh sz (r4 (A 0) (A 1) (A 2) (A 3)) ++ (wZ Y (A 0) (Q 0) (S 0) ++ (wZ Y (A 1) (Q 1) (S 1) ++ (wZ Y (A 2) (Q 2) (S 2) ++ (wZ Y (A 3) (Q 3) (S 3))))))))) 11 [(0, .ref h), (1, .int (jI p)), (2, .int (jI w))] []
  refine j_aload_n G 0 dX4_grow_11 rfl ?_
  refine j_aload_n G 0 dX4_grow_12 rfl ?_
  refine j_get (q := 0) (C := RX4) (T := TX4) (N := 9) (v := .ref hw) G 0 hinX4 dX4_grow_13 rfl rfl (by decide) (by decide +kernel) rfl ?_
  refine j_iload_n G 1 dX4_grow_16 rfl ?_
  refine j_iload_n G 2 dX4_grow_17 rfl ?_
  refine j_callV (nA := 2) (As := [.int (jI p), .int (jI w)]) (st := [.ref h]) (wc := (wZ Y hw qw z)) (wr := (sV Y h hw hb hs hh hp hd ik sn se ++ (wZ Y hb qb z ++ (gV Y hh qh sz (r4 (A 0) (A 1) (A 2) (A 3)) ++ (wZ Y (A 0) (Q 0) (S 0) ++ (wZ Y (A 1) (Q 1) (S 1) ++ (wZ Y (A 2) (Q 2) (S 2) ++ (wZ Y (A 3) (Q 3) (S 3))))))))) G (c_X3_plant l D Y hw qw z p w (by first | assumption | omega) (by first | assumption | omega) (by first | assumption | omega)) dX4_grow_18 rfl gX4_grow_X3_plant rfl rfl rfl (by decide +kernel) ⟨by decide, by decide⟩ rfl 0 rfl rfl rfl (jLe.pos [1, 2, 3, 4, 5, 6, 7, 8, 9, 0, 10, 11, 12, 13, 14, 15, 16, 17, 18, 19, 20, 21, 22, 23, 24, 25, 26, 27, 28, 29, 30, 31, 32, 33, 34, 35, 36, 37, 38, 39, 40, 41, 42, 43, 44, 45, 46, 47, 48, 49, 50, 51, 52, 53, 54, 55, 56] rfl rfl) (Nat.le_of_ble_eq_true rfl) ⟨Nat.zero_le _, Nat.zero_le _⟩ (fun v_ w_ hp_ => ?_)
  obtain ⟨rfl, rfl⟩ := hp_
  refine j_conv (ws' := sV Y h hw hb hs hh hp hd ik sn se ++ (wZ Y hw qw (G_grow z p w) ++ (wZ Y hb qb z ++ (gV Y hh qh sz (r4 (A 0) (A 1) (A 2) (A 3)) ++ (wZ Y (A 0) (Q 0) (S 0) ++ (wZ Y (A 1) (Q 1) (S 1) ++ (wZ Y (A 2) (Q 2) (S 2) ++ (wZ Y (A 3) (Q 3) (S 3))))))))) (jLe.pos [9, 0, 1, 2, 3, 4, 5, 6, 7, 8, 10, 11, 12, 13, 14, 15, 16, 17, 18, 19, 20, 21, 22, 23, 24, 25, 26, 27, 28, 29, 30, 31, 32, 33, 34, 35, 36, 37, 38, 39, 40, 41, 42, 43, 44, 45, 46, 47, 48, 49, 50, 51, 52, 53, 54, 55, 56] rfl rfl) ?_
  show J x 0 0 (sV Y h hw hb hs hh hp hd ik sn se ++ (wZ Y hw qw (G_grow z p w) ++ (wZ Y hb qb z ++ (gV Y hh qh sz (r4 (A 0) (A 1) (A 2) (A 3)) ++ (wZ Y (A 0) (Q 0) (S 0) ++ (wZ Y (A 1) (Q 1) (S 1) ++ (wZ Y (A 2) (Q 2) (S 2) ++ (wZ Y (A 3) (Q 3) (S 3))))))))) 21 [(0, .ref h), (1, .int (jI p)), (2, .int (jI w))] [.int (jI (F_grow z p w)), .ref h]
  refine j_callV (nA := 1) (As := [.int (jI (F_grow z p w))]) (st := []) (wc := (sV Y h hw hb hs hh hp hd ik sn se ++ (wZ Y hb qb z ++ (gV Y hh qh sz (r4 (A 0) (A 1) (A 2) (A 3)) ++ (wZ Y (A 0) (Q 0) (S 0) ++ (wZ Y (A 1) (Q 1) (S 1) ++ (wZ Y (A 2) (Q 2) (S 2) ++ (wZ Y (A 3) (Q 3) (S 3))))))))) (wr := (wZ Y hw qw (G_grow z p w))) G (c_X4_recorded l D Y h hw hb hs hh hp hd ik sn se qb z qh sz (F_grow z p w) A Q S (by first | assumption | omega) (by have := F_grow_b hI p w; omega) (by exact hI.fe)) dX4_grow_21 rfl gX4_grow_X4_recorded rfl rfl rfl (by decide +kernel) ⟨by decide, by decide⟩ rfl 0 rfl rfl rfl (jLe.pos [0, 10, 11, 12, 13, 14, 15, 16, 17, 18, 19, 20, 21, 22, 23, 24, 25, 26, 27, 28, 29, 30, 31, 32, 33, 34, 35, 36, 37, 38, 39, 40, 41, 42, 43, 44, 45, 46, 47, 48, 49, 50, 51, 52, 53, 54, 55, 56, 1, 2, 3, 4, 5, 6, 7, 8, 9] rfl rfl) (Nat.le_of_ble_eq_true rfl) ⟨Nat.zero_le _, Nat.zero_le _⟩ (fun v_ w_ hp_ => ?_)
  obtain ⟨A2_1, Q2_2, rfl, rfl⟩ := hp_
  refine j_conv (ws' := sV Y h hw hb hs hh hp hd ik sn se ++ (wZ Y hw qw (G_grow z p w) ++ (wZ Y hb qb z ++ (gV Y hh qh (hSz (F_grow z p w) sz) (r4 (A2_1 0) (A2_1 1) (A2_1 2) (A2_1 3)) ++ (wZ Y (A2_1 0) (Q2_2 0) (hSt (F_grow z p w) sz S z 0) ++ (wZ Y (A2_1 1) (Q2_2 1) (hSt (F_grow z p w) sz S z 1) ++ (wZ Y (A2_1 2) (Q2_2 2) (hSt (F_grow z p w) sz S z 2) ++ (wZ Y (A2_1 3) (Q2_2 3) (hSt (F_grow z p w) sz S z 3))))))))) (jLe.pos [0, 48, 49, 50, 51, 52, 53, 54, 55, 56, 1, 2, 3, 4, 5, 6, 7, 8, 9, 10, 11, 12, 13, 14, 15, 16, 17, 18, 19, 20, 21, 22, 23, 24, 25, 26, 27, 28, 29, 30, 31, 32, 33, 34, 35, 36, 37, 38, 39, 40, 41, 42, 43, 44, 45, 46, 47] rfl rfl) ?_
  show J x 0 0 (sV Y h hw hb hs hh hp hd ik sn se ++ (wZ Y hw qw (G_grow z p w) ++ (wZ Y hb qb z ++ (gV Y hh qh (hSz (F_grow z p w) sz) (r4 (A2_1 0) (A2_1 1) (A2_1 2) (A2_1 3)) ++ (wZ Y (A2_1 0) (Q2_2 0) (hSt (F_grow z p w) sz S z 0) ++ (wZ Y (A2_1 1) (Q2_2 1) (hSt (F_grow z p w) sz S z 1) ++ (wZ Y (A2_1 2) (Q2_2 2) (hSt (F_grow z p w) sz S z 2) ++ (wZ Y (A2_1 3) (Q2_2 3) (hSt (F_grow z p w) sz S z 3))))))))) 24 [(0, .ref h), (1, .int (jI p)), (2, .int (jI w))] [.int (jI (F_grow z p w))]
  exact j_reti G dX4_grow_24 (by first | rfl | omega | exact ite_T (by omega) | exact ite_F (by omega)) (jLe.rf _) (kr0 _ _ ⟨A2_1, Q2_2, rfl, rfl⟩)

set_option maxHeartbeats 4000000 in
set_option maxRecDepth 100000 in
theorem c_X4_rain (l : Launch) (D : va_G) (Y : Nat → ClassId) (h : Nat) (hw : Nat) (hb : Nat) (hs : Nat) (hh : Nat) (hp : Nat) (hd : Nat) (ik : Int) (sn : Int) (se : Int) (qw : Nat → Nat) (z : Int → Int) (qb : Nat → Nat) (zb : Int → Int) (qh : Nat) (sz : Int) (m : Int) (A : Nat → Nat) (Q : Nat → Nat → Nat) (S : Nat → Int → Int) (hI : Inv z) (hsz : 0 ≤ sz ∧ sz ≤ 4) (h_m : -2147483648 ≤ m ∧ m < 2147483648) : jM l yX4_rain wsX4_rain { frames := 4, cells := 0, slots := 0, locals := 81 } D Y [.ref h, .int (jI m)] (sV Y h hw hb hs hh hp hd ik sn se ++ (wZ Y hw qw z ++ (wZ Y hb qb zb ++ (gV Y hh qh sz (r4 (A 0) (A 1) (A 2) (A 3)) ++ (wZ Y (A 0) (Q 0) (S 0) ++ (wZ Y (A 1) (Q 1) (S 1) ++ (wZ Y (A 2) (Q 2) (S 2) ++ (wZ Y (A 3) (Q 3) (S 3))))))))) (fun v_ w_ => ∃ (A2 : Nat → Nat) (Q2 : Nat → Nat → Nat), v_ = some (.int (jI (F_rain z m))) ∧ w_ = (sV Y h hw hb hs hh hp hd ik sn se ++ (wZ Y hw qw (G_rain z m) ++ (wZ Y hb qb z ++ (gV Y hh qh (hSz (F_rain z m) sz) (r4 (A2 0) (A2 1) (A2 2) (A2 3)) ++ (wZ Y (A2 0) (Q2 0) (hSt (F_rain z m) sz S z 0) ++ (wZ Y (A2 1) (Q2 1) (hSt (F_rain z m) sz S z 1) ++ (wZ Y (A2 2) (Q2 2) (hSt (F_rain z m) sz S z 2) ++ (wZ Y (A2 3) (Q2 3) (hSt (F_rain z m) sz S z 3)))))))))) 0 0 := by
  refine jM_of (cc := cX4_rain) (maxL := 2) (ret := (some .int)) (by decide) rfl (Nat.le_of_ble_eq_true rfl) (fun v w' h => by obtain ⟨_, _, h⟩ := h; exact Or.inr (Or.inl ⟨_, _, rfl, h.1, rfl⟩)) ?_
  intro x G kr0
  have G : jG x l D Y cX4_rain RX4 wsX4_rain 2 ({ frames := 4, cells := 0, slots := 0, locals := 81 } : Room) (some .int) "rain" := G
  have hinX4 : ∀ w ∈ wsX40, w ∈ wsX4_rain := fun _ h => List.mem_cons_of_mem _ (List.mem_append_left _ (List.mem_append_left _ (List.mem_append_right _ h)))
  show J x 0 0 (sV Y h hw hb hs hh hp hd ik sn se ++ (wZ Y hw qw z ++ (wZ Y hb qb zb ++ (gV Y hh qh sz (r4 (A 0) (A 1) (A 2) (A 3)) ++ (wZ Y (A 0) (Q 0) (S 0) ++ (wZ Y (A 1) (Q 1) (S 1) ++ (wZ Y (A 2) (Q 2) (S 2) ++ (wZ Y (A 3) (Q 3) (S 3))))))))) 0 [(0, .ref h), (1, .int (jI m))] []
  refine j_aload_n G 0 dX4_rain_0 rfl ?_
  refine j_get (q := 1) (C := RX4) (T := TX4) (N := 9) (v := .ref hb) G 0 hinX4 dX4_rain_1 rfl rfl (by decide) (by decide +kernel) rfl ?_
  refine j_aload_n G 0 dX4_rain_4 rfl ?_
  refine j_get (q := 0) (C := RX4) (T := TX4) (N := 9) (v := .ref hw) G 0 hinX4 dX4_rain_5 rfl rfl (by decide) (by decide +kernel) rfl ?_
  refine j_callV (nA := 1) (As := [.ref hw]) (st := []) (wc := (wZ Y hb qb zb ++ (wZ Y hw qw z))) (wr := (sV Y h hw hb hs hh hp hd ik sn se ++ (gV Y hh qh sz (r4 (A 0) (A 1) (A 2) (A 3)) ++ (wZ Y (A 0) (Q 0) (S 0) ++ (wZ Y (A 1) (Q 1) (S 1) ++ (wZ Y (A 2) (Q 2) (S 2) ++ (wZ Y (A 3) (Q 3) (S 3)))))))) G (c_X3_copyFromZ l D Y hb qb zb hw qw z (by first | assumption | exact hI.fe)) dX4_rain_8 rfl gX4_rain_X3_copyFrom rfl rfl rfl (by decide +kernel) ⟨by decide, by decide⟩ rfl 0 rfl rfl rfl (jLe.pos [10, 11, 12, 13, 14, 15, 16, 17, 18, 1, 2, 3, 4, 5, 6, 7, 8, 9, 0, 19, 20, 21, 22, 23, 24, 25, 26, 27, 28, 29, 30, 31, 32, 33, 34, 35, 36, 37, 38, 39, 40, 41, 42, 43, 44, 45, 46, 47, 48, 49, 50, 51, 52, 53, 54, 55, 56] rfl rfl) (Nat.le_of_ble_eq_true rfl) ⟨Nat.zero_le _, Nat.zero_le _⟩ (fun v_ w_ hp_ => ?_)
  obtain ⟨rfl, rfl⟩ := hp_
  refine j_conv (ws' := sV Y h hw hb hs hh hp hd ik sn se ++ (wZ Y hw qw z ++ (wZ Y hb qb z ++ (gV Y hh qh sz (r4 (A 0) (A 1) (A 2) (A 3)) ++ (wZ Y (A 0) (Q 0) (S 0) ++ (wZ Y (A 1) (Q 1) (S 1) ++ (wZ Y (A 2) (Q 2) (S 2) ++ (wZ Y (A 3) (Q 3) (S 3))))))))) (jLe.pos [18, 9, 10, 11, 12, 13, 14, 15, 16, 17, 0, 1, 2, 3, 4, 5, 6, 7, 8, 19, 20, 21, 22, 23, 24, 25, 26, 27, 28, 29, 30, 31, 32, 33, 34, 35, 36, 37, 38, 39, 40, 41, 42, 43, 44, 45, 46, 47, 48, 49, 50, 51, 52, 53, 54, 55, 56] rfl rfl) ?_
  show J x 0 0 (sV Y h hw hb hs hh hp hd ik sn se ++ (wZ Y hw qw z ++ (wZ Y hb qb z ++ (gV Y hh qh sz (r4 (A 0) (A 1) (A 2) (A 3)) ++ (wZ Y (A 0) (Q 0) (S 0) ++ (wZ Y (A 1) (Q 1) (S 1) ++ (wZ Y (A 2) (Q 2) (S 2) ++ (wZ Y (A 3) (Q 3) (S 3))))))))) 11 [(0, .ref h), (1, .int (jI m))] []
  refine j_aload_n G 0 dX4_rain_11 rfl ?_
  refine j_aload_n G 0 dX4_rain_12 rfl ?_
  refine j_get (q := 0) (C := RX4) (T := TX4) (N := 9) (v := .ref hw) G 0 hinX4 dX4_rain_13 rfl rfl (by decide) (by decide +kernel) rfl ?_
  refine j_iload_n G 1 dX4_rain_16 rfl ?_
  refine j_callV (nA := 1) (As := [.int (jI m)]) (st := [.ref h]) (wc := (wZ Y hw qw z)) (wr := (sV Y h hw hb hs hh hp hd ik sn se ++ (wZ Y hb qb z ++ (gV Y hh qh sz (r4 (A 0) (A 1) (A 2) (A 3)) ++ (wZ Y (A 0) (Q 0) (S 0) ++ (wZ Y (A 1) (Q 1) (S 1) ++ (wZ Y (A 2) (Q 2) (S 2) ++ (wZ Y (A 3) (Q 3) (S 3))))))))) G (c_X3_getWet l D Y hw qw z m (by first | assumption | omega) (by first | assumption | omega)) dX4_rain_17 rfl gX4_rain_X3_getWet rfl rfl rfl (by decide +kernel) ⟨by decide, by decide⟩ rfl 0 rfl rfl rfl (jLe.pos [1, 2, 3, 4, 5, 6, 7, 8, 9, 0, 10, 11, 12, 13, 14, 15, 16, 17, 18, 19, 20, 21, 22, 23, 24, 25, 26, 27, 28, 29, 30, 31, 32, 33, 34, 35, 36, 37, 38, 39, 40, 41, 42, 43, 44, 45, 46, 47, 48, 49, 50, 51, 52, 53, 54, 55, 56] rfl rfl) (Nat.le_of_ble_eq_true rfl) ⟨Nat.zero_le _, Nat.zero_le _⟩ (fun v_ w_ hp_ => ?_)
  obtain ⟨rfl, rfl⟩ := hp_
  refine j_conv (ws' := sV Y h hw hb hs hh hp hd ik sn se ++ (wZ Y hw qw (G_rain z m) ++ (wZ Y hb qb z ++ (gV Y hh qh sz (r4 (A 0) (A 1) (A 2) (A 3)) ++ (wZ Y (A 0) (Q 0) (S 0) ++ (wZ Y (A 1) (Q 1) (S 1) ++ (wZ Y (A 2) (Q 2) (S 2) ++ (wZ Y (A 3) (Q 3) (S 3))))))))) (jLe.pos [9, 0, 1, 2, 3, 4, 5, 6, 7, 8, 10, 11, 12, 13, 14, 15, 16, 17, 18, 19, 20, 21, 22, 23, 24, 25, 26, 27, 28, 29, 30, 31, 32, 33, 34, 35, 36, 37, 38, 39, 40, 41, 42, 43, 44, 45, 46, 47, 48, 49, 50, 51, 52, 53, 54, 55, 56] rfl rfl) ?_
  show J x 0 0 (sV Y h hw hb hs hh hp hd ik sn se ++ (wZ Y hw qw (G_rain z m) ++ (wZ Y hb qb z ++ (gV Y hh qh sz (r4 (A 0) (A 1) (A 2) (A 3)) ++ (wZ Y (A 0) (Q 0) (S 0) ++ (wZ Y (A 1) (Q 1) (S 1) ++ (wZ Y (A 2) (Q 2) (S 2) ++ (wZ Y (A 3) (Q 3) (S 3))))))))) 20 [(0, .ref h), (1, .int (jI m))] [.int (jI (F_rain z m)), .ref h]
  refine j_callV (nA := 1) (As := [.int (jI (F_rain z m))]) (st := []) (wc := (sV Y h hw hb hs hh hp hd ik sn se ++ (wZ Y hb qb z ++ (gV Y hh qh sz (r4 (A 0) (A 1) (A 2) (A 3)) ++ (wZ Y (A 0) (Q 0) (S 0) ++ (wZ Y (A 1) (Q 1) (S 1) ++ (wZ Y (A 2) (Q 2) (S 2) ++ (wZ Y (A 3) (Q 3) (S 3))))))))) (wr := (wZ Y hw qw (G_rain z m))) G (c_X4_recorded l D Y h hw hb hs hh hp hd ik sn se qb z qh sz (F_rain z m) A Q S (by first | assumption | omega) (by have := F_rain_b z m; omega) (by exact hI.fe)) dX4_rain_20 rfl gX4_rain_X4_recorded rfl rfl rfl (by decide +kernel) ⟨by decide, by decide⟩ rfl 0 rfl rfl rfl (jLe.pos [0, 10, 11, 12, 13, 14, 15, 16, 17, 18, 19, 20, 21, 22, 23, 24, 25, 26, 27, 28, 29, 30, 31, 32, 33, 34, 35, 36, 37, 38, 39, 40, 41, 42, 43, 44, 45, 46, 47, 48, 49, 50, 51, 52, 53, 54, 55, 56, 1, 2, 3, 4, 5, 6, 7, 8, 9] rfl rfl) (Nat.le_of_ble_eq_true rfl) ⟨Nat.zero_le _, Nat.zero_le _⟩ (fun v_ w_ hp_ => ?_)
  obtain ⟨A2_1, Q2_2, rfl, rfl⟩ := hp_
  refine j_conv (ws' := sV Y h hw hb hs hh hp hd ik sn se ++ (wZ Y hw qw (G_rain z m) ++ (wZ Y hb qb z ++ (gV Y hh qh (hSz (F_rain z m) sz) (r4 (A2_1 0) (A2_1 1) (A2_1 2) (A2_1 3)) ++ (wZ Y (A2_1 0) (Q2_2 0) (hSt (F_rain z m) sz S z 0) ++ (wZ Y (A2_1 1) (Q2_2 1) (hSt (F_rain z m) sz S z 1) ++ (wZ Y (A2_1 2) (Q2_2 2) (hSt (F_rain z m) sz S z 2) ++ (wZ Y (A2_1 3) (Q2_2 3) (hSt (F_rain z m) sz S z 3))))))))) (jLe.pos [0, 48, 49, 50, 51, 52, 53, 54, 55, 56, 1, 2, 3, 4, 5, 6, 7, 8, 9, 10, 11, 12, 13, 14, 15, 16, 17, 18, 19, 20, 21, 22, 23, 24, 25, 26, 27, 28, 29, 30, 31, 32, 33, 34, 35, 36, 37, 38, 39, 40, 41, 42, 43, 44, 45, 46, 47] rfl rfl) ?_
  show J x 0 0 (sV Y h hw hb hs hh hp hd ik sn se ++ (wZ Y hw qw (G_rain z m) ++ (wZ Y hb qb z ++ (gV Y hh qh (hSz (F_rain z m) sz) (r4 (A2_1 0) (A2_1 1) (A2_1 2) (A2_1 3)) ++ (wZ Y (A2_1 0) (Q2_2 0) (hSt (F_rain z m) sz S z 0) ++ (wZ Y (A2_1 1) (Q2_2 1) (hSt (F_rain z m) sz S z 1) ++ (wZ Y (A2_1 2) (Q2_2 2) (hSt (F_rain z m) sz S z 2) ++ (wZ Y (A2_1 3) (Q2_2 3) (hSt (F_rain z m) sz S z 3))))))))) 23 [(0, .ref h), (1, .int (jI m))] [.int (jI (F_rain z m))]
  exact j_reti G dX4_rain_23 (by first | rfl | omega | exact ite_T (by omega) | exact ite_F (by omega)) (jLe.rf _) (kr0 _ _ ⟨A2_1, Q2_2, rfl, rfl⟩)

set_option maxHeartbeats 4000000 in
set_option maxRecDepth 100000 in
theorem c_X4_endDays (l : Launch) (D : va_G) (Y : Nat → ClassId) (h : Nat) (hw : Nat) (hb : Nat) (hs : Nat) (hh : Nat) (hp : Nat) (hd : Nat) (ik : Int) (sn : Int) (se : Int) (qw : Nat → Nat) (z : Int → Int) (qb : Nat → Nat) (zb : Int → Int) (qh : Nat) (sz : Int) (n : Int) (A : Nat → Nat) (Q : Nat → Nat → Nat) (S : Nat → Int → Int) (hI : Inv z) (hsz : 0 ≤ sz ∧ sz ≤ 4) (h_n : -2147483648 ≤ n ∧ n < 2147483648) : jM l yX4_endDays wsX4_endDays { frames := 4, cells := 0, slots := 0, locals := 81 } D Y [.ref h, .int (jI n)] (sV Y h hw hb hs hh hp hd ik sn se ++ (wZ Y hw qw z ++ (wZ Y hb qb zb ++ (gV Y hh qh sz (r4 (A 0) (A 1) (A 2) (A 3)) ++ (wZ Y (A 0) (Q 0) (S 0) ++ (wZ Y (A 1) (Q 1) (S 1) ++ (wZ Y (A 2) (Q 2) (S 2) ++ (wZ Y (A 3) (Q 3) (S 3))))))))) (fun v_ w_ => ∃ (A2 : Nat → Nat) (Q2 : Nat → Nat → Nat), v_ = some (.int (jI (F_end z n))) ∧ w_ = (sV Y h hw hb hs hh hp hd ik sn se ++ (wZ Y hw qw (G_end z n) ++ (wZ Y hb qb z ++ (gV Y hh qh (hSz (F_end z n) sz) (r4 (A2 0) (A2 1) (A2 2) (A2 3)) ++ (wZ Y (A2 0) (Q2 0) (hSt (F_end z n) sz S z 0) ++ (wZ Y (A2 1) (Q2 1) (hSt (F_end z n) sz S z 1) ++ (wZ Y (A2 2) (Q2 2) (hSt (F_end z n) sz S z 2) ++ (wZ Y (A2 3) (Q2 3) (hSt (F_end z n) sz S z 3)))))))))) 0 0 := by
  refine jM_of (cc := cX4_endDays) (maxL := 2) (ret := (some .int)) (by decide) rfl (Nat.le_of_ble_eq_true rfl) (fun v w' h => by obtain ⟨_, _, h⟩ := h; exact Or.inr (Or.inl ⟨_, _, rfl, h.1, rfl⟩)) ?_
  intro x G kr0
  have G : jG x l D Y cX4_endDays RX4 wsX4_endDays 2 ({ frames := 4, cells := 0, slots := 0, locals := 81 } : Room) (some .int) "endDays" := G
  have hinX4 : ∀ w ∈ wsX40, w ∈ wsX4_endDays := fun _ h => List.mem_cons_of_mem _ (List.mem_append_left _ (List.mem_append_left _ (List.mem_append_right _ h)))
  show J x 0 0 (sV Y h hw hb hs hh hp hd ik sn se ++ (wZ Y hw qw z ++ (wZ Y hb qb zb ++ (gV Y hh qh sz (r4 (A 0) (A 1) (A 2) (A 3)) ++ (wZ Y (A 0) (Q 0) (S 0) ++ (wZ Y (A 1) (Q 1) (S 1) ++ (wZ Y (A 2) (Q 2) (S 2) ++ (wZ Y (A 3) (Q 3) (S 3))))))))) 0 [(0, .ref h), (1, .int (jI n))] []
  refine j_aload_n G 0 dX4_endDays_0 rfl ?_
  refine j_get (q := 1) (C := RX4) (T := TX4) (N := 9) (v := .ref hb) G 0 hinX4 dX4_endDays_1 rfl rfl (by decide) (by decide +kernel) rfl ?_
  refine j_aload_n G 0 dX4_endDays_4 rfl ?_
  refine j_get (q := 0) (C := RX4) (T := TX4) (N := 9) (v := .ref hw) G 0 hinX4 dX4_endDays_5 rfl rfl (by decide) (by decide +kernel) rfl ?_
  refine j_callV (nA := 1) (As := [.ref hw]) (st := []) (wc := (wZ Y hb qb zb ++ (wZ Y hw qw z))) (wr := (sV Y h hw hb hs hh hp hd ik sn se ++ (gV Y hh qh sz (r4 (A 0) (A 1) (A 2) (A 3)) ++ (wZ Y (A 0) (Q 0) (S 0) ++ (wZ Y (A 1) (Q 1) (S 1) ++ (wZ Y (A 2) (Q 2) (S 2) ++ (wZ Y (A 3) (Q 3) (S 3)))))))) G (c_X3_copyFromZ l D Y hb qb zb hw qw z (by first | assumption | exact hI.fe)) dX4_endDays_8 rfl gX4_endDays_X3_copyFrom rfl rfl rfl (by decide +kernel) ⟨by decide, by decide⟩ rfl 0 rfl rfl rfl (jLe.pos [10, 11, 12, 13, 14, 15, 16, 17, 18, 1, 2, 3, 4, 5, 6, 7, 8, 9, 0, 19, 20, 21, 22, 23, 24, 25, 26, 27, 28, 29, 30, 31, 32, 33, 34, 35, 36, 37, 38, 39, 40, 41, 42, 43, 44, 45, 46, 47, 48, 49, 50, 51, 52, 53, 54, 55, 56] rfl rfl) (Nat.le_of_ble_eq_true rfl) ⟨Nat.zero_le _, Nat.zero_le _⟩ (fun v_ w_ hp_ => ?_)
  obtain ⟨rfl, rfl⟩ := hp_
  refine j_conv (ws' := sV Y h hw hb hs hh hp hd ik sn se ++ (wZ Y hw qw z ++ (wZ Y hb qb z ++ (gV Y hh qh sz (r4 (A 0) (A 1) (A 2) (A 3)) ++ (wZ Y (A 0) (Q 0) (S 0) ++ (wZ Y (A 1) (Q 1) (S 1) ++ (wZ Y (A 2) (Q 2) (S 2) ++ (wZ Y (A 3) (Q 3) (S 3))))))))) (jLe.pos [18, 9, 10, 11, 12, 13, 14, 15, 16, 17, 0, 1, 2, 3, 4, 5, 6, 7, 8, 19, 20, 21, 22, 23, 24, 25, 26, 27, 28, 29, 30, 31, 32, 33, 34, 35, 36, 37, 38, 39, 40, 41, 42, 43, 44, 45, 46, 47, 48, 49, 50, 51, 52, 53, 54, 55, 56] rfl rfl) ?_
  show J x 0 0 (sV Y h hw hb hs hh hp hd ik sn se ++ (wZ Y hw qw z ++ (wZ Y hb qb z ++ (gV Y hh qh sz (r4 (A 0) (A 1) (A 2) (A 3)) ++ (wZ Y (A 0) (Q 0) (S 0) ++ (wZ Y (A 1) (Q 1) (S 1) ++ (wZ Y (A 2) (Q 2) (S 2) ++ (wZ Y (A 3) (Q 3) (S 3))))))))) 11 [(0, .ref h), (1, .int (jI n))] []
  refine j_aload_n G 0 dX4_endDays_11 rfl ?_
  refine j_aload_n G 0 dX4_endDays_12 rfl ?_
  refine j_get (q := 0) (C := RX4) (T := TX4) (N := 9) (v := .ref hw) G 0 hinX4 dX4_endDays_13 rfl rfl (by decide) (by decide +kernel) rfl ?_
  refine j_iload_n G 1 dX4_endDays_16 rfl ?_
  refine j_callV (nA := 1) (As := [.int (jI n)]) (st := [.ref h]) (wc := (wZ Y hw qw z)) (wr := (sV Y h hw hb hs hh hp hd ik sn se ++ (wZ Y hb qb z ++ (gV Y hh qh sz (r4 (A 0) (A 1) (A 2) (A 3)) ++ (wZ Y (A 0) (Q 0) (S 0) ++ (wZ Y (A 1) (Q 1) (S 1) ++ (wZ Y (A 2) (Q 2) (S 2) ++ (wZ Y (A 3) (Q 3) (S 3))))))))) G (c_X3_passDays l D Y hw qw z n (by first | assumption | omega) (by first | assumption | omega)) dX4_endDays_17 rfl gX4_endDays_X3_passDays rfl rfl rfl (by decide +kernel) ⟨by decide, by decide⟩ rfl 0 rfl rfl rfl (jLe.pos [1, 2, 3, 4, 5, 6, 7, 8, 9, 0, 10, 11, 12, 13, 14, 15, 16, 17, 18, 19, 20, 21, 22, 23, 24, 25, 26, 27, 28, 29, 30, 31, 32, 33, 34, 35, 36, 37, 38, 39, 40, 41, 42, 43, 44, 45, 46, 47, 48, 49, 50, 51, 52, 53, 54, 55, 56] rfl rfl) (Nat.le_of_ble_eq_true rfl) ⟨Nat.zero_le _, Nat.zero_le _⟩ (fun v_ w_ hp_ => ?_)
  obtain ⟨rfl, rfl⟩ := hp_
  refine j_conv (ws' := sV Y h hw hb hs hh hp hd ik sn se ++ (wZ Y hw qw (G_end z n) ++ (wZ Y hb qb z ++ (gV Y hh qh sz (r4 (A 0) (A 1) (A 2) (A 3)) ++ (wZ Y (A 0) (Q 0) (S 0) ++ (wZ Y (A 1) (Q 1) (S 1) ++ (wZ Y (A 2) (Q 2) (S 2) ++ (wZ Y (A 3) (Q 3) (S 3))))))))) (jLe.pos [9, 0, 1, 2, 3, 4, 5, 6, 7, 8, 10, 11, 12, 13, 14, 15, 16, 17, 18, 19, 20, 21, 22, 23, 24, 25, 26, 27, 28, 29, 30, 31, 32, 33, 34, 35, 36, 37, 38, 39, 40, 41, 42, 43, 44, 45, 46, 47, 48, 49, 50, 51, 52, 53, 54, 55, 56] rfl rfl) ?_
  show J x 0 0 (sV Y h hw hb hs hh hp hd ik sn se ++ (wZ Y hw qw (G_end z n) ++ (wZ Y hb qb z ++ (gV Y hh qh sz (r4 (A 0) (A 1) (A 2) (A 3)) ++ (wZ Y (A 0) (Q 0) (S 0) ++ (wZ Y (A 1) (Q 1) (S 1) ++ (wZ Y (A 2) (Q 2) (S 2) ++ (wZ Y (A 3) (Q 3) (S 3))))))))) 20 [(0, .ref h), (1, .int (jI n))] [.int (jI (F_end z n)), .ref h]
  refine j_callV (nA := 1) (As := [.int (jI (F_end z n))]) (st := []) (wc := (sV Y h hw hb hs hh hp hd ik sn se ++ (wZ Y hb qb z ++ (gV Y hh qh sz (r4 (A 0) (A 1) (A 2) (A 3)) ++ (wZ Y (A 0) (Q 0) (S 0) ++ (wZ Y (A 1) (Q 1) (S 1) ++ (wZ Y (A 2) (Q 2) (S 2) ++ (wZ Y (A 3) (Q 3) (S 3))))))))) (wr := (wZ Y hw qw (G_end z n))) G (c_X4_recorded l D Y h hw hb hs hh hp hd ik sn se qb z qh sz (F_end z n) A Q S (by first | assumption | omega) (by have := F_end_b hI n; omega) (by exact hI.fe)) dX4_endDays_20 rfl gX4_endDays_X4_recorded rfl rfl rfl (by decide +kernel) ⟨by decide, by decide⟩ rfl 0 rfl rfl rfl (jLe.pos [0, 10, 11, 12, 13, 14, 15, 16, 17, 18, 19, 20, 21, 22, 23, 24, 25, 26, 27, 28, 29, 30, 31, 32, 33, 34, 35, 36, 37, 38, 39, 40, 41, 42, 43, 44, 45, 46, 47, 48, 49, 50, 51, 52, 53, 54, 55, 56, 1, 2, 3, 4, 5, 6, 7, 8, 9] rfl rfl) (Nat.le_of_ble_eq_true rfl) ⟨Nat.zero_le _, Nat.zero_le _⟩ (fun v_ w_ hp_ => ?_)
  obtain ⟨A2_1, Q2_2, rfl, rfl⟩ := hp_
  refine j_conv (ws' := sV Y h hw hb hs hh hp hd ik sn se ++ (wZ Y hw qw (G_end z n) ++ (wZ Y hb qb z ++ (gV Y hh qh (hSz (F_end z n) sz) (r4 (A2_1 0) (A2_1 1) (A2_1 2) (A2_1 3)) ++ (wZ Y (A2_1 0) (Q2_2 0) (hSt (F_end z n) sz S z 0) ++ (wZ Y (A2_1 1) (Q2_2 1) (hSt (F_end z n) sz S z 1) ++ (wZ Y (A2_1 2) (Q2_2 2) (hSt (F_end z n) sz S z 2) ++ (wZ Y (A2_1 3) (Q2_2 3) (hSt (F_end z n) sz S z 3))))))))) (jLe.pos [0, 48, 49, 50, 51, 52, 53, 54, 55, 56, 1, 2, 3, 4, 5, 6, 7, 8, 9, 10, 11, 12, 13, 14, 15, 16, 17, 18, 19, 20, 21, 22, 23, 24, 25, 26, 27, 28, 29, 30, 31, 32, 33, 34, 35, 36, 37, 38, 39, 40, 41, 42, 43, 44, 45, 46, 47] rfl rfl) ?_
  show J x 0 0 (sV Y h hw hb hs hh hp hd ik sn se ++ (wZ Y hw qw (G_end z n) ++ (wZ Y hb qb z ++ (gV Y hh qh (hSz (F_end z n) sz) (r4 (A2_1 0) (A2_1 1) (A2_1 2) (A2_1 3)) ++ (wZ Y (A2_1 0) (Q2_2 0) (hSt (F_end z n) sz S z 0) ++ (wZ Y (A2_1 1) (Q2_2 1) (hSt (F_end z n) sz S z 1) ++ (wZ Y (A2_1 2) (Q2_2 2) (hSt (F_end z n) sz S z 2) ++ (wZ Y (A2_1 3) (Q2_2 3) (hSt (F_end z n) sz S z 3))))))))) 23 [(0, .ref h), (1, .int (jI n))] [.int (jI (F_end z n))]
  exact j_reti G dX4_endDays_23 (by first | rfl | omega | exact ite_T (by omega) | exact ite_F (by omega)) (jLe.rf _) (kr0 _ _ ⟨A2_1, Q2_2, rfl, rfl⟩)

set_option maxHeartbeats 4000000 in
set_option maxRecDepth 100000 in
theorem c_X4_set (l : Launch) (D : va_G) (Y : Nat → ClassId) (h : Nat) (hw : Nat) (hb : Nat) (hs : Nat) (hh : Nat) (hp : Nat) (hd : Nat) (ik : Int) (sn : Int) (se : Int) (qw : Nat → Nat) (z : Int → Int) (qb : Nat → Nat) (zb : Int → Int) (qh : Nat) (sz : Int) (i : Int) (v : Int) (A : Nat → Nat) (Q : Nat → Nat → Nat) (S : Nat → Int → Int) (hI : Inv z) (hsz : 0 ≤ sz ∧ sz ≤ 4) (h_i : -2147483648 ≤ i ∧ i < 2147483648) (h_v : -2147483648 ≤ v ∧ v < 2147483648) : jM l yX4_set wsX4_set { frames := 4, cells := 0, slots := 0, locals := 81 } D Y [.ref h, .int (jI i), .int (jI v)] (sV Y h hw hb hs hh hp hd ik sn se ++ (wZ Y hw qw z ++ (wZ Y hb qb zb ++ (gV Y hh qh sz (r4 (A 0) (A 1) (A 2) (A 3)) ++ (wZ Y (A 0) (Q 0) (S 0) ++ (wZ Y (A 1) (Q 1) (S 1) ++ (wZ Y (A 2) (Q 2) (S 2) ++ (wZ Y (A 3) (Q 3) (S 3))))))))) (fun v_ w_ => ∃ (A2 : Nat → Nat) (Q2 : Nat → Nat → Nat), v_ = some (.int (jI (F_set z i v))) ∧ w_ = (sV Y h hw hb hs hh hp hd ik sn se ++ (wZ Y hw qw (G_set z i v) ++ (wZ Y hb qb z ++ (gV Y hh qh (hSz (F_set z i v) sz) (r4 (A2 0) (A2 1) (A2 2) (A2 3)) ++ (wZ Y (A2 0) (Q2 0) (hSt (F_set z i v) sz S z 0) ++ (wZ Y (A2 1) (Q2 1) (hSt (F_set z i v) sz S z 1) ++ (wZ Y (A2 2) (Q2 2) (hSt (F_set z i v) sz S z 2) ++ (wZ Y (A2 3) (Q2 3) (hSt (F_set z i v) sz S z 3)))))))))) 0 0 := by
  refine jM_of (cc := cX4_set) (maxL := 3) (ret := (some .int)) (by decide) rfl (Nat.le_of_ble_eq_true rfl) (fun v w' h => by obtain ⟨_, _, h⟩ := h; exact Or.inr (Or.inl ⟨_, _, rfl, h.1, rfl⟩)) ?_
  intro x G kr0
  have G : jG x l D Y cX4_set RX4 wsX4_set 3 ({ frames := 4, cells := 0, slots := 0, locals := 81 } : Room) (some .int) "set" := G
  have hinX4 : ∀ w ∈ wsX40, w ∈ wsX4_set := fun _ h => List.mem_cons_of_mem _ (List.mem_append_left _ (List.mem_append_left _ (List.mem_append_right _ h)))
  show J x 0 0 (sV Y h hw hb hs hh hp hd ik sn se ++ (wZ Y hw qw z ++ (wZ Y hb qb zb ++ (gV Y hh qh sz (r4 (A 0) (A 1) (A 2) (A 3)) ++ (wZ Y (A 0) (Q 0) (S 0) ++ (wZ Y (A 1) (Q 1) (S 1) ++ (wZ Y (A 2) (Q 2) (S 2) ++ (wZ Y (A 3) (Q 3) (S 3))))))))) 0 [(0, .ref h), (1, .int (jI i)), (2, .int (jI v))] []
  refine j_aload_n G 0 dX4_set_0 rfl ?_
  refine j_get (q := 1) (C := RX4) (T := TX4) (N := 9) (v := .ref hb) G 0 hinX4 dX4_set_1 rfl rfl (by decide) (by decide +kernel) rfl ?_
  refine j_aload_n G 0 dX4_set_4 rfl ?_
  refine j_get (q := 0) (C := RX4) (T := TX4) (N := 9) (v := .ref hw) G 0 hinX4 dX4_set_5 rfl rfl (by decide) (by decide +kernel) rfl ?_
  refine j_callV (nA := 1) (As := [.ref hw]) (st := []) (wc := (wZ Y hb qb zb ++ (wZ Y hw qw z))) (wr := (sV Y h hw hb hs hh hp hd ik sn se ++ (gV Y hh qh sz (r4 (A 0) (A 1) (A 2) (A 3)) ++ (wZ Y (A 0) (Q 0) (S 0) ++ (wZ Y (A 1) (Q 1) (S 1) ++ (wZ Y (A 2) (Q 2) (S 2) ++ (wZ Y (A 3) (Q 3) (S 3)))))))) G (c_X3_copyFromZ l D Y hb qb zb hw qw z (by first | assumption | exact hI.fe)) dX4_set_8 rfl gX4_set_X3_copyFrom rfl rfl rfl (by decide +kernel) ⟨by decide, by decide⟩ rfl 0 rfl rfl rfl (jLe.pos [10, 11, 12, 13, 14, 15, 16, 17, 18, 1, 2, 3, 4, 5, 6, 7, 8, 9, 0, 19, 20, 21, 22, 23, 24, 25, 26, 27, 28, 29, 30, 31, 32, 33, 34, 35, 36, 37, 38, 39, 40, 41, 42, 43, 44, 45, 46, 47, 48, 49, 50, 51, 52, 53, 54, 55, 56] rfl rfl) (Nat.le_of_ble_eq_true rfl) ⟨Nat.zero_le _, Nat.zero_le _⟩ (fun v_ w_ hp_ => ?_)
  obtain ⟨rfl, rfl⟩ := hp_
  refine j_conv (ws' := sV Y h hw hb hs hh hp hd ik sn se ++ (wZ Y hw qw z ++ (wZ Y hb qb z ++ (gV Y hh qh sz (r4 (A 0) (A 1) (A 2) (A 3)) ++ (wZ Y (A 0) (Q 0) (S 0) ++ (wZ Y (A 1) (Q 1) (S 1) ++ (wZ Y (A 2) (Q 2) (S 2) ++ (wZ Y (A 3) (Q 3) (S 3))))))))) (jLe.pos [18, 9, 10, 11, 12, 13, 14, 15, 16, 17, 0, 1, 2, 3, 4, 5, 6, 7, 8, 19, 20, 21, 22, 23, 24, 25, 26, 27, 28, 29, 30, 31, 32, 33, 34, 35, 36, 37, 38, 39, 40, 41, 42, 43, 44, 45, 46, 47, 48, 49, 50, 51, 52, 53, 54, 55, 56] rfl rfl) ?_
  show J x 0 0 (sV Y h hw hb hs hh hp hd ik sn se ++ (wZ Y hw qw z ++ (wZ Y hb qb z ++ (gV Y hh qh sz (r4 (A 0) (A 1) (A 2) (A 3)) ++ (wZ Y (A 0) (Q 0) (S 0) ++ (wZ Y (A 1) (Q 1) (S 1) ++ (wZ Y (A 2) (Q 2) (S 2) ++ (wZ Y (A 3) (Q 3) (S 3))))))))) 11 [(0, .ref h), (1, .int (jI i)), (2, .int (jI v))] []
  refine j_aload_n G 0 dX4_set_11 rfl ?_
  refine j_aload_n G 0 dX4_set_12 rfl ?_
  refine j_get (q := 0) (C := RX4) (T := TX4) (N := 9) (v := .ref hw) G 0 hinX4 dX4_set_13 rfl rfl (by decide) (by decide +kernel) rfl ?_
  refine j_iload_n G 1 dX4_set_16 rfl ?_
  refine j_iload_n G 2 dX4_set_17 rfl ?_
  refine j_callV (nA := 2) (As := [.int (jI i), .int (jI v)]) (st := [.ref h]) (wc := (wZ Y hw qw z)) (wr := (sV Y h hw hb hs hh hp hd ik sn se ++ (wZ Y hb qb z ++ (gV Y hh qh sz (r4 (A 0) (A 1) (A 2) (A 3)) ++ (wZ Y (A 0) (Q 0) (S 0) ++ (wZ Y (A 1) (Q 1) (S 1) ++ (wZ Y (A 2) (Q 2) (S 2) ++ (wZ Y (A 3) (Q 3) (S 3))))))))) G (c_X3_changeSetting l D Y hw qw z i v (by first | assumption | omega) (by first | assumption | omega) (by first | assumption | omega)) dX4_set_18 rfl gX4_set_X3_changeSetting rfl rfl rfl (by decide +kernel) ⟨by decide, by decide⟩ rfl 0 rfl rfl rfl (jLe.pos [1, 2, 3, 4, 5, 6, 7, 8, 9, 0, 10, 11, 12, 13, 14, 15, 16, 17, 18, 19, 20, 21, 22, 23, 24, 25, 26, 27, 28, 29, 30, 31, 32, 33, 34, 35, 36, 37, 38, 39, 40, 41, 42, 43, 44, 45, 46, 47, 48, 49, 50, 51, 52, 53, 54, 55, 56] rfl rfl) (Nat.le_of_ble_eq_true rfl) ⟨Nat.zero_le _, Nat.zero_le _⟩ (fun v_ w_ hp_ => ?_)
  obtain ⟨rfl, rfl⟩ := hp_
  refine j_conv (ws' := sV Y h hw hb hs hh hp hd ik sn se ++ (wZ Y hw qw (G_set z i v) ++ (wZ Y hb qb z ++ (gV Y hh qh sz (r4 (A 0) (A 1) (A 2) (A 3)) ++ (wZ Y (A 0) (Q 0) (S 0) ++ (wZ Y (A 1) (Q 1) (S 1) ++ (wZ Y (A 2) (Q 2) (S 2) ++ (wZ Y (A 3) (Q 3) (S 3))))))))) (jLe.pos [9, 0, 1, 2, 3, 4, 5, 6, 7, 8, 10, 11, 12, 13, 14, 15, 16, 17, 18, 19, 20, 21, 22, 23, 24, 25, 26, 27, 28, 29, 30, 31, 32, 33, 34, 35, 36, 37, 38, 39, 40, 41, 42, 43, 44, 45, 46, 47, 48, 49, 50, 51, 52, 53, 54, 55, 56] rfl rfl) ?_
  show J x 0 0 (sV Y h hw hb hs hh hp hd ik sn se ++ (wZ Y hw qw (G_set z i v) ++ (wZ Y hb qb z ++ (gV Y hh qh sz (r4 (A 0) (A 1) (A 2) (A 3)) ++ (wZ Y (A 0) (Q 0) (S 0) ++ (wZ Y (A 1) (Q 1) (S 1) ++ (wZ Y (A 2) (Q 2) (S 2) ++ (wZ Y (A 3) (Q 3) (S 3))))))))) 21 [(0, .ref h), (1, .int (jI i)), (2, .int (jI v))] [.int (jI (F_set z i v)), .ref h]
  refine j_callV (nA := 1) (As := [.int (jI (F_set z i v))]) (st := []) (wc := (sV Y h hw hb hs hh hp hd ik sn se ++ (wZ Y hb qb z ++ (gV Y hh qh sz (r4 (A 0) (A 1) (A 2) (A 3)) ++ (wZ Y (A 0) (Q 0) (S 0) ++ (wZ Y (A 1) (Q 1) (S 1) ++ (wZ Y (A 2) (Q 2) (S 2) ++ (wZ Y (A 3) (Q 3) (S 3))))))))) (wr := (wZ Y hw qw (G_set z i v))) G (c_X4_recorded l D Y h hw hb hs hh hp hd ik sn se qb z qh sz (F_set z i v) A Q S (by first | assumption | omega) (by have := F_set_b hI i v; omega) (by exact hI.fe)) dX4_set_21 rfl gX4_set_X4_recorded rfl rfl rfl (by decide +kernel) ⟨by decide, by decide⟩ rfl 0 rfl rfl rfl (jLe.pos [0, 10, 11, 12, 13, 14, 15, 16, 17, 18, 19, 20, 21, 22, 23, 24, 25, 26, 27, 28, 29, 30, 31, 32, 33, 34, 35, 36, 37, 38, 39, 40, 41, 42, 43, 44, 45, 46, 47, 48, 49, 50, 51, 52, 53, 54, 55, 56, 1, 2, 3, 4, 5, 6, 7, 8, 9] rfl rfl) (Nat.le_of_ble_eq_true rfl) ⟨Nat.zero_le _, Nat.zero_le _⟩ (fun v_ w_ hp_ => ?_)
  obtain ⟨A2_1, Q2_2, rfl, rfl⟩ := hp_
  refine j_conv (ws' := sV Y h hw hb hs hh hp hd ik sn se ++ (wZ Y hw qw (G_set z i v) ++ (wZ Y hb qb z ++ (gV Y hh qh (hSz (F_set z i v) sz) (r4 (A2_1 0) (A2_1 1) (A2_1 2) (A2_1 3)) ++ (wZ Y (A2_1 0) (Q2_2 0) (hSt (F_set z i v) sz S z 0) ++ (wZ Y (A2_1 1) (Q2_2 1) (hSt (F_set z i v) sz S z 1) ++ (wZ Y (A2_1 2) (Q2_2 2) (hSt (F_set z i v) sz S z 2) ++ (wZ Y (A2_1 3) (Q2_2 3) (hSt (F_set z i v) sz S z 3))))))))) (jLe.pos [0, 48, 49, 50, 51, 52, 53, 54, 55, 56, 1, 2, 3, 4, 5, 6, 7, 8, 9, 10, 11, 12, 13, 14, 15, 16, 17, 18, 19, 20, 21, 22, 23, 24, 25, 26, 27, 28, 29, 30, 31, 32, 33, 34, 35, 36, 37, 38, 39, 40, 41, 42, 43, 44, 45, 46, 47] rfl rfl) ?_
  show J x 0 0 (sV Y h hw hb hs hh hp hd ik sn se ++ (wZ Y hw qw (G_set z i v) ++ (wZ Y hb qb z ++ (gV Y hh qh (hSz (F_set z i v) sz) (r4 (A2_1 0) (A2_1 1) (A2_1 2) (A2_1 3)) ++ (wZ Y (A2_1 0) (Q2_2 0) (hSt (F_set z i v) sz S z 0) ++ (wZ Y (A2_1 1) (Q2_2 1) (hSt (F_set z i v) sz S z 1) ++ (wZ Y (A2_1 2) (Q2_2 2) (hSt (F_set z i v) sz S z 2) ++ (wZ Y (A2_1 3) (Q2_2 3) (hSt (F_set z i v) sz S z 3))))))))) 24 [(0, .ref h), (1, .int (jI i)), (2, .int (jI v))] [.int (jI (F_set z i v))]
  exact j_reti G dX4_set_24 (by first | rfl | omega | exact ite_T (by omega) | exact ite_F (by omega)) (jLe.rf _) (kr0 _ _ ⟨A2_1, Q2_2, rfl, rfl⟩)

set_option maxHeartbeats 4000000 in
set_option maxRecDepth 100000 in
theorem c_X4_go (l : Launch) (D : va_G) (Y : Nat → ClassId) (h : Nat) (hw : Nat) (hb : Nat) (hs : Nat) (hh : Nat) (hp : Nat) (hd : Nat) (ik : Int) (sn : Int) (se : Int) (qw : Nat → Nat) (z : Int → Int) (qb : Nat → Nat) (zb : Int → Int) (qh : Nat) (sz : Int) (k : Int) (p : Int) (A : Nat → Nat) (Q : Nat → Nat → Nat) (S : Nat → Int → Int) (hI : Inv z) (hsz : 0 ≤ sz ∧ sz ≤ 4) (h_k : -2147483648 ≤ k ∧ k < 2147483648) (h_p : -2147483648 ≤ p ∧ p < 2147483648) : jM l yX4_go wsX4_go { frames := 4, cells := 0, slots := 0, locals := 81 } D Y [.ref h, .int (jI k), .int (jI p)] (sV Y h hw hb hs hh hp hd ik sn se ++ (wZ Y hw qw z ++ (wZ Y hb qb zb ++ (gV Y hh qh sz (r4 (A 0) (A 1) (A 2) (A 3)) ++ (wZ Y (A 0) (Q 0) (S 0) ++ (wZ Y (A 1) (Q 1) (S 1) ++ (wZ Y (A 2) (Q 2) (S 2) ++ (wZ Y (A 3) (Q 3) (S 3))))))))) (fun v_ w_ => ∃ (A2 : Nat → Nat) (Q2 : Nat → Nat → Nat), v_ = some (.int (jI (F_go z k p))) ∧ w_ = (sV Y h hw hb hs hh hp hd ik sn se ++ (wZ Y hw qw (G_go z k p) ++ (wZ Y hb qb z ++ (gV Y hh qh (hSz (F_go z k p) sz) (r4 (A2 0) (A2 1) (A2 2) (A2 3)) ++ (wZ Y (A2 0) (Q2 0) (hSt (F_go z k p) sz S z 0) ++ (wZ Y (A2 1) (Q2 1) (hSt (F_go z k p) sz S z 1) ++ (wZ Y (A2 2) (Q2 2) (hSt (F_go z k p) sz S z 2) ++ (wZ Y (A2 3) (Q2 3) (hSt (F_go z k p) sz S z 3)))))))))) 0 0 := by
  refine jM_of (cc := cX4_go) (maxL := 3) (ret := (some .int)) (by decide) rfl (Nat.le_of_ble_eq_true rfl) (fun v w' h => by obtain ⟨_, _, h⟩ := h; exact Or.inr (Or.inl ⟨_, _, rfl, h.1, rfl⟩)) ?_
  intro x G kr0
  have G : jG x l D Y cX4_go RX4 wsX4_go 3 ({ frames := 4, cells := 0, slots := 0, locals := 81 } : Room) (some .int) "go" := G
  have hinX4 : ∀ w ∈ wsX40, w ∈ wsX4_go := fun _ h => List.mem_cons_of_mem _ (List.mem_append_left _ (List.mem_append_left _ (List.mem_append_right _ h)))
  show J x 0 0 (sV Y h hw hb hs hh hp hd ik sn se ++ (wZ Y hw qw z ++ (wZ Y hb qb zb ++ (gV Y hh qh sz (r4 (A 0) (A 1) (A 2) (A 3)) ++ (wZ Y (A 0) (Q 0) (S 0) ++ (wZ Y (A 1) (Q 1) (S 1) ++ (wZ Y (A 2) (Q 2) (S 2) ++ (wZ Y (A 3) (Q 3) (S 3))))))))) 0 [(0, .ref h), (1, .int (jI k)), (2, .int (jI p))] []
  refine j_aload_n G 0 dX4_go_0 rfl ?_
  refine j_get (q := 1) (C := RX4) (T := TX4) (N := 9) (v := .ref hb) G 0 hinX4 dX4_go_1 rfl rfl (by decide) (by decide +kernel) rfl ?_
  refine j_aload_n G 0 dX4_go_4 rfl ?_
  refine j_get (q := 0) (C := RX4) (T := TX4) (N := 9) (v := .ref hw) G 0 hinX4 dX4_go_5 rfl rfl (by decide) (by decide +kernel) rfl ?_
  refine j_callV (nA := 1) (As := [.ref hw]) (st := []) (wc := (wZ Y hb qb zb ++ (wZ Y hw qw z))) (wr := (sV Y h hw hb hs hh hp hd ik sn se ++ (gV Y hh qh sz (r4 (A 0) (A 1) (A 2) (A 3)) ++ (wZ Y (A 0) (Q 0) (S 0) ++ (wZ Y (A 1) (Q 1) (S 1) ++ (wZ Y (A 2) (Q 2) (S 2) ++ (wZ Y (A 3) (Q 3) (S 3)))))))) G (c_X3_copyFromZ l D Y hb qb zb hw qw z (by first | assumption | exact hI.fe)) dX4_go_8 rfl gX4_go_X3_copyFrom rfl rfl rfl (by decide +kernel) ⟨by decide, by decide⟩ rfl 0 rfl rfl rfl (jLe.pos [10, 11, 12, 13, 14, 15, 16, 17, 18, 1, 2, 3, 4, 5, 6, 7, 8, 9, 0, 19, 20, 21, 22, 23, 24, 25, 26, 27, 28, 29, 30, 31, 32, 33, 34, 35, 36, 37, 38, 39, 40, 41, 42, 43, 44, 45, 46, 47, 48, 49, 50, 51, 52, 53, 54, 55, 56] rfl rfl) (Nat.le_of_ble_eq_true rfl) ⟨Nat.zero_le _, Nat.zero_le _⟩ (fun v_ w_ hp_ => ?_)
  obtain ⟨rfl, rfl⟩ := hp_
  refine j_conv (ws' := sV Y h hw hb hs hh hp hd ik sn se ++ (wZ Y hw qw z ++ (wZ Y hb qb z ++ (gV Y hh qh sz (r4 (A 0) (A 1) (A 2) (A 3)) ++ (wZ Y (A 0) (Q 0) (S 0) ++ (wZ Y (A 1) (Q 1) (S 1) ++ (wZ Y (A 2) (Q 2) (S 2) ++ (wZ Y (A 3) (Q 3) (S 3))))))))) (jLe.pos [18, 9, 10, 11, 12, 13, 14, 15, 16, 17, 0, 1, 2, 3, 4, 5, 6, 7, 8, 19, 20, 21, 22, 23, 24, 25, 26, 27, 28, 29, 30, 31, 32, 33, 34, 35, 36, 37, 38, 39, 40, 41, 42, 43, 44, 45, 46, 47, 48, 49, 50, 51, 52, 53, 54, 55, 56] rfl rfl) ?_
  show J x 0 0 (sV Y h hw hb hs hh hp hd ik sn se ++ (wZ Y hw qw z ++ (wZ Y hb qb z ++ (gV Y hh qh sz (r4 (A 0) (A 1) (A 2) (A 3)) ++ (wZ Y (A 0) (Q 0) (S 0) ++ (wZ Y (A 1) (Q 1) (S 1) ++ (wZ Y (A 2) (Q 2) (S 2) ++ (wZ Y (A 3) (Q 3) (S 3))))))))) 11 [(0, .ref h), (1, .int (jI k)), (2, .int (jI p))] []
  refine j_aload_n G 0 dX4_go_11 rfl ?_
  refine j_aload_n G 0 dX4_go_12 rfl ?_
  refine j_get (q := 0) (C := RX4) (T := TX4) (N := 9) (v := .ref hw) G 0 hinX4 dX4_go_13 rfl rfl (by decide) (by decide +kernel) rfl ?_
  refine j_iload_n G 1 dX4_go_16 rfl ?_
  refine j_iload_n G 2 dX4_go_17 rfl ?_
  refine j_callV (nA := 2) (As := [.int (jI k), .int (jI p)]) (st := [.ref h]) (wc := (wZ Y hw qw z)) (wr := (sV Y h hw hb hs hh hp hd ik sn se ++ (wZ Y hb qb z ++ (gV Y hh qh sz (r4 (A 0) (A 1) (A 2) (A 3)) ++ (wZ Y (A 0) (Q 0) (S 0) ++ (wZ Y (A 1) (Q 1) (S 1) ++ (wZ Y (A 2) (Q 2) (S 2) ++ (wZ Y (A 3) (Q 3) (S 3))))))))) G (c_X3_sendCrew l D Y hw qw z k p (by first | assumption | omega) (by first | assumption | omega) (by first | assumption | omega)) dX4_go_18 rfl gX4_go_X3_sendCrew rfl rfl rfl (by decide +kernel) ⟨by decide, by decide⟩ rfl 0 rfl rfl rfl (jLe.pos [1, 2, 3, 4, 5, 6, 7, 8, 9, 0, 10, 11, 12, 13, 14, 15, 16, 17, 18, 19, 20, 21, 22, 23, 24, 25, 26, 27, 28, 29, 30, 31, 32, 33, 34, 35, 36, 37, 38, 39, 40, 41, 42, 43, 44, 45, 46, 47, 48, 49, 50, 51, 52, 53, 54, 55, 56] rfl rfl) (Nat.le_of_ble_eq_true rfl) ⟨Nat.zero_le _, Nat.zero_le _⟩ (fun v_ w_ hp_ => ?_)
  obtain ⟨rfl, rfl⟩ := hp_
  refine j_conv (ws' := sV Y h hw hb hs hh hp hd ik sn se ++ (wZ Y hw qw (G_go z k p) ++ (wZ Y hb qb z ++ (gV Y hh qh sz (r4 (A 0) (A 1) (A 2) (A 3)) ++ (wZ Y (A 0) (Q 0) (S 0) ++ (wZ Y (A 1) (Q 1) (S 1) ++ (wZ Y (A 2) (Q 2) (S 2) ++ (wZ Y (A 3) (Q 3) (S 3))))))))) (jLe.pos [9, 0, 1, 2, 3, 4, 5, 6, 7, 8, 10, 11, 12, 13, 14, 15, 16, 17, 18, 19, 20, 21, 22, 23, 24, 25, 26, 27, 28, 29, 30, 31, 32, 33, 34, 35, 36, 37, 38, 39, 40, 41, 42, 43, 44, 45, 46, 47, 48, 49, 50, 51, 52, 53, 54, 55, 56] rfl rfl) ?_
  show J x 0 0 (sV Y h hw hb hs hh hp hd ik sn se ++ (wZ Y hw qw (G_go z k p) ++ (wZ Y hb qb z ++ (gV Y hh qh sz (r4 (A 0) (A 1) (A 2) (A 3)) ++ (wZ Y (A 0) (Q 0) (S 0) ++ (wZ Y (A 1) (Q 1) (S 1) ++ (wZ Y (A 2) (Q 2) (S 2) ++ (wZ Y (A 3) (Q 3) (S 3))))))))) 21 [(0, .ref h), (1, .int (jI k)), (2, .int (jI p))] [.int (jI (F_go z k p)), .ref h]
  refine j_callV (nA := 1) (As := [.int (jI (F_go z k p))]) (st := []) (wc := (sV Y h hw hb hs hh hp hd ik sn se ++ (wZ Y hb qb z ++ (gV Y hh qh sz (r4 (A 0) (A 1) (A 2) (A 3)) ++ (wZ Y (A 0) (Q 0) (S 0) ++ (wZ Y (A 1) (Q 1) (S 1) ++ (wZ Y (A 2) (Q 2) (S 2) ++ (wZ Y (A 3) (Q 3) (S 3))))))))) (wr := (wZ Y hw qw (G_go z k p))) G (c_X4_recorded l D Y h hw hb hs hh hp hd ik sn se qb z qh sz (F_go z k p) A Q S (by first | assumption | omega) (by have := F_go_b hI k p; omega) (by exact hI.fe)) dX4_go_21 rfl gX4_go_X4_recorded rfl rfl rfl (by decide +kernel) ⟨by decide, by decide⟩ rfl 0 rfl rfl rfl (jLe.pos [0, 10, 11, 12, 13, 14, 15, 16, 17, 18, 19, 20, 21, 22, 23, 24, 25, 26, 27, 28, 29, 30, 31, 32, 33, 34, 35, 36, 37, 38, 39, 40, 41, 42, 43, 44, 45, 46, 47, 48, 49, 50, 51, 52, 53, 54, 55, 56, 1, 2, 3, 4, 5, 6, 7, 8, 9] rfl rfl) (Nat.le_of_ble_eq_true rfl) ⟨Nat.zero_le _, Nat.zero_le _⟩ (fun v_ w_ hp_ => ?_)
  obtain ⟨A2_1, Q2_2, rfl, rfl⟩ := hp_
  refine j_conv (ws' := sV Y h hw hb hs hh hp hd ik sn se ++ (wZ Y hw qw (G_go z k p) ++ (wZ Y hb qb z ++ (gV Y hh qh (hSz (F_go z k p) sz) (r4 (A2_1 0) (A2_1 1) (A2_1 2) (A2_1 3)) ++ (wZ Y (A2_1 0) (Q2_2 0) (hSt (F_go z k p) sz S z 0) ++ (wZ Y (A2_1 1) (Q2_2 1) (hSt (F_go z k p) sz S z 1) ++ (wZ Y (A2_1 2) (Q2_2 2) (hSt (F_go z k p) sz S z 2) ++ (wZ Y (A2_1 3) (Q2_2 3) (hSt (F_go z k p) sz S z 3))))))))) (jLe.pos [0, 48, 49, 50, 51, 52, 53, 54, 55, 56, 1, 2, 3, 4, 5, 6, 7, 8, 9, 10, 11, 12, 13, 14, 15, 16, 17, 18, 19, 20, 21, 22, 23, 24, 25, 26, 27, 28, 29, 30, 31, 32, 33, 34, 35, 36, 37, 38, 39, 40, 41, 42, 43, 44, 45, 46, 47] rfl rfl) ?_
  show J x 0 0 (sV Y h hw hb hs hh hp hd ik sn se ++ (wZ Y hw qw (G_go z k p) ++ (wZ Y hb qb z ++ (gV Y hh qh (hSz (F_go z k p) sz) (r4 (A2_1 0) (A2_1 1) (A2_1 2) (A2_1 3)) ++ (wZ Y (A2_1 0) (Q2_2 0) (hSt (F_go z k p) sz S z 0) ++ (wZ Y (A2_1 1) (Q2_2 1) (hSt (F_go z k p) sz S z 1) ++ (wZ Y (A2_1 2) (Q2_2 2) (hSt (F_go z k p) sz S z 2) ++ (wZ Y (A2_1 3) (Q2_2 3) (hSt (F_go z k p) sz S z 3))))))))) 24 [(0, .ref h), (1, .int (jI k)), (2, .int (jI p))] [.int (jI (F_go z k p))]
  exact j_reti G dX4_go_24 (by first | rfl | omega | exact ite_T (by omega) | exact ite_F (by omega)) (jLe.rf _) (kr0 _ _ ⟨A2_1, Q2_2, rfl, rfl⟩)

set_option maxHeartbeats 4000000 in
set_option maxRecDepth 100000 in
theorem c_X4_fell (l : Launch) (D : va_G) (Y : Nat → ClassId) (h : Nat) (hw : Nat) (hb : Nat) (hs : Nat) (hh : Nat) (hp : Nat) (hd : Nat) (ik : Int) (sn : Int) (se : Int) (qw : Nat → Nat) (z : Int → Int) (qb : Nat → Nat) (zb : Int → Int) (qh : Nat) (sz : Int) (k : Int) (A : Nat → Nat) (Q : Nat → Nat → Nat) (S : Nat → Int → Int) (hI : Inv z) (hsz : 0 ≤ sz ∧ sz ≤ 4) (h_k : -2147483648 ≤ k ∧ k < 2147483648) : jM l yX4_fell wsX4_fell { frames := 4, cells := 0, slots := 0, locals := 81 } D Y [.ref h, .int (jI k)] (sV Y h hw hb hs hh hp hd ik sn se ++ (wZ Y hw qw z ++ (wZ Y hb qb zb ++ (gV Y hh qh sz (r4 (A 0) (A 1) (A 2) (A 3)) ++ (wZ Y (A 0) (Q 0) (S 0) ++ (wZ Y (A 1) (Q 1) (S 1) ++ (wZ Y (A 2) (Q 2) (S 2) ++ (wZ Y (A 3) (Q 3) (S 3))))))))) (fun v_ w_ => ∃ (A2 : Nat → Nat) (Q2 : Nat → Nat → Nat), v_ = some (.int (jI (F_fell z k))) ∧ w_ = (sV Y h hw hb hs hh hp hd ik sn se ++ (wZ Y hw qw (G_fell z k) ++ (wZ Y hb qb z ++ (gV Y hh qh (hSz (F_fell z k) sz) (r4 (A2 0) (A2 1) (A2 2) (A2 3)) ++ (wZ Y (A2 0) (Q2 0) (hSt (F_fell z k) sz S z 0) ++ (wZ Y (A2 1) (Q2 1) (hSt (F_fell z k) sz S z 1) ++ (wZ Y (A2 2) (Q2 2) (hSt (F_fell z k) sz S z 2) ++ (wZ Y (A2 3) (Q2 3) (hSt (F_fell z k) sz S z 3)))))))))) 0 0 := by
  refine jM_of (cc := cX4_fell) (maxL := 2) (ret := (some .int)) (by decide) rfl (Nat.le_of_ble_eq_true rfl) (fun v w' h => by obtain ⟨_, _, h⟩ := h; exact Or.inr (Or.inl ⟨_, _, rfl, h.1, rfl⟩)) ?_
  intro x G kr0
  have G : jG x l D Y cX4_fell RX4 wsX4_fell 2 ({ frames := 4, cells := 0, slots := 0, locals := 81 } : Room) (some .int) "fell" := G
  have hinX4 : ∀ w ∈ wsX40, w ∈ wsX4_fell := fun _ h => List.mem_cons_of_mem _ (List.mem_append_left _ (List.mem_append_left _ (List.mem_append_right _ h)))
  show J x 0 0 (sV Y h hw hb hs hh hp hd ik sn se ++ (wZ Y hw qw z ++ (wZ Y hb qb zb ++ (gV Y hh qh sz (r4 (A 0) (A 1) (A 2) (A 3)) ++ (wZ Y (A 0) (Q 0) (S 0) ++ (wZ Y (A 1) (Q 1) (S 1) ++ (wZ Y (A 2) (Q 2) (S 2) ++ (wZ Y (A 3) (Q 3) (S 3))))))))) 0 [(0, .ref h), (1, .int (jI k))] []
  refine j_aload_n G 0 dX4_fell_0 rfl ?_
  refine j_get (q := 1) (C := RX4) (T := TX4) (N := 9) (v := .ref hb) G 0 hinX4 dX4_fell_1 rfl rfl (by decide) (by decide +kernel) rfl ?_
  refine j_aload_n G 0 dX4_fell_4 rfl ?_
  refine j_get (q := 0) (C := RX4) (T := TX4) (N := 9) (v := .ref hw) G 0 hinX4 dX4_fell_5 rfl rfl (by decide) (by decide +kernel) rfl ?_
  refine j_callV (nA := 1) (As := [.ref hw]) (st := []) (wc := (wZ Y hb qb zb ++ (wZ Y hw qw z))) (wr := (sV Y h hw hb hs hh hp hd ik sn se ++ (gV Y hh qh sz (r4 (A 0) (A 1) (A 2) (A 3)) ++ (wZ Y (A 0) (Q 0) (S 0) ++ (wZ Y (A 1) (Q 1) (S 1) ++ (wZ Y (A 2) (Q 2) (S 2) ++ (wZ Y (A 3) (Q 3) (S 3)))))))) G (c_X3_copyFromZ l D Y hb qb zb hw qw z (by first | assumption | exact hI.fe)) dX4_fell_8 rfl gX4_fell_X3_copyFrom rfl rfl rfl (by decide +kernel) ⟨by decide, by decide⟩ rfl 0 rfl rfl rfl (jLe.pos [10, 11, 12, 13, 14, 15, 16, 17, 18, 1, 2, 3, 4, 5, 6, 7, 8, 9, 0, 19, 20, 21, 22, 23, 24, 25, 26, 27, 28, 29, 30, 31, 32, 33, 34, 35, 36, 37, 38, 39, 40, 41, 42, 43, 44, 45, 46, 47, 48, 49, 50, 51, 52, 53, 54, 55, 56] rfl rfl) (Nat.le_of_ble_eq_true rfl) ⟨Nat.zero_le _, Nat.zero_le _⟩ (fun v_ w_ hp_ => ?_)
  obtain ⟨rfl, rfl⟩ := hp_
  refine j_conv (ws' := sV Y h hw hb hs hh hp hd ik sn se ++ (wZ Y hw qw z ++ (wZ Y hb qb z ++ (gV Y hh qh sz (r4 (A 0) (A 1) (A 2) (A 3)) ++ (wZ Y (A 0) (Q 0) (S 0) ++ (wZ Y (A 1) (Q 1) (S 1) ++ (wZ Y (A 2) (Q 2) (S 2) ++ (wZ Y (A 3) (Q 3) (S 3))))))))) (jLe.pos [18, 9, 10, 11, 12, 13, 14, 15, 16, 17, 0, 1, 2, 3, 4, 5, 6, 7, 8, 19, 20, 21, 22, 23, 24, 25, 26, 27, 28, 29, 30, 31, 32, 33, 34, 35, 36, 37, 38, 39, 40, 41, 42, 43, 44, 45, 46, 47, 48, 49, 50, 51, 52, 53, 54, 55, 56] rfl rfl) ?_
  show J x 0 0 (sV Y h hw hb hs hh hp hd ik sn se ++ (wZ Y hw qw z ++ (wZ Y hb qb z ++ (gV Y hh qh sz (r4 (A 0) (A 1) (A 2) (A 3)) ++ (wZ Y (A 0) (Q 0) (S 0) ++ (wZ Y (A 1) (Q 1) (S 1) ++ (wZ Y (A 2) (Q 2) (S 2) ++ (wZ Y (A 3) (Q 3) (S 3))))))))) 11 [(0, .ref h), (1, .int (jI k))] []
  refine j_aload_n G 0 dX4_fell_11 rfl ?_
  refine j_aload_n G 0 dX4_fell_12 rfl ?_
  refine j_get (q := 0) (C := RX4) (T := TX4) (N := 9) (v := .ref hw) G 0 hinX4 dX4_fell_13 rfl rfl (by decide) (by decide +kernel) rfl ?_
  refine j_iload_n G 1 dX4_fell_16 rfl ?_
  refine j_callV (nA := 1) (As := [.int (jI k)]) (st := [.ref h]) (wc := (wZ Y hw qw z)) (wr := (sV Y h hw hb hs hh hp hd ik sn se ++ (wZ Y hb qb z ++ (gV Y hh qh sz (r4 (A 0) (A 1) (A 2) (A 3)) ++ (wZ Y (A 0) (Q 0) (S 0) ++ (wZ Y (A 1) (Q 1) (S 1) ++ (wZ Y (A 2) (Q 2) (S 2) ++ (wZ Y (A 3) (Q 3) (S 3))))))))) G (c_X3_fellHere l D Y hw qw z k (by first | assumption | omega) (by first | assumption | omega)) dX4_fell_17 rfl gX4_fell_X3_fellHere rfl rfl rfl (by decide +kernel) ⟨by decide, by decide⟩ rfl 0 rfl rfl rfl (jLe.pos [1, 2, 3, 4, 5, 6, 7, 8, 9, 0, 10, 11, 12, 13, 14, 15, 16, 17, 18, 19, 20, 21, 22, 23, 24, 25, 26, 27, 28, 29, 30, 31, 32, 33, 34, 35, 36, 37, 38, 39, 40, 41, 42, 43, 44, 45, 46, 47, 48, 49, 50, 51, 52, 53, 54, 55, 56] rfl rfl) (Nat.le_of_ble_eq_true rfl) ⟨Nat.zero_le _, Nat.zero_le _⟩ (fun v_ w_ hp_ => ?_)
  obtain ⟨rfl, rfl⟩ := hp_
  refine j_conv (ws' := sV Y h hw hb hs hh hp hd ik sn se ++ (wZ Y hw qw (G_fell z k) ++ (wZ Y hb qb z ++ (gV Y hh qh sz (r4 (A 0) (A 1) (A 2) (A 3)) ++ (wZ Y (A 0) (Q 0) (S 0) ++ (wZ Y (A 1) (Q 1) (S 1) ++ (wZ Y (A 2) (Q 2) (S 2) ++ (wZ Y (A 3) (Q 3) (S 3))))))))) (jLe.pos [9, 0, 1, 2, 3, 4, 5, 6, 7, 8, 10, 11, 12, 13, 14, 15, 16, 17, 18, 19, 20, 21, 22, 23, 24, 25, 26, 27, 28, 29, 30, 31, 32, 33, 34, 35, 36, 37, 38, 39, 40, 41, 42, 43, 44, 45, 46, 47, 48, 49, 50, 51, 52, 53, 54, 55, 56] rfl rfl) ?_
  show J x 0 0 (sV Y h hw hb hs hh hp hd ik sn se ++ (wZ Y hw qw (G_fell z k) ++ (wZ Y hb qb z ++ (gV Y hh qh sz (r4 (A 0) (A 1) (A 2) (A 3)) ++ (wZ Y (A 0) (Q 0) (S 0) ++ (wZ Y (A 1) (Q 1) (S 1) ++ (wZ Y (A 2) (Q 2) (S 2) ++ (wZ Y (A 3) (Q 3) (S 3))))))))) 20 [(0, .ref h), (1, .int (jI k))] [.int (jI (F_fell z k)), .ref h]
  refine j_callV (nA := 1) (As := [.int (jI (F_fell z k))]) (st := []) (wc := (sV Y h hw hb hs hh hp hd ik sn se ++ (wZ Y hb qb z ++ (gV Y hh qh sz (r4 (A 0) (A 1) (A 2) (A 3)) ++ (wZ Y (A 0) (Q 0) (S 0) ++ (wZ Y (A 1) (Q 1) (S 1) ++ (wZ Y (A 2) (Q 2) (S 2) ++ (wZ Y (A 3) (Q 3) (S 3))))))))) (wr := (wZ Y hw qw (G_fell z k))) G (c_X4_recorded l D Y h hw hb hs hh hp hd ik sn se qb z qh sz (F_fell z k) A Q S (by first | assumption | omega) (by have := F_fell_b hI k; omega) (by exact hI.fe)) dX4_fell_20 rfl gX4_fell_X4_recorded rfl rfl rfl (by decide +kernel) ⟨by decide, by decide⟩ rfl 0 rfl rfl rfl (jLe.pos [0, 10, 11, 12, 13, 14, 15, 16, 17, 18, 19, 20, 21, 22, 23, 24, 25, 26, 27, 28, 29, 30, 31, 32, 33, 34, 35, 36, 37, 38, 39, 40, 41, 42, 43, 44, 45, 46, 47, 48, 49, 50, 51, 52, 53, 54, 55, 56, 1, 2, 3, 4, 5, 6, 7, 8, 9] rfl rfl) (Nat.le_of_ble_eq_true rfl) ⟨Nat.zero_le _, Nat.zero_le _⟩ (fun v_ w_ hp_ => ?_)
  obtain ⟨A2_1, Q2_2, rfl, rfl⟩ := hp_
  refine j_conv (ws' := sV Y h hw hb hs hh hp hd ik sn se ++ (wZ Y hw qw (G_fell z k) ++ (wZ Y hb qb z ++ (gV Y hh qh (hSz (F_fell z k) sz) (r4 (A2_1 0) (A2_1 1) (A2_1 2) (A2_1 3)) ++ (wZ Y (A2_1 0) (Q2_2 0) (hSt (F_fell z k) sz S z 0) ++ (wZ Y (A2_1 1) (Q2_2 1) (hSt (F_fell z k) sz S z 1) ++ (wZ Y (A2_1 2) (Q2_2 2) (hSt (F_fell z k) sz S z 2) ++ (wZ Y (A2_1 3) (Q2_2 3) (hSt (F_fell z k) sz S z 3))))))))) (jLe.pos [0, 48, 49, 50, 51, 52, 53, 54, 55, 56, 1, 2, 3, 4, 5, 6, 7, 8, 9, 10, 11, 12, 13, 14, 15, 16, 17, 18, 19, 20, 21, 22, 23, 24, 25, 26, 27, 28, 29, 30, 31, 32, 33, 34, 35, 36, 37, 38, 39, 40, 41, 42, 43, 44, 45, 46, 47] rfl rfl) ?_
  show J x 0 0 (sV Y h hw hb hs hh hp hd ik sn se ++ (wZ Y hw qw (G_fell z k) ++ (wZ Y hb qb z ++ (gV Y hh qh (hSz (F_fell z k) sz) (r4 (A2_1 0) (A2_1 1) (A2_1 2) (A2_1 3)) ++ (wZ Y (A2_1 0) (Q2_2 0) (hSt (F_fell z k) sz S z 0) ++ (wZ Y (A2_1 1) (Q2_2 1) (hSt (F_fell z k) sz S z 1) ++ (wZ Y (A2_1 2) (Q2_2 2) (hSt (F_fell z k) sz S z 2) ++ (wZ Y (A2_1 3) (Q2_2 3) (hSt (F_fell z k) sz S z 3))))))))) 23 [(0, .ref h), (1, .int (jI k))] [.int (jI (F_fell z k))]
  exact j_reti G dX4_fell_23 (by first | rfl | omega | exact ite_T (by omega) | exact ite_F (by omega)) (jLe.rf _) (kr0 _ _ ⟨A2_1, Q2_2, rfl, rfl⟩)

set_option maxHeartbeats 4000000 in
set_option maxRecDepth 100000 in
theorem c_X4_hint (l : Launch) (D : va_G) (Y : Nat → ClassId) (h : Nat) (hw : Nat) (hb : Nat) (hs : Nat) (hh : Nat) (hp : Nat) (hd : Nat) (ik : Int) (sn : Int) (se : Int) (qw : Nat → Nat) (z : Int → Int) (qb : Nat → Nat) (zb : Int → Int) (qh : Nat) (sz : Int) (qp : Nat → Nat) (ab : Int → Int) (be : Int → Int) (al : Int) (r : Int) (c : Int) (A : Nat → Nat) (Q : Nat → Nat → Nat) (S : Nat → Int → Int) (hI : Inv z) (hsz : 0 ≤ sz ∧ sz ≤ 4) (h_r : -2147483648 ≤ r ∧ r < 2147483648) (h_c : -2147483648 ≤ c ∧ c < 2147483648) : jM l yX4_hint wsX4_hint { frames := 4, cells := 0, slots := 0, locals := 81 } D Y [.ref h, .int (jI r), .int (jI c)] (sV Y h hw hb hs hh hp hd ik sn se ++ (wZ Y hw qw z ++ (wZ Y hb qb zb ++ (gV Y hh qh sz (r4 (A 0) (A 1) (A 2) (A 3)) ++ (wZ Y (A 0) (Q 0) (S 0) ++ (wZ Y (A 1) (Q 1) (S 1) ++ (wZ Y (A 2) (Q 2) (S 2) ++ (wZ Y (A 3) (Q 3) (S 3) ++ (pV Y hp qp ab be al))))))))) (fun v_ w_ => ∃ (A2 : Nat → Nat) (Q2 : Nat → Nat → Nat), v_ = some (.int (jI (F_hint z r c))) ∧ w_ = (sV Y h hw hb hs hh hp hd ik sn se ++ (wZ Y hw qw (G_hint z r c) ++ (wZ Y hb qb z ++ (gV Y hh qh (hSz (F_hint z r c) sz) (r4 (A2 0) (A2 1) (A2 2) (A2 3)) ++ (wZ Y (A2 0) (Q2 0) (hSt (F_hint z r c) sz S z 0) ++ (wZ Y (A2 1) (Q2 1) (hSt (F_hint z r c) sz S z 1) ++ (wZ Y (A2 2) (Q2 2) (hSt (F_hint z r c) sz S z 2) ++ (wZ Y (A2 3) (Q2 3) (hSt (F_hint z r c) sz S z 3) ++ (pT Y hp qp (tZ z))))))))))) 0 0 := by
  refine jM_of (cc := cX4_hint) (maxL := 3) (ret := (some .int)) (by decide) rfl (Nat.le_of_ble_eq_true rfl) (fun v w' h => by obtain ⟨_, _, h⟩ := h; exact Or.inr (Or.inl ⟨_, _, rfl, h.1, rfl⟩)) ?_
  intro x G kr0
  have G : jG x l D Y cX4_hint RX4 wsX4_hint 3 ({ frames := 4, cells := 0, slots := 0, locals := 81 } : Room) (some .int) "hint" := G
  have hinX4 : ∀ w ∈ wsX40, w ∈ wsX4_hint := fun _ h => List.mem_cons_of_mem _ (List.mem_append_left _ (List.mem_append_left _ (List.mem_append_left _ (List.mem_append_right _ h))))
  show J x 0 0 (sV Y h hw hb hs hh hp hd ik sn se ++ (wZ Y hw qw z ++ (wZ Y hb qb zb ++ (gV Y hh qh sz (r4 (A 0) (A 1) (A 2) (A 3)) ++ (wZ Y (A 0) (Q 0) (S 0) ++ (wZ Y (A 1) (Q 1) (S 1) ++ (wZ Y (A 2) (Q 2) (S 2) ++ (wZ Y (A 3) (Q 3) (S 3) ++ (pV Y hp qp ab be al))))))))) 0 [(0, .ref h), (1, .int (jI r)), (2, .int (jI c))] []
  refine j_aload_n G 0 dX4_hint_0 rfl ?_
  refine j_get (q := 1) (C := RX4) (T := TX4) (N := 9) (v := .ref hb) G 0 hinX4 dX4_hint_1 rfl rfl (by decide) (by decide +kernel) rfl ?_
  refine j_aload_n G 0 dX4_hint_4 rfl ?_
  refine j_get (q := 0) (C := RX4) (T := TX4) (N := 9) (v := .ref hw) G 0 hinX4 dX4_hint_5 rfl rfl (by decide) (by decide +kernel) rfl ?_
  refine j_callV (nA := 1) (As := [.ref hw]) (st := []) (wc := (wZ Y hb qb zb ++ (wZ Y hw qw z))) (wr := (sV Y h hw hb hs hh hp hd ik sn se ++ (gV Y hh qh sz (r4 (A 0) (A 1) (A 2) (A 3)) ++ (wZ Y (A 0) (Q 0) (S 0) ++ (wZ Y (A 1) (Q 1) (S 1) ++ (wZ Y (A 2) (Q 2) (S 2) ++ (wZ Y (A 3) (Q 3) (S 3) ++ (pV Y hp qp ab be al)))))))) G (c_X3_copyFromZ l D Y hb qb zb hw qw z (by first | assumption | exact hI.fe)) dX4_hint_8 rfl gX4_hint_X3_copyFrom rfl rfl rfl (by decide +kernel) ⟨by decide, by decide⟩ rfl 0 rfl rfl rfl (jLe.pos [10, 11, 12, 13, 14, 15, 16, 17, 18, 1, 2, 3, 4, 5, 6, 7, 8, 9, 0, 19, 20, 21, 22, 23, 24, 25, 26, 27, 28, 29, 30, 31, 32, 33, 34, 35, 36, 37, 38, 39, 40, 41, 42, 43, 44, 45, 46, 47, 48, 49, 50, 51, 52, 53, 54, 55, 56, 57, 58, 59] rfl rfl) (Nat.le_of_ble_eq_true rfl) ⟨Nat.zero_le _, Nat.zero_le _⟩ (fun v_ w_ hp_ => ?_)
  obtain ⟨rfl, rfl⟩ := hp_
  refine j_conv (ws' := sV Y h hw hb hs hh hp hd ik sn se ++ (wZ Y hw qw z ++ (wZ Y hb qb z ++ (gV Y hh qh sz (r4 (A 0) (A 1) (A 2) (A 3)) ++ (wZ Y (A 0) (Q 0) (S 0) ++ (wZ Y (A 1) (Q 1) (S 1) ++ (wZ Y (A 2) (Q 2) (S 2) ++ (wZ Y (A 3) (Q 3) (S 3) ++ (pV Y hp qp ab be al))))))))) (jLe.pos [18, 9, 10, 11, 12, 13, 14, 15, 16, 17, 0, 1, 2, 3, 4, 5, 6, 7, 8, 19, 20, 21, 22, 23, 24, 25, 26, 27, 28, 29, 30, 31, 32, 33, 34, 35, 36, 37, 38, 39, 40, 41, 42, 43, 44, 45, 46, 47, 48, 49, 50, 51, 52, 53, 54, 55, 56, 57, 58, 59] rfl rfl) ?_
  show J x 0 0 (sV Y h hw hb hs hh hp hd ik sn se ++ (wZ Y hw qw z ++ (wZ Y hb qb z ++ (gV Y hh qh sz (r4 (A 0) (A 1) (A 2) (A 3)) ++ (wZ Y (A 0) (Q 0) (S 0) ++ (wZ Y (A 1) (Q 1) (S 1) ++ (wZ Y (A 2) (Q 2) (S 2) ++ (wZ Y (A 3) (Q 3) (S 3) ++ (pV Y hp qp ab be al))))))))) 11 [(0, .ref h), (1, .int (jI r)), (2, .int (jI c))] []
  refine j_aload_n G 0 dX4_hint_11 rfl ?_
  refine j_aload_n G 0 dX4_hint_12 rfl ?_
  refine j_get (q := 0) (C := RX4) (T := TX4) (N := 9) (v := .ref hw) G 0 hinX4 dX4_hint_13 rfl rfl (by decide) (by decide +kernel) rfl ?_
  refine j_aload_n G 0 dX4_hint_16 rfl ?_
  refine j_callV (nA := 0) (As := []) (st := [.ref hw, .ref h]) (wc := (sV Y h hw hb hs hh hp hd ik sn se ++ (wZ Y hw qw z ++ (pV Y hp qp ab be al)))) (wr := (wZ Y hb qb z ++ (gV Y hh qh sz (r4 (A 0) (A 1) (A 2) (A 3)) ++ (wZ Y (A 0) (Q 0) (S 0) ++ (wZ Y (A 1) (Q 1) (S 1) ++ (wZ Y (A 2) (Q 2) (S 2) ++ (wZ Y (A 3) (Q 3) (S 3)))))))) G (c_X4_pathsLeft l D Y h hw hb hs hh hp hd ik sn se qw z qp ab be al (by first | assumption | omega)) dX4_hint_17 rfl gX4_hint_X4_pathsLeft rfl rfl rfl (by decide +kernel) ⟨by decide, by decide⟩ rfl 0 rfl rfl rfl (jLe.pos [0, 1, 2, 3, 4, 5, 6, 7, 8, 9, 57, 58, 59, 10, 11, 12, 13, 14, 15, 16, 17, 18, 19, 20, 21, 22, 23, 24, 25, 26, 27, 28, 29, 30, 31, 32, 33, 34, 35, 36, 37, 38, 39, 40, 41, 42, 43, 44, 45, 46, 47, 48, 49, 50, 51, 52, 53, 54, 55, 56] rfl rfl) (Nat.le_of_ble_eq_true rfl) ⟨Nat.zero_le _, Nat.zero_le _⟩ (fun v_ w_ hp_ => ?_)
  obtain ⟨rfl, rfl⟩ := hp_
  refine j_conv (ws' := sV Y h hw hb hs hh hp hd ik sn se ++ (wZ Y hw qw z ++ (wZ Y hb qb z ++ (gV Y hh qh sz (r4 (A 0) (A 1) (A 2) (A 3)) ++ (wZ Y (A 0) (Q 0) (S 0) ++ (wZ Y (A 1) (Q 1) (S 1) ++ (wZ Y (A 2) (Q 2) (S 2) ++ (wZ Y (A 3) (Q 3) (S 3) ++ (pT Y hp qp (tZ z)))))))))) (jLe.pos [0, 1, 2, 3, 4, 5, 6, 7, 8, 9, 13, 14, 15, 16, 17, 18, 19, 20, 21, 22, 23, 24, 25, 26, 27, 28, 29, 30, 31, 32, 33, 34, 35, 36, 37, 38, 39, 40, 41, 42, 43, 44, 45, 46, 47, 48, 49, 50, 51, 52, 53, 54, 55, 56, 57, 58, 59, 10, 11, 12] rfl rfl) ?_
  show J x 0 0 (sV Y h hw hb hs hh hp hd ik sn se ++ (wZ Y hw qw z ++ (wZ Y hb qb z ++ (gV Y hh qh sz (r4 (A 0) (A 1) (A 2) (A 3)) ++ (wZ Y (A 0) (Q 0) (S 0) ++ (wZ Y (A 1) (Q 1) (S 1) ++ (wZ Y (A 2) (Q 2) (S 2) ++ (wZ Y (A 3) (Q 3) (S 3) ++ (pT Y hp qp (tZ z)))))))))) 20 [(0, .ref h), (1, .int (jI r)), (2, .int (jI c))] [.ref hp, .ref hw, .ref h]
  refine j_iload_n G 1 dX4_hint_20 rfl ?_
  refine j_iload_n G 2 dX4_hint_21 rfl ?_
  refine j_callV (nA := 3) (As := [.ref hp, .int (jI r), .int (jI c)]) (st := [.ref h]) (wc := (wZ Y hw qw z ++ (pT Y hp qp (tZ z)))) (wr := (sV Y h hw hb hs hh hp hd ik sn se ++ (wZ Y hb qb z ++ (gV Y hh qh sz (r4 (A 0) (A 1) (A 2) (A 3)) ++ (wZ Y (A 0) (Q 0) (S 0) ++ (wZ Y (A 1) (Q 1) (S 1) ++ (wZ Y (A 2) (Q 2) (S 2) ++ (wZ Y (A 3) (Q 3) (S 3))))))))) G (c_X3_tellColumn l D Y hw qw z hp qp r c (by first | assumption | omega) (by first | assumption | omega) (by first | assumption | omega)) dX4_hint_22 rfl gX4_hint_X3_tellColumn rfl rfl rfl (by decide +kernel) ⟨by decide, by decide⟩ rfl 0 rfl rfl rfl (jLe.pos [1, 2, 3, 4, 5, 6, 7, 8, 9, 57, 58, 59, 0, 10, 11, 12, 13, 14, 15, 16, 17, 18, 19, 20, 21, 22, 23, 24, 25, 26, 27, 28, 29, 30, 31, 32, 33, 34, 35, 36, 37, 38, 39, 40, 41, 42, 43, 44, 45, 46, 47, 48, 49, 50, 51, 52, 53, 54, 55, 56] rfl rfl) (Nat.le_of_ble_eq_true rfl) ⟨Nat.zero_le _, Nat.zero_le _⟩ (fun v_ w_ hp_ => ?_)
  obtain ⟨rfl, rfl⟩ := hp_
  refine j_conv (ws' := sV Y h hw hb hs hh hp hd ik sn se ++ (wZ Y hw qw (G_hint z r c) ++ (wZ Y hb qb z ++ (gV Y hh qh sz (r4 (A 0) (A 1) (A 2) (A 3)) ++ (wZ Y (A 0) (Q 0) (S 0) ++ (wZ Y (A 1) (Q 1) (S 1) ++ (wZ Y (A 2) (Q 2) (S 2) ++ (wZ Y (A 3) (Q 3) (S 3) ++ (pT Y hp qp (tZ z)))))))))) (jLe.pos [12, 0, 1, 2, 3, 4, 5, 6, 7, 8, 13, 14, 15, 16, 17, 18, 19, 20, 21, 22, 23, 24, 25, 26, 27, 28, 29, 30, 31, 32, 33, 34, 35, 36, 37, 38, 39, 40, 41, 42, 43, 44, 45, 46, 47, 48, 49, 50, 51, 52, 53, 54, 55, 56, 57, 58, 59, 9, 10, 11] rfl rfl) ?_
  show J x 0 0 (sV Y h hw hb hs hh hp hd ik sn se ++ (wZ Y hw qw (G_hint z r c) ++ (wZ Y hb qb z ++ (gV Y hh qh sz (r4 (A 0) (A 1) (A 2) (A 3)) ++ (wZ Y (A 0) (Q 0) (S 0) ++ (wZ Y (A 1) (Q 1) (S 1) ++ (wZ Y (A 2) (Q 2) (S 2) ++ (wZ Y (A 3) (Q 3) (S 3) ++ (pT Y hp qp (tZ z)))))))))) 25 [(0, .ref h), (1, .int (jI r)), (2, .int (jI c))] [.int (jI (F_hint z r c)), .ref h]
  refine j_callV (nA := 1) (As := [.int (jI (F_hint z r c))]) (st := []) (wc := (sV Y h hw hb hs hh hp hd ik sn se ++ (wZ Y hb qb z ++ (gV Y hh qh sz (r4 (A 0) (A 1) (A 2) (A 3)) ++ (wZ Y (A 0) (Q 0) (S 0) ++ (wZ Y (A 1) (Q 1) (S 1) ++ (wZ Y (A 2) (Q 2) (S 2) ++ (wZ Y (A 3) (Q 3) (S 3))))))))) (wr := (wZ Y hw qw (G_hint z r c) ++ (pT Y hp qp (tZ z)))) G (c_X4_recorded l D Y h hw hb hs hh hp hd ik sn se qb z qh sz (F_hint z r c) A Q S (by first | assumption | omega) (by have := F_hint_b z r c; omega) (by exact hI.fe)) dX4_hint_25 rfl gX4_hint_X4_recorded rfl rfl rfl (by decide +kernel) ⟨by decide, by decide⟩ rfl 0 rfl rfl rfl (jLe.pos [0, 10, 11, 12, 13, 14, 15, 16, 17, 18, 19, 20, 21, 22, 23, 24, 25, 26, 27, 28, 29, 30, 31, 32, 33, 34, 35, 36, 37, 38, 39, 40, 41, 42, 43, 44, 45, 46, 47, 48, 49, 50, 51, 52, 53, 54, 55, 56, 1, 2, 3, 4, 5, 6, 7, 8, 9, 57, 58, 59] rfl rfl) (Nat.le_of_ble_eq_true rfl) ⟨Nat.zero_le _, Nat.zero_le _⟩ (fun v_ w_ hp_ => ?_)
  obtain ⟨A2_1, Q2_2, rfl, rfl⟩ := hp_
  refine j_conv (ws' := sV Y h hw hb hs hh hp hd ik sn se ++ (wZ Y hw qw (G_hint z r c) ++ (wZ Y hb qb z ++ (gV Y hh qh (hSz (F_hint z r c) sz) (r4 (A2_1 0) (A2_1 1) (A2_1 2) (A2_1 3)) ++ (wZ Y (A2_1 0) (Q2_2 0) (hSt (F_hint z r c) sz S z 0) ++ (wZ Y (A2_1 1) (Q2_2 1) (hSt (F_hint z r c) sz S z 1) ++ (wZ Y (A2_1 2) (Q2_2 2) (hSt (F_hint z r c) sz S z 2) ++ (wZ Y (A2_1 3) (Q2_2 3) (hSt (F_hint z r c) sz S z 3) ++ (pT Y hp qp (tZ z)))))))))) (jLe.pos [0, 48, 49, 50, 51, 52, 53, 54, 55, 56, 1, 2, 3, 4, 5, 6, 7, 8, 9, 10, 11, 12, 13, 14, 15, 16, 17, 18, 19, 20, 21, 22, 23, 24, 25, 26, 27, 28, 29, 30, 31, 32, 33, 34, 35, 36, 37, 38, 39, 40, 41, 42, 43, 44, 45, 46, 47, 57, 58, 59] rfl rfl) ?_
  show J x 0 0 (sV Y h hw hb hs hh hp hd ik sn se ++ (wZ Y hw qw (G_hint z r c) ++ (wZ Y hb qb z ++ (gV Y hh qh (hSz (F_hint z r c) sz) (r4 (A2_1 0) (A2_1 1) (A2_1 2) (A2_1 3)) ++ (wZ Y (A2_1 0) (Q2_2 0) (hSt (F_hint z r c) sz S z 0) ++ (wZ Y (A2_1 1) (Q2_2 1) (hSt (F_hint z r c) sz S z 1) ++ (wZ Y (A2_1 2) (Q2_2 2) (hSt (F_hint z r c) sz S z 2) ++ (wZ Y (A2_1 3) (Q2_2 3) (hSt (F_hint z r c) sz S z 3) ++ (pT Y hp qp (tZ z)))))))))) 28 [(0, .ref h), (1, .int (jI r)), (2, .int (jI c))] [.int (jI (F_hint z r c))]
  exact j_reti G dX4_hint_28 (by first | rfl | omega | exact ite_T (by omega) | exact ite_F (by omega)) (jLe.rf _) (kr0 _ _ ⟨A2_1, Q2_2, rfl, rfl⟩)

set_option maxHeartbeats 4000000 in
set_option maxRecDepth 100000 in
theorem c_X4_takeBack (l : Launch) (D : va_G) (Y : Nat → ClassId) (h : Nat) (hw : Nat) (hb : Nat) (hs : Nat) (hh : Nat) (hp : Nat) (hd : Nat) (ik : Int) (sn : Int) (se : Int) (qw : Nat → Nat) (z : Int → Int) (qb : Nat → Nat) (zb : Int → Int) (qh : Nat) (sz : Int) (qp : Nat → Nat) (ab : Int → Int) (be : Int → Int) (al : Int) (r : Int) (A : Nat → Nat) (Q : Nat → Nat → Nat) (S : Nat → Int → Int) (hI : Inv z) (hsz : 0 ≤ sz ∧ sz ≤ 4) (h_r : -2147483648 ≤ r ∧ r < 2147483648) : jM l yX4_takeBack wsX4_takeBack { frames := 4, cells := 0, slots := 0, locals := 81 } D Y [.ref h, .int (jI r)] (sV Y h hw hb hs hh hp hd ik sn se ++ (wZ Y hw qw z ++ (wZ Y hb qb zb ++ (gV Y hh qh sz (r4 (A 0) (A 1) (A 2) (A 3)) ++ (wZ Y (A 0) (Q 0) (S 0) ++ (wZ Y (A 1) (Q 1) (S 1) ++ (wZ Y (A 2) (Q 2) (S 2) ++ (wZ Y (A 3) (Q 3) (S 3) ++ (pV Y hp qp ab be al))))))))) (fun v_ w_ => ∃ (A2 : Nat → Nat) (Q2 : Nat → Nat → Nat) (ab2 : Int → Int) (be2 : Int → Int) (al2 : Int), v_ = some (.int (jI (F_back z r))) ∧ w_ = (sV Y h hw hb hs hh hp hd ik sn se ++ (wZ Y hw qw (G_back z r) ++ (wZ Y hb qb z ++ (gV Y hh qh (hSz (F_back z r) sz) (r4 (A2 0) (A2 1) (A2 2) (A2 3)) ++ (wZ Y (A2 0) (Q2 0) (hSt (F_back z r) sz S z 0) ++ (wZ Y (A2 1) (Q2 1) (hSt (F_back z r) sz S z 1) ++ (wZ Y (A2 2) (Q2 2) (hSt (F_back z r) sz S z 2) ++ (wZ Y (A2 3) (Q2 3) (hSt (F_back z r) sz S z 3) ++ (pV Y hp qp ab2 be2 al2)))))))))) 0 0 := by
  refine jM_of (cc := cX4_takeBack) (maxL := 2) (ret := (some .int)) (by decide) rfl (Nat.le_of_ble_eq_true rfl) (fun v w' h => by obtain ⟨_, _, _, _, _, h⟩ := h; exact Or.inr (Or.inl ⟨_, _, rfl, h.1, rfl⟩)) ?_
  intro x G kr0
  have G : jG x l D Y cX4_takeBack RX4 wsX4_takeBack 2 ({ frames := 4, cells := 0, slots := 0, locals := 81 } : Room) (some .int) "takeBack" := G
  have hinX4 : ∀ w ∈ wsX40, w ∈ wsX4_takeBack := fun _ h => List.mem_cons_of_mem _ (List.mem_append_left _ (List.mem_append_left _ (List.mem_append_left _ (List.mem_append_right _ h))))
  show J x 0 0 (sV Y h hw hb hs hh hp hd ik sn se ++ (wZ Y hw qw z ++ (wZ Y hb qb zb ++ (gV Y hh qh sz (r4 (A 0) (A 1) (A 2) (A 3)) ++ (wZ Y (A 0) (Q 0) (S 0) ++ (wZ Y (A 1) (Q 1) (S 1) ++ (wZ Y (A 2) (Q 2) (S 2) ++ (wZ Y (A 3) (Q 3) (S 3) ++ (pV Y hp qp ab be al))))))))) 0 [(0, .ref h), (1, .int (jI r))] []
  refine j_aload_n G 0 dX4_takeBack_0 rfl ?_
  refine j_get (q := 1) (C := RX4) (T := TX4) (N := 9) (v := .ref hb) G 0 hinX4 dX4_takeBack_1 rfl rfl (by decide) (by decide +kernel) rfl ?_
  refine j_aload_n G 0 dX4_takeBack_4 rfl ?_
  refine j_get (q := 0) (C := RX4) (T := TX4) (N := 9) (v := .ref hw) G 0 hinX4 dX4_takeBack_5 rfl rfl (by decide) (by decide +kernel) rfl ?_
  refine j_callV (nA := 1) (As := [.ref hw]) (st := []) (wc := (wZ Y hb qb zb ++ (wZ Y hw qw z))) (wr := (sV Y h hw hb hs hh hp hd ik sn se ++ (gV Y hh qh sz (r4 (A 0) (A 1) (A 2) (A 3)) ++ (wZ Y (A 0) (Q 0) (S 0) ++ (wZ Y (A 1) (Q 1) (S 1) ++ (wZ Y (A 2) (Q 2) (S 2) ++ (wZ Y (A 3) (Q 3) (S 3) ++ (pV Y hp qp ab be al)))))))) G (c_X3_copyFromZ l D Y hb qb zb hw qw z (by first | assumption | exact hI.fe)) dX4_takeBack_8 rfl gX4_takeBack_X3_copyFrom rfl rfl rfl (by decide +kernel) ⟨by decide, by decide⟩ rfl 0 rfl rfl rfl (jLe.pos [10, 11, 12, 13, 14, 15, 16, 17, 18, 1, 2, 3, 4, 5, 6, 7, 8, 9, 0, 19, 20, 21, 22, 23, 24, 25, 26, 27, 28, 29, 30, 31, 32, 33, 34, 35, 36, 37, 38, 39, 40, 41, 42, 43, 44, 45, 46, 47, 48, 49, 50, 51, 52, 53, 54, 55, 56, 57, 58, 59] rfl rfl) (Nat.le_of_ble_eq_true rfl) ⟨Nat.zero_le _, Nat.zero_le _⟩ (fun v_ w_ hp_ => ?_)
  obtain ⟨rfl, rfl⟩ := hp_
  refine j_conv (ws' := sV Y h hw hb hs hh hp hd ik sn se ++ (wZ Y hw qw z ++ (wZ Y hb qb z ++ (gV Y hh qh sz (r4 (A 0) (A 1) (A 2) (A 3)) ++ (wZ Y (A 0) (Q 0) (S 0) ++ (wZ Y (A 1) (Q 1) (S 1) ++ (wZ Y (A 2) (Q 2) (S 2) ++ (wZ Y (A 3) (Q 3) (S 3) ++ (pV Y hp qp ab be al))))))))) (jLe.pos [18, 9, 10, 11, 12, 13, 14, 15, 16, 17, 0, 1, 2, 3, 4, 5, 6, 7, 8, 19, 20, 21, 22, 23, 24, 25, 26, 27, 28, 29, 30, 31, 32, 33, 34, 35, 36, 37, 38, 39, 40, 41, 42, 43, 44, 45, 46, 47, 48, 49, 50, 51, 52, 53, 54, 55, 56, 57, 58, 59] rfl rfl) ?_
  show J x 0 0 (sV Y h hw hb hs hh hp hd ik sn se ++ (wZ Y hw qw z ++ (wZ Y hb qb z ++ (gV Y hh qh sz (r4 (A 0) (A 1) (A 2) (A 3)) ++ (wZ Y (A 0) (Q 0) (S 0) ++ (wZ Y (A 1) (Q 1) (S 1) ++ (wZ Y (A 2) (Q 2) (S 2) ++ (wZ Y (A 3) (Q 3) (S 3) ++ (pV Y hp qp ab be al))))))))) 11 [(0, .ref h), (1, .int (jI r))] []
  refine j_aload_n G 0 dX4_takeBack_11 rfl ?_
  refine j_aload_n G 0 dX4_takeBack_12 rfl ?_
  refine j_get (q := 0) (C := RX4) (T := TX4) (N := 9) (v := .ref hw) G 0 hinX4 dX4_takeBack_13 rfl rfl (by decide) (by decide +kernel) rfl ?_
  refine j_aload_n G 0 dX4_takeBack_16 rfl ?_
  refine j_get (q := 5) (C := RX4) (T := TX4) (N := 9) (v := .ref hp) G 0 hinX4 dX4_takeBack_17 rfl rfl (by decide) (by decide +kernel) rfl ?_
  refine j_iload_n G 1 dX4_takeBack_20 rfl ?_
  refine j_callV (nA := 2) (As := [.ref hp, .int (jI r)]) (st := [.ref h]) (wc := (wZ Y hw qw z ++ (pV Y hp qp ab be al))) (wr := (sV Y h hw hb hs hh hp hd ik sn se ++ (wZ Y hb qb z ++ (gV Y hh qh sz (r4 (A 0) (A 1) (A 2) (A 3)) ++ (wZ Y (A 0) (Q 0) (S 0) ++ (wZ Y (A 1) (Q 1) (S 1) ++ (wZ Y (A 2) (Q 2) (S 2) ++ (wZ Y (A 3) (Q 3) (S 3))))))))) G (c_X3_untellColumn l D Y hw qw z hp qp ab be al r (by first | assumption | omega) (by first | assumption | omega)) dX4_takeBack_21 rfl gX4_takeBack_X3_untellColumn rfl rfl rfl (by decide +kernel) ⟨by decide, by decide⟩ rfl 0 rfl rfl rfl (jLe.pos [1, 2, 3, 4, 5, 6, 7, 8, 9, 57, 58, 59, 0, 10, 11, 12, 13, 14, 15, 16, 17, 18, 19, 20, 21, 22, 23, 24, 25, 26, 27, 28, 29, 30, 31, 32, 33, 34, 35, 36, 37, 38, 39, 40, 41, 42, 43, 44, 45, 46, 47, 48, 49, 50, 51, 52, 53, 54, 55, 56] rfl rfl) (Nat.le_of_ble_eq_true rfl) ⟨Nat.zero_le _, Nat.zero_le _⟩ (fun v_ w_ hp_ => ?_)
  obtain ⟨ab2_1, be2_2, al2_3, rfl, rfl⟩ := hp_
  refine j_conv (ws' := sV Y h hw hb hs hh hp hd ik sn se ++ (wZ Y hw qw (G_back z r) ++ (wZ Y hb qb z ++ (gV Y hh qh sz (r4 (A 0) (A 1) (A 2) (A 3)) ++ (wZ Y (A 0) (Q 0) (S 0) ++ (wZ Y (A 1) (Q 1) (S 1) ++ (wZ Y (A 2) (Q 2) (S 2) ++ (wZ Y (A 3) (Q 3) (S 3) ++ (pV Y hp qp ab2_1 be2_2 al2_3))))))))) (jLe.pos [12, 0, 1, 2, 3, 4, 5, 6, 7, 8, 13, 14, 15, 16, 17, 18, 19, 20, 21, 22, 23, 24, 25, 26, 27, 28, 29, 30, 31, 32, 33, 34, 35, 36, 37, 38, 39, 40, 41, 42, 43, 44, 45, 46, 47, 48, 49, 50, 51, 52, 53, 54, 55, 56, 57, 58, 59, 9, 10, 11] rfl rfl) ?_
  show J x 0 0 (sV Y h hw hb hs hh hp hd ik sn se ++ (wZ Y hw qw (G_back z r) ++ (wZ Y hb qb z ++ (gV Y hh qh sz (r4 (A 0) (A 1) (A 2) (A 3)) ++ (wZ Y (A 0) (Q 0) (S 0) ++ (wZ Y (A 1) (Q 1) (S 1) ++ (wZ Y (A 2) (Q 2) (S 2) ++ (wZ Y (A 3) (Q 3) (S 3) ++ (pV Y hp qp ab2_1 be2_2 al2_3))))))))) 24 [(0, .ref h), (1, .int (jI r))] [.int (jI (F_back z r)), .ref h]
  refine j_callV (nA := 1) (As := [.int (jI (F_back z r))]) (st := []) (wc := (sV Y h hw hb hs hh hp hd ik sn se ++ (wZ Y hb qb z ++ (gV Y hh qh sz (r4 (A 0) (A 1) (A 2) (A 3)) ++ (wZ Y (A 0) (Q 0) (S 0) ++ (wZ Y (A 1) (Q 1) (S 1) ++ (wZ Y (A 2) (Q 2) (S 2) ++ (wZ Y (A 3) (Q 3) (S 3))))))))) (wr := (wZ Y hw qw (G_back z r) ++ (pV Y hp qp ab2_1 be2_2 al2_3))) G (c_X4_recorded l D Y h hw hb hs hh hp hd ik sn se qb z qh sz (F_back z r) A Q S (by first | assumption | omega) (by have := F_back_b z r; omega) (by exact hI.fe)) dX4_takeBack_24 rfl gX4_takeBack_X4_recorded rfl rfl rfl (by decide +kernel) ⟨by decide, by decide⟩ rfl 0 rfl rfl rfl (jLe.pos [0, 10, 11, 12, 13, 14, 15, 16, 17, 18, 19, 20, 21, 22, 23, 24, 25, 26, 27, 28, 29, 30, 31, 32, 33, 34, 35, 36, 37, 38, 39, 40, 41, 42, 43, 44, 45, 46, 47, 48, 49, 50, 51, 52, 53, 54, 55, 56, 1, 2, 3, 4, 5, 6, 7, 8, 9, 57, 58, 59] rfl rfl) (Nat.le_of_ble_eq_true rfl) ⟨Nat.zero_le _, Nat.zero_le _⟩ (fun v_ w_ hp_ => ?_)
  obtain ⟨A2_4, Q2_5, rfl, rfl⟩ := hp_
  refine j_conv (ws' := sV Y h hw hb hs hh hp hd ik sn se ++ (wZ Y hw qw (G_back z r) ++ (wZ Y hb qb z ++ (gV Y hh qh (hSz (F_back z r) sz) (r4 (A2_4 0) (A2_4 1) (A2_4 2) (A2_4 3)) ++ (wZ Y (A2_4 0) (Q2_5 0) (hSt (F_back z r) sz S z 0) ++ (wZ Y (A2_4 1) (Q2_5 1) (hSt (F_back z r) sz S z 1) ++ (wZ Y (A2_4 2) (Q2_5 2) (hSt (F_back z r) sz S z 2) ++ (wZ Y (A2_4 3) (Q2_5 3) (hSt (F_back z r) sz S z 3) ++ (pV Y hp qp ab2_1 be2_2 al2_3))))))))) (jLe.pos [0, 48, 49, 50, 51, 52, 53, 54, 55, 56, 1, 2, 3, 4, 5, 6, 7, 8, 9, 10, 11, 12, 13, 14, 15, 16, 17, 18, 19, 20, 21, 22, 23, 24, 25, 26, 27, 28, 29, 30, 31, 32, 33, 34, 35, 36, 37, 38, 39, 40, 41, 42, 43, 44, 45, 46, 47, 57, 58, 59] rfl rfl) ?_
  show J x 0 0 (sV Y h hw hb hs hh hp hd ik sn se ++ (wZ Y hw qw (G_back z r) ++ (wZ Y hb qb z ++ (gV Y hh qh (hSz (F_back z r) sz) (r4 (A2_4 0) (A2_4 1) (A2_4 2) (A2_4 3)) ++ (wZ Y (A2_4 0) (Q2_5 0) (hSt (F_back z r) sz S z 0) ++ (wZ Y (A2_4 1) (Q2_5 1) (hSt (F_back z r) sz S z 1) ++ (wZ Y (A2_4 2) (Q2_5 2) (hSt (F_back z r) sz S z 2) ++ (wZ Y (A2_4 3) (Q2_5 3) (hSt (F_back z r) sz S z 3) ++ (pV Y hp qp ab2_1 be2_2 al2_3))))))))) 27 [(0, .ref h), (1, .int (jI r))] [.int (jI (F_back z r))]
  exact j_reti G dX4_takeBack_27 (by first | rfl | omega | exact ite_T (by omega) | exact ite_F (by omega)) (jLe.rf _) (kr0 _ _ ⟨A2_4, Q2_5, ab2_1, be2_2, al2_3, rfl, rfl⟩)

set_option maxHeartbeats 4000000 in
set_option maxRecDepth 100000 in
theorem c_X4_storm (l : Launch) (D : va_G) (Y : Nat → ClassId) (h : Nat) (hw : Nat) (hb : Nat) (hs : Nat) (hh : Nat) (hp : Nat) (hd : Nat) (ik : Int) (sn : Int) (se : Int) (qw : Nat → Nat) (z : Int → Int) (qb : Nat → Nat) (zb : Int → Int) (qh : Nat) (sz : Int) (qp : Nat → Nat) (ab : Int → Int) (be : Int → Int) (al : Int) (A : Nat → Nat) (Q : Nat → Nat → Nat) (S : Nat → Int → Int) (hI : Inv z) (hsz : 0 ≤ sz ∧ sz ≤ 4) : jM l yX4_storm wsX4_storm { frames := 6, cells := 0, slots := 0, locals := 141 } D Y [.ref h] (sV Y h hw hb hs hh hp hd ik sn se ++ (wZ Y hw qw z ++ (wZ Y hb qb zb ++ (gV Y hh qh sz (r4 (A 0) (A 1) (A 2) (A 3)) ++ (wZ Y (A 0) (Q 0) (S 0) ++ (wZ Y (A 1) (Q 1) (S 1) ++ (wZ Y (A 2) (Q 2) (S 2) ++ (wZ Y (A 3) (Q 3) (S 3) ++ (pV Y hp qp ab be al))))))))) (fun v_ w_ => ∃ (A2 : Nat → Nat) (Q2 : Nat → Nat → Nat), v_ = some (.int (jI (F_storm z))) ∧ w_ = (sV Y h hw hb hs hh hp hd ik sn se ++ (wZ Y hw qw (G_storm z) ++ (wZ Y hb qb z ++ (gV Y hh qh (hSz (F_storm z) sz) (r4 (A2 0) (A2 1) (A2 2) (A2 3)) ++ (wZ Y (A2 0) (Q2 0) (hSt (F_storm z) sz S z 0) ++ (wZ Y (A2 1) (Q2 1) (hSt (F_storm z) sz S z 1) ++ (wZ Y (A2 2) (Q2 2) (hSt (F_storm z) sz S z 2) ++ (wZ Y (A2 3) (Q2 3) (hSt (F_storm z) sz S z 3) ++ (pT Y hp qp (tZ z))))))))))) 0 0 := by
  refine jM_of (cc := cX4_storm) (maxL := 1) (ret := (some .int)) (by decide) rfl (Nat.le_of_ble_eq_true rfl) (fun v w' h => by obtain ⟨_, _, h⟩ := h; exact Or.inr (Or.inl ⟨_, _, rfl, h.1, rfl⟩)) ?_
  intro x G kr0
  have G : jG x l D Y cX4_storm RX4 wsX4_storm 1 ({ frames := 6, cells := 0, slots := 0, locals := 141 } : Room) (some .int) "storm" := G
  have hinX4 : ∀ w ∈ wsX40, w ∈ wsX4_storm := fun _ h => List.mem_cons_of_mem _ (List.mem_append_left _ (List.mem_append_left _ (List.mem_append_left _ (List.mem_append_right _ h))))
  show J x 0 0 (sV Y h hw hb hs hh hp hd ik sn se ++ (wZ Y hw qw z ++ (wZ Y hb qb zb ++ (gV Y hh qh sz (r4 (A 0) (A 1) (A 2) (A 3)) ++ (wZ Y (A 0) (Q 0) (S 0) ++ (wZ Y (A 1) (Q 1) (S 1) ++ (wZ Y (A 2) (Q 2) (S 2) ++ (wZ Y (A 3) (Q 3) (S 3) ++ (pV Y hp qp ab be al))))))))) 0 [(0, .ref h)] []
  refine j_aload_n G 0 dX4_storm_0 rfl ?_
  refine j_get (q := 1) (C := RX4) (T := TX4) (N := 9) (v := .ref hb) G 0 hinX4 dX4_storm_1 rfl rfl (by decide) (by decide +kernel) rfl ?_
  refine j_aload_n G 0 dX4_storm_4 rfl ?_
  refine j_get (q := 0) (C := RX4) (T := TX4) (N := 9) (v := .ref hw) G 0 hinX4 dX4_storm_5 rfl rfl (by decide) (by decide +kernel) rfl ?_
  refine j_callV (nA := 1) (As := [.ref hw]) (st := []) (wc := (wZ Y hb qb zb ++ (wZ Y hw qw z))) (wr := (sV Y h hw hb hs hh hp hd ik sn se ++ (gV Y hh qh sz (r4 (A 0) (A 1) (A 2) (A 3)) ++ (wZ Y (A 0) (Q 0) (S 0) ++ (wZ Y (A 1) (Q 1) (S 1) ++ (wZ Y (A 2) (Q 2) (S 2) ++ (wZ Y (A 3) (Q 3) (S 3) ++ (pV Y hp qp ab be al)))))))) G (c_X3_copyFromZ l D Y hb qb zb hw qw z (by first | assumption | exact hI.fe)) dX4_storm_8 rfl gX4_storm_X3_copyFrom rfl rfl rfl (by decide +kernel) ⟨by decide, by decide⟩ rfl 0 rfl rfl rfl (jLe.pos [10, 11, 12, 13, 14, 15, 16, 17, 18, 1, 2, 3, 4, 5, 6, 7, 8, 9, 0, 19, 20, 21, 22, 23, 24, 25, 26, 27, 28, 29, 30, 31, 32, 33, 34, 35, 36, 37, 38, 39, 40, 41, 42, 43, 44, 45, 46, 47, 48, 49, 50, 51, 52, 53, 54, 55, 56, 57, 58, 59] rfl rfl) (Nat.le_of_ble_eq_true rfl) ⟨Nat.zero_le _, Nat.zero_le _⟩ (fun v_ w_ hp_ => ?_)
  obtain ⟨rfl, rfl⟩ := hp_
  refine j_conv (ws' := sV Y h hw hb hs hh hp hd ik sn se ++ (wZ Y hw qw z ++ (wZ Y hb qb z ++ (gV Y hh qh sz (r4 (A 0) (A 1) (A 2) (A 3)) ++ (wZ Y (A 0) (Q 0) (S 0) ++ (wZ Y (A 1) (Q 1) (S 1) ++ (wZ Y (A 2) (Q 2) (S 2) ++ (wZ Y (A 3) (Q 3) (S 3) ++ (pV Y hp qp ab be al))))))))) (jLe.pos [18, 9, 10, 11, 12, 13, 14, 15, 16, 17, 0, 1, 2, 3, 4, 5, 6, 7, 8, 19, 20, 21, 22, 23, 24, 25, 26, 27, 28, 29, 30, 31, 32, 33, 34, 35, 36, 37, 38, 39, 40, 41, 42, 43, 44, 45, 46, 47, 48, 49, 50, 51, 52, 53, 54, 55, 56, 57, 58, 59] rfl rfl) ?_
  show J x 0 0 (sV Y h hw hb hs hh hp hd ik sn se ++ (wZ Y hw qw z ++ (wZ Y hb qb z ++ (gV Y hh qh sz (r4 (A 0) (A 1) (A 2) (A 3)) ++ (wZ Y (A 0) (Q 0) (S 0) ++ (wZ Y (A 1) (Q 1) (S 1) ++ (wZ Y (A 2) (Q 2) (S 2) ++ (wZ Y (A 3) (Q 3) (S 3) ++ (pV Y hp qp ab be al))))))))) 11 [(0, .ref h)] []
  refine j_aload_n G 0 dX4_storm_11 rfl ?_
  refine j_aload_n G 0 dX4_storm_12 rfl ?_
  refine j_get (q := 0) (C := RX4) (T := TX4) (N := 9) (v := .ref hw) G 0 hinX4 dX4_storm_13 rfl rfl (by decide) (by decide +kernel) rfl ?_
  refine j_aload_n G 0 dX4_storm_16 rfl ?_
  refine j_callV (nA := 0) (As := []) (st := [.ref hw, .ref h]) (wc := (sV Y h hw hb hs hh hp hd ik sn se ++ (wZ Y hw qw z ++ (pV Y hp qp ab be al)))) (wr := (wZ Y hb qb z ++ (gV Y hh qh sz (r4 (A 0) (A 1) (A 2) (A 3)) ++ (wZ Y (A 0) (Q 0) (S 0) ++ (wZ Y (A 1) (Q 1) (S 1) ++ (wZ Y (A 2) (Q 2) (S 2) ++ (wZ Y (A 3) (Q 3) (S 3)))))))) G (c_X4_pathsLeft l D Y h hw hb hs hh hp hd ik sn se qw z qp ab be al (by first | assumption | omega)) dX4_storm_17 rfl gX4_storm_X4_pathsLeft rfl rfl rfl (by decide +kernel) ⟨by decide, by decide⟩ rfl 0 rfl rfl rfl (jLe.pos [0, 1, 2, 3, 4, 5, 6, 7, 8, 9, 57, 58, 59, 10, 11, 12, 13, 14, 15, 16, 17, 18, 19, 20, 21, 22, 23, 24, 25, 26, 27, 28, 29, 30, 31, 32, 33, 34, 35, 36, 37, 38, 39, 40, 41, 42, 43, 44, 45, 46, 47, 48, 49, 50, 51, 52, 53, 54, 55, 56] rfl rfl) (Nat.le_of_ble_eq_true rfl) ⟨Nat.zero_le _, Nat.zero_le _⟩ (fun v_ w_ hp_ => ?_)
  obtain ⟨rfl, rfl⟩ := hp_
  refine j_conv (ws' := sV Y h hw hb hs hh hp hd ik sn se ++ (wZ Y hw qw z ++ (wZ Y hb qb z ++ (gV Y hh qh sz (r4 (A 0) (A 1) (A 2) (A 3)) ++ (wZ Y (A 0) (Q 0) (S 0) ++ (wZ Y (A 1) (Q 1) (S 1) ++ (wZ Y (A 2) (Q 2) (S 2) ++ (wZ Y (A 3) (Q 3) (S 3) ++ (pT Y hp qp (tZ z)))))))))) (jLe.pos [0, 1, 2, 3, 4, 5, 6, 7, 8, 9, 13, 14, 15, 16, 17, 18, 19, 20, 21, 22, 23, 24, 25, 26, 27, 28, 29, 30, 31, 32, 33, 34, 35, 36, 37, 38, 39, 40, 41, 42, 43, 44, 45, 46, 47, 48, 49, 50, 51, 52, 53, 54, 55, 56, 57, 58, 59, 10, 11, 12] rfl rfl) ?_
  show J x 0 0 (sV Y h hw hb hs hh hp hd ik sn se ++ (wZ Y hw qw z ++ (wZ Y hb qb z ++ (gV Y hh qh sz (r4 (A 0) (A 1) (A 2) (A 3)) ++ (wZ Y (A 0) (Q 0) (S 0) ++ (wZ Y (A 1) (Q 1) (S 1) ++ (wZ Y (A 2) (Q 2) (S 2) ++ (wZ Y (A 3) (Q 3) (S 3) ++ (pT Y hp qp (tZ z)))))))))) 20 [(0, .ref h)] [.ref hp, .ref hw, .ref h]
  refine j_callV (nA := 1) (As := [.ref hp]) (st := [.ref h]) (wc := (wZ Y hw qw z ++ (pT Y hp qp (tZ z)))) (wr := (sV Y h hw hb hs hh hp hd ik sn se ++ (wZ Y hb qb z ++ (gV Y hh qh sz (r4 (A 0) (A 1) (A 2) (A 3)) ++ (wZ Y (A 0) (Q 0) (S 0) ++ (wZ Y (A 1) (Q 1) (S 1) ++ (wZ Y (A 2) (Q 2) (S 2) ++ (wZ Y (A 3) (Q 3) (S 3))))))))) G (c_X3_takeStorm l D Y hw qw z hp qp (by first | assumption | omega)) dX4_storm_20 rfl gX4_storm_X3_takeStorm rfl rfl rfl (by decide +kernel) ⟨by decide, by decide⟩ rfl 0 rfl rfl rfl (jLe.pos [1, 2, 3, 4, 5, 6, 7, 8, 9, 57, 58, 59, 0, 10, 11, 12, 13, 14, 15, 16, 17, 18, 19, 20, 21, 22, 23, 24, 25, 26, 27, 28, 29, 30, 31, 32, 33, 34, 35, 36, 37, 38, 39, 40, 41, 42, 43, 44, 45, 46, 47, 48, 49, 50, 51, 52, 53, 54, 55, 56] rfl rfl) (Nat.le_of_ble_eq_true rfl) ⟨Nat.zero_le _, Nat.zero_le _⟩ (fun v_ w_ hp_ => ?_)
  obtain ⟨rfl, rfl⟩ := hp_
  refine j_conv (ws' := sV Y h hw hb hs hh hp hd ik sn se ++ (wZ Y hw qw (G_storm z) ++ (wZ Y hb qb z ++ (gV Y hh qh sz (r4 (A 0) (A 1) (A 2) (A 3)) ++ (wZ Y (A 0) (Q 0) (S 0) ++ (wZ Y (A 1) (Q 1) (S 1) ++ (wZ Y (A 2) (Q 2) (S 2) ++ (wZ Y (A 3) (Q 3) (S 3) ++ (pT Y hp qp (tZ z)))))))))) (jLe.pos [12, 0, 1, 2, 3, 4, 5, 6, 7, 8, 13, 14, 15, 16, 17, 18, 19, 20, 21, 22, 23, 24, 25, 26, 27, 28, 29, 30, 31, 32, 33, 34, 35, 36, 37, 38, 39, 40, 41, 42, 43, 44, 45, 46, 47, 48, 49, 50, 51, 52, 53, 54, 55, 56, 57, 58, 59, 9, 10, 11] rfl rfl) ?_
  show J x 0 0 (sV Y h hw hb hs hh hp hd ik sn se ++ (wZ Y hw qw (G_storm z) ++ (wZ Y hb qb z ++ (gV Y hh qh sz (r4 (A 0) (A 1) (A 2) (A 3)) ++ (wZ Y (A 0) (Q 0) (S 0) ++ (wZ Y (A 1) (Q 1) (S 1) ++ (wZ Y (A 2) (Q 2) (S 2) ++ (wZ Y (A 3) (Q 3) (S 3) ++ (pT Y hp qp (tZ z)))))))))) 23 [(0, .ref h)] [.int (jI (F_storm z)), .ref h]
  refine j_callV (nA := 1) (As := [.int (jI (F_storm z))]) (st := []) (wc := (sV Y h hw hb hs hh hp hd ik sn se ++ (wZ Y hb qb z ++ (gV Y hh qh sz (r4 (A 0) (A 1) (A 2) (A 3)) ++ (wZ Y (A 0) (Q 0) (S 0) ++ (wZ Y (A 1) (Q 1) (S 1) ++ (wZ Y (A 2) (Q 2) (S 2) ++ (wZ Y (A 3) (Q 3) (S 3))))))))) (wr := (wZ Y hw qw (G_storm z) ++ (pT Y hp qp (tZ z)))) G (c_X4_recorded l D Y h hw hb hs hh hp hd ik sn se qb z qh sz (F_storm z) A Q S (by first | assumption | omega) (by have := F_storm_b hI; omega) (by exact hI.fe)) dX4_storm_23 rfl gX4_storm_X4_recorded rfl rfl rfl (by decide +kernel) ⟨by decide, by decide⟩ rfl 0 rfl rfl rfl (jLe.pos [0, 10, 11, 12, 13, 14, 15, 16, 17, 18, 19, 20, 21, 22, 23, 24, 25, 26, 27, 28, 29, 30, 31, 32, 33, 34, 35, 36, 37, 38, 39, 40, 41, 42, 43, 44, 45, 46, 47, 48, 49, 50, 51, 52, 53, 54, 55, 56, 1, 2, 3, 4, 5, 6, 7, 8, 9, 57, 58, 59] rfl rfl) (Nat.le_of_ble_eq_true rfl) ⟨Nat.zero_le _, Nat.zero_le _⟩ (fun v_ w_ hp_ => ?_)
  obtain ⟨A2_1, Q2_2, rfl, rfl⟩ := hp_
  refine j_conv (ws' := sV Y h hw hb hs hh hp hd ik sn se ++ (wZ Y hw qw (G_storm z) ++ (wZ Y hb qb z ++ (gV Y hh qh (hSz (F_storm z) sz) (r4 (A2_1 0) (A2_1 1) (A2_1 2) (A2_1 3)) ++ (wZ Y (A2_1 0) (Q2_2 0) (hSt (F_storm z) sz S z 0) ++ (wZ Y (A2_1 1) (Q2_2 1) (hSt (F_storm z) sz S z 1) ++ (wZ Y (A2_1 2) (Q2_2 2) (hSt (F_storm z) sz S z 2) ++ (wZ Y (A2_1 3) (Q2_2 3) (hSt (F_storm z) sz S z 3) ++ (pT Y hp qp (tZ z)))))))))) (jLe.pos [0, 48, 49, 50, 51, 52, 53, 54, 55, 56, 1, 2, 3, 4, 5, 6, 7, 8, 9, 10, 11, 12, 13, 14, 15, 16, 17, 18, 19, 20, 21, 22, 23, 24, 25, 26, 27, 28, 29, 30, 31, 32, 33, 34, 35, 36, 37, 38, 39, 40, 41, 42, 43, 44, 45, 46, 47, 57, 58, 59] rfl rfl) ?_
  show J x 0 0 (sV Y h hw hb hs hh hp hd ik sn se ++ (wZ Y hw qw (G_storm z) ++ (wZ Y hb qb z ++ (gV Y hh qh (hSz (F_storm z) sz) (r4 (A2_1 0) (A2_1 1) (A2_1 2) (A2_1 3)) ++ (wZ Y (A2_1 0) (Q2_2 0) (hSt (F_storm z) sz S z 0) ++ (wZ Y (A2_1 1) (Q2_2 1) (hSt (F_storm z) sz S z 1) ++ (wZ Y (A2_1 2) (Q2_2 2) (hSt (F_storm z) sz S z 2) ++ (wZ Y (A2_1 3) (Q2_2 3) (hSt (F_storm z) sz S z 3) ++ (pT Y hp qp (tZ z)))))))))) 26 [(0, .ref h)] [.int (jI (F_storm z))]
  exact j_reti G dX4_storm_26 (by first | rfl | omega | exact ite_T (by omega) | exact ite_F (by omega)) (jLe.rf _) (kr0 _ _ ⟨A2_1, Q2_2, rfl, rfl⟩)


set_option maxHeartbeats 4000000 in
set_option maxRecDepth 100000 in
theorem c_X4_clearText (l : Launch) (D : va_G) (Y : Nat → ClassId) (h : Nat) (hw : Nat) (hb : Nat) (hs : Nat) (hh : Nat) (hp : Nat) (hd : Nat) (ik : Int) (sn : Int) (se : Int) (qd : Nat) (tx : Int → Int) (ln : Int) (an : Int) (ki : Int) (fi : Int) (sd : Int)  : jM l yX4_clearText wsX4_clearText { frames := 1, cells := 0, slots := 0, locals := 21 } D Y [.ref h] (sV Y h hw hb hs hh hp hd ik sn se ++ (dV Y hd qd tx ln an ki fi sd)) (fun v_ w_ => v_ = some (.int (jI ln)) ∧ w_ = (sV Y h hw hb hs hh hp hd ik sn se ++ (dV Y hd qd tx 0 an ki fi sd))) 0 0 := by
  refine jM_of (cc := cX4_clearText) (maxL := 1) (ret := (some .int)) (by decide) rfl (Nat.le_of_ble_eq_true rfl) (fun v w' h => Or.inr (Or.inl ⟨_, _, rfl, h.1, rfl⟩)) ?_
  intro x G kr0
  have kr := kr0 _ _ ⟨rfl, rfl⟩
  have G : jG x l D Y cX4_clearText RX4 wsX4_clearText 1 ({ frames := 1, cells := 0, slots := 0, locals := 21 } : Room) (some .int) "clearText" := G
  have hinX4 : ∀ w ∈ wsX40, w ∈ wsX4_clearText := fun _ h => List.mem_cons_of_mem _ (List.mem_append_left _ (List.mem_append_right _ h))
  show J x 0 0 (sV Y h hw hb hs hh hp hd ik sn se ++ (dV Y hd qd tx ln an ki fi sd)) 0 [(0, .ref h)] []
  refine j_aload_n G 0 dX4_clearText_0 rfl ?_
  refine j_get (q := 6) (C := RX4) (T := TX4) (N := 9) (v := .ref hd) G 0 hinX4 dX4_clearText_1 rfl rfl (by decide) (by decide +kernel) rfl ?_
  refine j_callV (nA := 0) (As := []) (st := []) (wc := (dV Y hd qd tx ln an ki fi sd)) (wr := (sV Y h hw hb hs hh hp hd ik sn se)) G (c_X0_empty l D Y hd qd tx ln an ki fi sd ) dX4_clearText_4 rfl gX4_clearText_X0_empty rfl rfl rfl (by decide +kernel) ⟨by decide, by decide⟩ rfl 0 rfl rfl rfl (jLe.pos [1, 2, 0] rfl rfl) (Nat.le_of_ble_eq_true rfl) ⟨Nat.zero_le _, Nat.zero_le _⟩ (fun v_ w_ hp_ => ?_)
  obtain ⟨rfl, rfl⟩ := hp_
  refine j_conv (ws' := sV Y h hw hb hs hh hp hd ik sn se ++ (dV Y hd qd tx 0 an ki fi sd)) (jLe.pos [2, 0, 1] rfl rfl) ?_
  show J x 0 0 (sV Y h hw hb hs hh hp hd ik sn se ++ (dV Y hd qd tx 0 an ki fi sd)) 7 [(0, .ref h)] [.int (jI ln)]
  exact j_reti G dX4_clearText_7 (by first | rfl | omega | exact ite_T (by omega) | exact ite_F (by omega)) (jLe.rf _) kr

set_option maxHeartbeats 4000000 in
set_option maxRecDepth 100000 in
theorem c_X4_stopped (l : Launch) (D : va_G) (Y : Nat → ClassId) (h : Nat) (hw : Nat) (hb : Nat) (hs : Nat) (hh : Nat) (hp : Nat) (hd : Nat) (ik : Int) (sn : Int) (se : Int) (w : Int) (h_w : -2147483648 ≤ w ∧ w < 2147483648) (hse : -2147483648 ≤ se ∧ se < 2147483648) : jM l yX4_stopped wsX4_stopped { frames := 1, cells := 0, slots := 0, locals := 22 } D Y [.ref h, .int (jI w)] (sV Y h hw hb hs hh hp hd ik sn se) (fun v_ w_ => v_ = some (.int (jI (F_stop sn se w))) ∧ w_ = (sV Y h hw hb hs hh hp hd ik sn se)) 0 0 := by
  refine jM_of (cc := cX4_stopped) (maxL := 2) (ret := (some .int)) (by decide) rfl (Nat.le_of_ble_eq_true rfl) (fun v w' h => Or.inr (Or.inl ⟨_, _, rfl, h.1, rfl⟩)) ?_
  intro x G kr0
  have kr := kr0 _ _ ⟨rfl, rfl⟩
  have G : jG x l D Y cX4_stopped RX4 wsX4_stopped 2 ({ frames := 1, cells := 0, slots := 0, locals := 22 } : Room) (some .int) "stopped" := G
  have hinX4 : ∀ w ∈ wsX40, w ∈ wsX4_stopped := fun _ h => List.mem_cons_of_mem _ (List.mem_append_right _ h)
  show J x 0 0 (sV Y h hw hb hs hh hp hd ik sn se) 0 [(0, .ref h), (1, .int (jI w))] []
  refine j_iload_n G 1 dX4_stopped_0 rfl ?_
  refine j_iconst G dX4_stopped_1 (v := 0) rfl ?_
  refine j_iconst G dX4_stopped_2 (v := 1) rfl ?_
  refine j_callS (nA := 3) (As := [.int (jI w), .int (jI 0), .int (jI 1)]) (st := []) (wc := []) (wr := (sV Y h hw hb hs hh hp hd ik sn se)) G (c_X4_isIn l D Y w 0 1 (by first | assumption | omega) (by first | assumption | omega) (by first | assumption | omega)) dX4_stopped_3 rfl gX4_stopped_X4_isIn rfl rfl rfl (by decide +kernel) ⟨by decide, by decide⟩ rfl (jLe.rf _) (Nat.le_of_ble_eq_true rfl) ⟨Nat.zero_le _, Nat.zero_le _⟩ (fun v_ w_ hp_ => ?_)
  obtain ⟨rfl, rfl⟩ := hp_
  show J x 0 0 (sV Y h hw hb hs hh hp hd ik sn se) 6 [(0, .ref h), (1, .int (jI w))] [.int (jI (if 0 ≤ w ∧ w ≤ 1 then 1 else 0))]
  refine j_ifz_ne (tgt := 12) G dX4_stopped_6 (by decide) (fun c6 => ?_) (fun c6 => ?_)
  · refine j_aload_n G 0 dX4_stopped_12 rfl ?_
    refine j_get (q := 8) (C := RX4) (T := TX4) (N := 9) (v := .int (jI se)) G 0 hinX4 dX4_stopped_13 rfl rfl (by decide) (by decide +kernel) rfl ?_
    refine j_if_ne (tgt := 22) G dX4_stopped_16 (by decide) (by omega) (fun c16 => ?_) (fun c16 => ?_)
    · refine j_iload_n G 1 dX4_stopped_22 rfl ?_
      refine j_if_ne (tgt := 33) G dX4_stopped_23 (by decide) (by omega) (fun c23 => ?_) (fun c23 => ?_)
      · refine j_aload_n G 0 dX4_stopped_33 rfl ?_
        refine j_get (q := 8) (C := RX4) (T := TX4) (N := 9) (v := .int (jI se)) G 0 hinX4 dX4_stopped_34 rfl rfl (by decide) (by decide +kernel) rfl ?_
        exact j_reti G dX4_stopped_37 (by unfold F_stop; (repeat' split) <;> first | rfl | omega) (jLe.rf _) kr
      · refine j_aload_n G 0 dX4_stopped_26 rfl ?_
        refine j_get (q := 7) (C := RX4) (T := TX4) (N := 9) (v := .int (jI sn)) G 0 hinX4 dX4_stopped_27 rfl rfl (by decide) (by decide +kernel) rfl ?_
        refine j_goto (tgt := 37) G dX4_stopped_30 (by decide) ?_
        exact j_reti G dX4_stopped_37 (by unfold F_stop; (repeat' split) <;> first | rfl | omega) (jLe.rf _) kr
    · refine j_bipush G dX4_stopped_19 (v := (-5)) rfl ?_
      exact j_reti G dX4_stopped_21 (by unfold F_stop; (repeat' split) <;> first | rfl | omega) (jLe.rf _) kr
  · refine j_bipush G dX4_stopped_9 (v := (-2)) rfl ?_
    exact j_reti G dX4_stopped_11 (by unfold F_stop; (repeat' split) <;> first | rfl | omega) (jLe.rf _) kr

set_option maxHeartbeats 4000000 in
set_option maxRecDepth 100000 in
theorem c_X4_undo (l : Launch) (D : va_G) (Y : Nat → ClassId) (h : Nat) (hw : Nat) (hb : Nat) (hs : Nat) (hh : Nat) (hp : Nat) (hd : Nat) (ik : Int) (sn : Int) (se : Int) (qw : Nat → Nat) (z : Int → Int) (qh : Nat) (sz : Int) (A : Nat → Nat) (Q : Nat → Nat → Nat) (S : Nat → Int → Int) (hsz : 0 ≤ sz ∧ sz ≤ 4) (hS : ∀ i : Int, 0 ≤ i → i < sz → Inv (S i.toNat)) : jM l yX4_undo wsX4_undo { frames := 3, cells := 0, slots := 0, locals := 60 } D Y [.ref h] (sV Y h hw hb hs hh hp hd ik sn se ++ (wZ Y hw qw z ++ (gV Y hh qh sz (r4 (A 0) (A 1) (A 2) (A 3)) ++ (wZ Y (A 0) (Q 0) (S 0) ++ (wZ Y (A 1) (Q 1) (S 1) ++ (wZ Y (A 2) (Q 2) (S 2) ++ (wZ Y (A 3) (Q 3) (S 3)))))))) (fun v_ w_ => v_ = some (.int (jI (if sz = 0 then -5 else sz - 1))) ∧ w_ = (sV Y h hw hb hs hh hp hd ik sn se ++ (wZ Y hw qw (hTop sz S z) ++ (gV Y hh qh (hDn sz) (r4 (A 0) (A 1) (A 2) (A 3)) ++ (wZ Y (A 0) (Q 0) (S 0) ++ (wZ Y (A 1) (Q 1) (S 1) ++ (wZ Y (A 2) (Q 2) (S 2) ++ (wZ Y (A 3) (Q 3) (S 3))))))))) 0 0 := by
  refine jM_of (cc := cX4_undo) (maxL := 1) (ret := (some .int)) (by decide) rfl (Nat.le_of_ble_eq_true rfl) (fun v w' h => Or.inr (Or.inl ⟨_, _, rfl, h.1, rfl⟩)) ?_
  intro x G kr0
  have kr := kr0 _ _ ⟨rfl, rfl⟩
  have G : jG x l D Y cX4_undo RX4 wsX4_undo 1 ({ frames := 3, cells := 0, slots := 0, locals := 60 } : Room) (some .int) "undo" := G
  have hinX1 : ∀ w ∈ wsX10, w ∈ wsX4_undo := fun _ h => List.mem_cons_of_mem _ (List.mem_append_left _ (List.mem_append_right _ h))
  have hinX4 : ∀ w ∈ wsX40, w ∈ wsX4_undo := fun _ h => List.mem_cons_of_mem _ (List.mem_append_left _ (List.mem_append_left _ (List.mem_append_right _ h)))
  show J x 0 0 (sV Y h hw hb hs hh hp hd ik sn se ++ (wZ Y hw qw z ++ (gV Y hh qh sz (r4 (A 0) (A 1) (A 2) (A 3)) ++ (wZ Y (A 0) (Q 0) (S 0) ++ (wZ Y (A 1) (Q 1) (S 1) ++ (wZ Y (A 2) (Q 2) (S 2) ++ (wZ Y (A 3) (Q 3) (S 3)))))))) 0 [(0, .ref h)] []
  refine j_aload_n G 0 dX4_undo_0 rfl ?_
  refine j_get (q := 4) (C := RX4) (T := TX4) (N := 9) (v := .ref hh) G 0 hinX4 dX4_undo_1 rfl rfl (by decide) (by decide +kernel) rfl ?_
  refine j_aload_n G 0 dX4_undo_4 rfl ?_
  refine j_get (q := 0) (C := RX4) (T := TX4) (N := 9) (v := .ref hw) G 0 hinX4 dX4_undo_5 rfl rfl (by decide) (by decide +kernel) rfl ?_
  refine j_callV (nA := 1) (As := [.ref hw]) (st := []) (wc := (gV Y hh qh sz (r4 (A 0) (A 1) (A 2) (A 3)) ++ (wZ Y (A 0) (Q 0) (S 0) ++ (wZ Y (A 1) (Q 1) (S 1) ++ (wZ Y (A 2) (Q 2) (S 2) ++ (wZ Y (A 3) (Q 3) (S 3) ++ (wZ Y hw qw z))))))) (wr := (sV Y h hw hb hs hh hp hd ik sn se)) G (c_X1_pop l D Y hh qh sz hw qw z A Q S (by first | assumption | omega) (by first | assumption | omega)) dX4_undo_8 rfl gX4_undo_X1_pop rfl rfl rfl (by decide +kernel) ⟨by decide, by decide⟩ rfl 0 rfl rfl rfl (jLe.pos [10, 11, 12, 13, 14, 15, 16, 17, 18, 19, 20, 21, 22, 23, 24, 25, 26, 27, 28, 29, 30, 31, 32, 33, 34, 35, 36, 37, 38, 39, 40, 41, 42, 43, 44, 45, 46, 47, 1, 2, 3, 4, 5, 6, 7, 8, 9, 0] rfl rfl) (Nat.le_of_ble_eq_true rfl) ⟨Nat.zero_le _, Nat.zero_le _⟩ (fun v_ w_ hp_ => ?_)
  obtain ⟨rfl, rfl⟩ := hp_
  refine j_conv (ws' := sV Y h hw hb hs hh hp hd ik sn se ++ (wZ Y hw qw (hTop sz S z) ++ (gV Y hh qh (hDn sz) (r4 (A 0) (A 1) (A 2) (A 3)) ++ (wZ Y (A 0) (Q 0) (S 0) ++ (wZ Y (A 1) (Q 1) (S 1) ++ (wZ Y (A 2) (Q 2) (S 2) ++ (wZ Y (A 3) (Q 3) (S 3)))))))) (jLe.pos [47, 38, 39, 40, 41, 42, 43, 44, 45, 46, 0, 1, 2, 3, 4, 5, 6, 7, 8, 9, 10, 11, 12, 13, 14, 15, 16, 17, 18, 19, 20, 21, 22, 23, 24, 25, 26, 27, 28, 29, 30, 31, 32, 33, 34, 35, 36, 37] rfl rfl) ?_
  show J x 0 0 (sV Y h hw hb hs hh hp hd ik sn se ++ (wZ Y hw qw (hTop sz S z) ++ (gV Y hh qh (hDn sz) (r4 (A 0) (A 1) (A 2) (A 3)) ++ (wZ Y (A 0) (Q 0) (S 0) ++ (wZ Y (A 1) (Q 1) (S 1) ++ (wZ Y (A 2) (Q 2) (S 2) ++ (wZ Y (A 3) (Q 3) (S 3)))))))) 11 [(0, .ref h)] [.int (jI (if ¬ sz = 0 then 1 else 0))]
  refine j_ifz_eq (tgt := 24) G dX4_undo_11 (by decide) (fun c11 => ?_) (fun c11 => ?_)
  · refine j_bipush G dX4_undo_24 (v := (-5)) rfl ?_
    exact j_reti G dX4_undo_26 (by first | (rw [if_neg c11]; exact (if_neg c11).symm ▸ rfl) | (rw [if_pos (Classical.not_not.mp c11)]) | (rw [if_neg c11]; exact if_neg c11)) (jLe.rf _) kr
  · refine j_aload_n G 0 dX4_undo_14 rfl ?_
    refine j_get (q := 4) (C := RX4) (T := TX4) (N := 9) (v := .ref hh) G 0 hinX4 dX4_undo_15 rfl rfl (by decide) (by decide +kernel) rfl ?_
    refine j_getN (q := 1) (C := RX1) (T := TX1) (N := 2) (v := .int (jI (hDn sz))) (host := "StormFelling") G 10 hinX1 dX4_undo_18 rfl rfl (by decide) (by decide +kernel) rfl ?_
    refine j_goto (tgt := 26) G dX4_undo_21 (by decide) ?_
    exact j_reti G dX4_undo_26 (by first | (rw [if_neg c11]; exact (if_neg c11).symm ▸ rfl) | (rw [if_pos (Classical.not_not.mp c11)]) | (rw [if_neg c11]; exact if_neg c11)) (jLe.rf _) kr

set_option maxHeartbeats 4000000 in
set_option maxRecDepth 100000 in
theorem c_X4_keep (l : Launch) (D : va_G) (Y : Nat → ClassId) (h : Nat) (hw : Nat) (hb : Nat) (hs : Nat) (hh : Nat) (hp : Nat) (hd : Nat) (ik : Int) (sn : Int) (se : Int) (qw : Nat → Nat) (z : Int → Int) (qs : Nat → Nat) (zs : Int → Int) (hI : Inv z) : jM l yX4_keep wsX4_keep { frames := 2, cells := 0, slots := 0, locals := 39 } D Y [.ref h] (sV Y h hw hb hs hh hp hd ik sn se ++ (wZ Y hw qw z ++ (wZ Y hs qs zs))) (fun v_ w_ => v_ = some (.int (jI (z 3))) ∧ w_ = (sV Y h hw hb hs hh hp hd 1 sn se ++ (wZ Y hw qw z ++ (wZ Y hs qs z)))) 0 0 := by
  refine jM_of (cc := cX4_keep) (maxL := 1) (ret := (some .int)) (by decide) rfl (Nat.le_of_ble_eq_true rfl) (fun v w' h => Or.inr (Or.inl ⟨_, _, rfl, h.1, rfl⟩)) ?_
  intro x G kr0
  have kr := kr0 _ _ ⟨rfl, rfl⟩
  have G : jG x l D Y cX4_keep RX4 wsX4_keep 1 ({ frames := 2, cells := 0, slots := 0, locals := 39 } : Room) (some .int) "keep" := G
  have hinX3 : ∀ w ∈ wsX30, w ∈ wsX4_keep := fun _ h => List.mem_cons_of_mem _ (List.mem_append_right _ h)
  have hinX4 : ∀ w ∈ wsX40, w ∈ wsX4_keep := fun _ h => List.mem_cons_of_mem _ (List.mem_append_left _ (List.mem_append_right _ h))
  show J x 0 0 (sV Y h hw hb hs hh hp hd ik sn se ++ (wZ Y hw qw z ++ (wZ Y hs qs zs))) 0 [(0, .ref h)] []
  refine j_aload_n G 0 dX4_keep_0 rfl ?_
  refine j_get (q := 2) (C := RX4) (T := TX4) (N := 9) (v := .ref hs) G 0 hinX4 dX4_keep_1 rfl rfl (by decide) (by decide +kernel) rfl ?_
  refine j_aload_n G 0 dX4_keep_4 rfl ?_
  refine j_get (q := 0) (C := RX4) (T := TX4) (N := 9) (v := .ref hw) G 0 hinX4 dX4_keep_5 rfl rfl (by decide) (by decide +kernel) rfl ?_
  refine j_callV (nA := 1) (As := [.ref hw]) (st := []) (wc := (wZ Y hs qs zs ++ (wZ Y hw qw z))) (wr := (sV Y h hw hb hs hh hp hd ik sn se)) G (c_X3_copyFromZ l D Y hs qs zs hw qw z (by first | assumption | exact hI.fe)) dX4_keep_8 rfl gX4_keep_X3_copyFrom rfl rfl rfl (by decide +kernel) ⟨by decide, by decide⟩ rfl 0 rfl rfl rfl (jLe.pos [10, 11, 12, 13, 14, 15, 16, 17, 18, 1, 2, 3, 4, 5, 6, 7, 8, 9, 0] rfl rfl) (Nat.le_of_ble_eq_true rfl) ⟨Nat.zero_le _, Nat.zero_le _⟩ (fun v_ w_ hp_ => ?_)
  obtain ⟨rfl, rfl⟩ := hp_
  refine j_conv (ws' := sV Y h hw hb hs hh hp hd ik sn se ++ (wZ Y hw qw z ++ (wZ Y hs qs z))) (jLe.pos [18, 9, 10, 11, 12, 13, 14, 15, 16, 17, 0, 1, 2, 3, 4, 5, 6, 7, 8] rfl rfl) ?_
  show J x 0 0 (sV Y h hw hb hs hh hp hd ik sn se ++ (wZ Y hw qw z ++ (wZ Y hs qs z))) 11 [(0, .ref h)] []
  refine j_aload_n G 0 dX4_keep_11 rfl ?_
  refine j_iconst G dX4_keep_12 (v := 1) rfl ?_
  refine j_put (q := 3) (C := RX4) (T := TX4) (N := 9) (ws' := sV Y h hw hb hs hh hp hd 1 sn se ++ (wZ Y hw qw z ++ (wZ Y hs qs z))) G 0 hinX4 tyX4 tyX4_ok nmX4 dX4_keep_13 rfl rfl (by decide) (by decide +kernel) rfl rfl (jI_z (by omega)) (by rfl) (Nat.le_of_ble_eq_true rfl) rfl ?_
  refine j_aload_n G 0 dX4_keep_16 rfl ?_
  refine j_get (q := 0) (C := RX4) (T := TX4) (N := 9) (v := .ref hw) G 0 hinX4 dX4_keep_17 rfl rfl (by decide) (by decide +kernel) rfl ?_
  refine j_getN (q := 9) (C := RX3) (T := TX3) (N := 13) (v := .int (jI (z 3))) (host := "StormFelling") G 1 hinX3 dX4_keep_20 rfl rfl (by decide) (by decide +kernel) rfl ?_
  exact j_reti G dX4_keep_23 (by first | rfl | omega | exact ite_T (by omega) | exact ite_F (by omega)) (jLe.rf _) kr

set_option maxHeartbeats 4000000 in
set_option maxRecDepth 100000 in
theorem c_X4_restore (l : Launch) (D : va_G) (Y : Nat → ClassId) (h : Nat) (hw : Nat) (hb : Nat) (hs : Nat) (hh : Nat) (hp : Nat) (hd : Nat) (ik : Int) (sn : Int) (se : Int) (qw : Nat → Nat) (z : Int → Int) (qb : Nat → Nat) (zb : Int → Int) (qs : Nat → Nat) (zs : Int → Int) (qh : Nat) (sz : Int) (A : Nat → Nat) (Q : Nat → Nat → Nat) (S : Nat → Int → Int) (hI : Inv z) (hsz : 0 ≤ sz ∧ sz ≤ 4) (hik : ik = 0 ∨ ik = 1) (hIs : ¬ ik = 0 → Inv zs) : jM l yX4_restore wsX4_restore { frames := 4, cells := 0, slots := 0, locals := 81 } D Y [.ref h] (sV Y h hw hb hs hh hp hd ik sn se ++ (wZ Y hw qw z ++ (wZ Y hb qb zb ++ (wZ Y hs qs zs ++ (gV Y hh qh sz (r4 (A 0) (A 1) (A 2) (A 3)) ++ (wZ Y (A 0) (Q 0) (S 0) ++ (wZ Y (A 1) (Q 1) (S 1) ++ (wZ Y (A 2) (Q 2) (S 2) ++ (wZ Y (A 3) (Q 3) (S 3)))))))))) (fun v_ w_ => ∃ (A2 : Nat → Nat) (Q2 : Nat → Nat → Nat), v_ = some (.int (jI (if ik = 0 then -5 else zs 3))) ∧ w_ = (sV Y h hw hb hs hh hp hd ik sn se ++ (wZ Y hw qw (if ik = 0 then z else zs) ++ (wZ Y hb qb (if ik = 0 then zb else z) ++ (wZ Y hs qs zs ++ (gV Y hh qh (hSz (if ik = 0 then -5 else zs 3) sz) (r4 (A2 0) (A2 1) (A2 2) (A2 3)) ++ (wZ Y (A2 0) (Q2 0) (hSt (if ik = 0 then -5 else zs 3) sz S z 0) ++ (wZ Y (A2 1) (Q2 1) (hSt (if ik = 0 then -5 else zs 3) sz S z 1) ++ (wZ Y (A2 2) (Q2 2) (hSt (if ik = 0 then -5 else zs 3) sz S z 2) ++ (wZ Y (A2 3) (Q2 3) (hSt (if ik = 0 then -5 else zs 3) sz S z 3))))))))))) 0 0 := by
  refine jM_of (cc := cX4_restore) (maxL := 1) (ret := (some .int)) (by decide) rfl (Nat.le_of_ble_eq_true rfl) (fun v w' h => by obtain ⟨_, _, h⟩ := h; exact Or.inr (Or.inl ⟨_, _, rfl, h.1, rfl⟩)) ?_
  intro x G kr0
  have G : jG x l D Y cX4_restore RX4 wsX4_restore 1 ({ frames := 4, cells := 0, slots := 0, locals := 81 } : Room) (some .int) "restore" := G
  have hinX3 : ∀ w ∈ wsX30, w ∈ wsX4_restore := fun _ h => List.mem_cons_of_mem _ (List.mem_append_left _ (List.mem_append_right _ h))
  have hinX4 : ∀ w ∈ wsX40, w ∈ wsX4_restore := fun _ h => List.mem_cons_of_mem _ (List.mem_append_left _ (List.mem_append_left _ (List.mem_append_right _ h)))
  show J x 0 0 (sV Y h hw hb hs hh hp hd ik sn se ++ (wZ Y hw qw z ++ (wZ Y hb qb zb ++ (wZ Y hs qs zs ++ (gV Y hh qh sz (r4 (A 0) (A 1) (A 2) (A 3)) ++ (wZ Y (A 0) (Q 0) (S 0) ++ (wZ Y (A 1) (Q 1) (S 1) ++ (wZ Y (A 2) (Q 2) (S 2) ++ (wZ Y (A 3) (Q 3) (S 3)))))))))) 0 [(0, .ref h)] []
  refine j_aload_n G 0 dX4_restore_0 rfl ?_
  refine j_get (q := 3) (C := RX4) (T := TX4) (N := 9) (v := .int (jI ik)) G 0 hinX4 dX4_restore_1 rfl rfl (by decide) (by decide +kernel) rfl ?_
  refine j_if_ne (tgt := 10) G dX4_restore_4 (by decide) (by omega) (fun c4 => ?_) (fun c4 => ?_)
  · refine j_aload_n G 0 dX4_restore_10 rfl ?_
    refine j_get (q := 1) (C := RX4) (T := TX4) (N := 9) (v := .ref hb) G 0 hinX4 dX4_restore_11 rfl rfl (by decide) (by decide +kernel) rfl ?_
    refine j_aload_n G 0 dX4_restore_14 rfl ?_
    refine j_get (q := 0) (C := RX4) (T := TX4) (N := 9) (v := .ref hw) G 0 hinX4 dX4_restore_15 rfl rfl (by decide) (by decide +kernel) rfl ?_
    refine j_callV (nA := 1) (As := [.ref hw]) (st := []) (wc := (wZ Y hb qb zb ++ (wZ Y hw qw z))) (wr := (sV Y h hw hb hs hh hp hd ik sn se ++ (wZ Y hs qs zs ++ (gV Y hh qh sz (r4 (A 0) (A 1) (A 2) (A 3)) ++ (wZ Y (A 0) (Q 0) (S 0) ++ (wZ Y (A 1) (Q 1) (S 1) ++ (wZ Y (A 2) (Q 2) (S 2) ++ (wZ Y (A 3) (Q 3) (S 3))))))))) G (c_X3_copyFromZ l D Y hb qb zb hw qw z (by exact hI.fe)) dX4_restore_18 rfl gX4_restore_X3_copyFrom rfl rfl rfl (by decide +kernel) ⟨by decide, by decide⟩ rfl 0 rfl rfl rfl (jLe.pos [10, 11, 12, 13, 14, 15, 16, 17, 18, 1, 2, 3, 4, 5, 6, 7, 8, 9, 0, 19, 20, 21, 22, 23, 24, 25, 26, 27, 28, 29, 30, 31, 32, 33, 34, 35, 36, 37, 38, 39, 40, 41, 42, 43, 44, 45, 46, 47, 48, 49, 50, 51, 52, 53, 54, 55, 56, 57, 58, 59, 60, 61, 62, 63, 64, 65] rfl rfl) (Nat.le_of_ble_eq_true rfl) ⟨Nat.zero_le _, Nat.zero_le _⟩ (fun v_ w_ hp_ => ?_)
    obtain ⟨rfl, rfl⟩ := hp_
    refine j_conv (ws' := sV Y h hw hb hs hh hp hd ik sn se ++ (wZ Y hw qw z ++ (wZ Y hb qb z ++ (wZ Y hs qs zs ++ (gV Y hh qh sz (r4 (A 0) (A 1) (A 2) (A 3)) ++ (wZ Y (A 0) (Q 0) (S 0) ++ (wZ Y (A 1) (Q 1) (S 1) ++ (wZ Y (A 2) (Q 2) (S 2) ++ (wZ Y (A 3) (Q 3) (S 3)))))))))) (jLe.pos [18, 9, 10, 11, 12, 13, 14, 15, 16, 17, 0, 1, 2, 3, 4, 5, 6, 7, 8, 19, 20, 21, 22, 23, 24, 25, 26, 27, 28, 29, 30, 31, 32, 33, 34, 35, 36, 37, 38, 39, 40, 41, 42, 43, 44, 45, 46, 47, 48, 49, 50, 51, 52, 53, 54, 55, 56, 57, 58, 59, 60, 61, 62, 63, 64, 65] rfl rfl) ?_
    show J x 0 0 (sV Y h hw hb hs hh hp hd ik sn se ++ (wZ Y hw qw z ++ (wZ Y hb qb z ++ (wZ Y hs qs zs ++ (gV Y hh qh sz (r4 (A 0) (A 1) (A 2) (A 3)) ++ (wZ Y (A 0) (Q 0) (S 0) ++ (wZ Y (A 1) (Q 1) (S 1) ++ (wZ Y (A 2) (Q 2) (S 2) ++ (wZ Y (A 3) (Q 3) (S 3)))))))))) 21 [(0, .ref h)] []
    refine j_aload_n G 0 dX4_restore_21 rfl ?_
    refine j_get (q := 0) (C := RX4) (T := TX4) (N := 9) (v := .ref hw) G 0 hinX4 dX4_restore_22 rfl rfl (by decide) (by decide +kernel) rfl ?_
    refine j_aload_n G 0 dX4_restore_25 rfl ?_
    refine j_get (q := 2) (C := RX4) (T := TX4) (N := 9) (v := .ref hs) G 0 hinX4 dX4_restore_26 rfl rfl (by decide) (by decide +kernel) rfl ?_
    refine j_callV (nA := 1) (As := [.ref hs]) (st := []) (wc := (wZ Y hw qw z ++ (wZ Y hs qs zs))) (wr := (sV Y h hw hb hs hh hp hd ik sn se ++ (wZ Y hb qb z ++ (gV Y hh qh sz (r4 (A 0) (A 1) (A 2) (A 3)) ++ (wZ Y (A 0) (Q 0) (S 0) ++ (wZ Y (A 1) (Q 1) (S 1) ++ (wZ Y (A 2) (Q 2) (S 2) ++ (wZ Y (A 3) (Q 3) (S 3))))))))) G (c_X3_copyFromZ l D Y hw qw z hs qs zs (by exact (hIs c4).fe)) dX4_restore_29 rfl gX4_restore_X3_copyFrom rfl rfl rfl (by decide +kernel) ⟨by decide, by decide⟩ rfl 0 rfl rfl rfl (jLe.pos [1, 2, 3, 4, 5, 6, 7, 8, 9, 19, 20, 21, 22, 23, 24, 25, 26, 27, 0, 10, 11, 12, 13, 14, 15, 16, 17, 18, 28, 29, 30, 31, 32, 33, 34, 35, 36, 37, 38, 39, 40, 41, 42, 43, 44, 45, 46, 47, 48, 49, 50, 51, 52, 53, 54, 55, 56, 57, 58, 59, 60, 61, 62, 63, 64, 65] rfl rfl) (Nat.le_of_ble_eq_true rfl) ⟨Nat.zero_le _, Nat.zero_le _⟩ (fun v_ w_ hp_ => ?_)
    obtain ⟨rfl, rfl⟩ := hp_
    refine j_conv (ws' := sV Y h hw hb hs hh hp hd ik sn se ++ (wZ Y hw qw zs ++ (wZ Y hb qb z ++ (wZ Y hs qs zs ++ (gV Y hh qh sz (r4 (A 0) (A 1) (A 2) (A 3)) ++ (wZ Y (A 0) (Q 0) (S 0) ++ (wZ Y (A 1) (Q 1) (S 1) ++ (wZ Y (A 2) (Q 2) (S 2) ++ (wZ Y (A 3) (Q 3) (S 3)))))))))) (jLe.pos [18, 0, 1, 2, 3, 4, 5, 6, 7, 8, 19, 20, 21, 22, 23, 24, 25, 26, 27, 9, 10, 11, 12, 13, 14, 15, 16, 17, 28, 29, 30, 31, 32, 33, 34, 35, 36, 37, 38, 39, 40, 41, 42, 43, 44, 45, 46, 47, 48, 49, 50, 51, 52, 53, 54, 55, 56, 57, 58, 59, 60, 61, 62, 63, 64, 65] rfl rfl) ?_
    show J x 0 0 (sV Y h hw hb hs hh hp hd ik sn se ++ (wZ Y hw qw zs ++ (wZ Y hb qb z ++ (wZ Y hs qs zs ++ (gV Y hh qh sz (r4 (A 0) (A 1) (A 2) (A 3)) ++ (wZ Y (A 0) (Q 0) (S 0) ++ (wZ Y (A 1) (Q 1) (S 1) ++ (wZ Y (A 2) (Q 2) (S 2) ++ (wZ Y (A 3) (Q 3) (S 3)))))))))) 32 [(0, .ref h)] []
    refine j_aload_n G 0 dX4_restore_32 rfl ?_
    refine j_aload_n G 0 dX4_restore_33 rfl ?_
    refine j_get (q := 0) (C := RX4) (T := TX4) (N := 9) (v := .ref hw) G 0 hinX4 dX4_restore_34 rfl rfl (by decide) (by decide +kernel) rfl ?_
    refine j_getN (q := 9) (C := RX3) (T := TX3) (N := 13) (v := .int (jI (zs 3))) (host := "StormFelling") G 1 hinX3 dX4_restore_37 rfl rfl (by decide) (by decide +kernel) rfl ?_
    refine j_callV (nA := 1) (As := [.int (jI (zs 3))]) (st := []) (wc := (sV Y h hw hb hs hh hp hd ik sn se ++ (wZ Y hb qb z ++ (gV Y hh qh sz (r4 (A 0) (A 1) (A 2) (A 3)) ++ (wZ Y (A 0) (Q 0) (S 0) ++ (wZ Y (A 1) (Q 1) (S 1) ++ (wZ Y (A 2) (Q 2) (S 2) ++ (wZ Y (A 3) (Q 3) (S 3))))))))) (wr := (wZ Y hw qw zs ++ (wZ Y hs qs zs))) G (c_X4_recorded l D Y h hw hb hs hh hp hd ik sn se qb z qh sz (zs 3) A Q S (by first | assumption | omega) (by have := (hIs c4).da; omega) (by exact hI.fe)) dX4_restore_40 rfl gX4_restore_X4_recorded rfl rfl rfl (by decide +kernel) ⟨by decide, by decide⟩ rfl 0 rfl rfl rfl (jLe.pos [0, 10, 11, 12, 13, 14, 15, 16, 17, 18, 28, 29, 30, 31, 32, 33, 34, 35, 36, 37, 38, 39, 40, 41, 42, 43, 44, 45, 46, 47, 48, 49, 50, 51, 52, 53, 54, 55, 56, 57, 58, 59, 60, 61, 62, 63, 64, 65, 1, 2, 3, 4, 5, 6, 7, 8, 9, 19, 20, 21, 22, 23, 24, 25, 26, 27] rfl rfl) (Nat.le_of_ble_eq_true rfl) ⟨Nat.zero_le _, Nat.zero_le _⟩ (fun v_ w_ hp_ => ?_)
    obtain ⟨A2_1, Q2_2, rfl, rfl⟩ := hp_
    refine j_conv (ws' := sV Y h hw hb hs hh hp hd ik sn se ++ (wZ Y hw qw zs ++ (wZ Y hb qb z ++ (wZ Y hs qs zs ++ (gV Y hh qh (hSz (zs 3) sz) (r4 (A2_1 0) (A2_1 1) (A2_1 2) (A2_1 3)) ++ (wZ Y (A2_1 0) (Q2_2 0) (hSt (zs 3) sz S z 0) ++ (wZ Y (A2_1 1) (Q2_2 1) (hSt (zs 3) sz S z 1) ++ (wZ Y (A2_1 2) (Q2_2 2) (hSt (zs 3) sz S z 2) ++ (wZ Y (A2_1 3) (Q2_2 3) (hSt (zs 3) sz S z 3)))))))))) (jLe.pos [0, 48, 49, 50, 51, 52, 53, 54, 55, 56, 1, 2, 3, 4, 5, 6, 7, 8, 9, 57, 58, 59, 60, 61, 62, 63, 64, 65, 10, 11, 12, 13, 14, 15, 16, 17, 18, 19, 20, 21, 22, 23, 24, 25, 26, 27, 28, 29, 30, 31, 32, 33, 34, 35, 36, 37, 38, 39, 40, 41, 42, 43, 44, 45, 46, 47] rfl rfl) ?_
    show J x 0 0 (sV Y h hw hb hs hh hp hd ik sn se ++ (wZ Y hw qw zs ++ (wZ Y hb qb z ++ (wZ Y hs qs zs ++ (gV Y hh qh (hSz (zs 3) sz) (r4 (A2_1 0) (A2_1 1) (A2_1 2) (A2_1 3)) ++ (wZ Y (A2_1 0) (Q2_2 0) (hSt (zs 3) sz S z 0) ++ (wZ Y (A2_1 1) (Q2_2 1) (hSt (zs 3) sz S z 1) ++ (wZ Y (A2_1 2) (Q2_2 2) (hSt (zs 3) sz S z 2) ++ (wZ Y (A2_1 3) (Q2_2 3) (hSt (zs 3) sz S z 3)))))))))) 43 [(0, .ref h)] [.int (jI (zs 3))]
    exact j_reti G dX4_restore_43 (by rw [if_neg c4]) (by rw [if_neg c4, if_neg c4, if_neg c4]; exact jLe.rf _) (kr0 _ _ ⟨A2_1, Q2_2, rfl, rfl⟩)
  · refine j_bipush G dX4_restore_7 (v := (-5)) rfl ?_
    exact j_reti G dX4_restore_9 (by rw [if_pos c4]) (by rw [if_pos c4, if_pos c4, if_pos c4]; exact jLe.rf _) (kr0 _ _ ⟨A, Q, rfl, rfl⟩)

set_option maxHeartbeats 4000000 in
set_option maxRecDepth 100000 in
theorem c_X4_plot (l : Launch) (D : va_G) (Y : Nat → ClassId) (h : Nat) (hw : Nat) (hb : Nat) (hs : Nat) (hh : Nat) (hp : Nat) (hd : Nat) (ik : Int) (sn : Int) (se : Int) (qw : Nat → Nat) (z : Int → Int) (qp : Nat → Nat) (ab : Int → Int) (be : Int → Int) (al : Int) (p : Int) (w : Int) (hI : Inv z) (h_p : -2147483648 ≤ p ∧ p < 2147483648) (h_w : -2147483648 ≤ w ∧ w < 2147483648) : jM l yX4_plot wsX4_plot { frames := 4, cells := 0, slots := 0, locals := 92 } D Y [.ref h, .int (jI p), .int (jI w)] (sV Y h hw hb hs hh hp hd ik sn se ++ (wZ Y hw qw z ++ (pV Y hp qp ab be al))) (fun v_ w_ => ∃ (ab2 : Int → Int) (be2 : Int → Int) (al2 : Int), v_ = some (.int (jI (F_plot z p w))) ∧ w_ = (sV Y h hw hb hs hh hp hd ik sn se ++ (wZ Y hw qw z ++ (pV Y hp qp ab2 be2 al2)))) 0 0 := by
  refine jM_of (cc := cX4_plot) (maxL := 3) (ret := (some .int)) (by decide) rfl (Nat.le_of_ble_eq_true rfl) (fun v w' h => by obtain ⟨_, _, _, h⟩ := h; exact Or.inr (Or.inl ⟨_, _, rfl, h.1, rfl⟩)) ?_
  intro x G kr0
  have G : jG x l D Y cX4_plot RX4 wsX4_plot 3 ({ frames := 4, cells := 0, slots := 0, locals := 92 } : Room) (some .int) "plot" := G
  have hinX3 : ∀ w ∈ wsX30, w ∈ wsX4_plot := fun _ h => List.mem_cons_of_mem _ (List.mem_append_left _ (List.mem_append_right _ h))
  have hinX4 : ∀ w ∈ wsX40, w ∈ wsX4_plot := fun _ h => List.mem_cons_of_mem _ (List.mem_append_left _ (List.mem_append_left _ (List.mem_append_right _ h)))
  show J x 0 0 (sV Y h hw hb hs hh hp hd ik sn se ++ (wZ Y hw qw z ++ (pV Y hp qp ab be al))) 0 [(0, .ref h), (1, .int (jI p)), (2, .int (jI w))] []
  refine j_iload_n G 1 dX4_plot_0 rfl ?_
  refine j_iconst G dX4_plot_1 (v := 0) rfl ?_
  refine j_bipush G dX4_plot_2 (v := 63) rfl ?_
  refine j_callS (nA := 3) (As := [.int (jI p), .int (jI 0), .int (jI 63)]) (st := []) (wc := []) (wr := (sV Y h hw hb hs hh hp hd ik sn se ++ (wZ Y hw qw z ++ (pV Y hp qp ab be al)))) G (c_X4_isIn l D Y p 0 63 (by first | assumption | omega) (by first | assumption | omega) (by first | assumption | omega)) dX4_plot_4 rfl gX4_plot_X4_isIn rfl rfl rfl (by decide +kernel) ⟨by decide, by decide⟩ rfl (jLe.rf _) (Nat.le_of_ble_eq_true rfl) ⟨Nat.zero_le _, Nat.zero_le _⟩ (fun v_ w_ hp_ => ?_)
  obtain ⟨rfl, rfl⟩ := hp_
  show J x 0 0 (sV Y h hw hb hs hh hp hd ik sn se ++ (wZ Y hw qw z ++ (pV Y hp qp ab be al))) 7 [(0, .ref h), (1, .int (jI p)), (2, .int (jI w))] [.int (jI (if 0 ≤ p ∧ p ≤ 63 then 1 else 0))]
  refine j_ifz_ne (tgt := 12) G dX4_plot_7 (by decide) (fun c7 => ?_) (fun c7 => ?_)
  · refine j_iload_n G 2 dX4_plot_12 rfl ?_
    rcases (show w = 0 ∨ w = 1 ∨ w = 2 ∨ w = 3 ∨ w = 4 ∨ w = 5 ∨ w = 6 ∨ (¬ w = 0 ∧ ¬ w = 1 ∧ ¬ w = 2 ∧ ¬ w = 3 ∧ ¬ w = 4 ∧ ¬ w = 5 ∧ ¬ w = 6) by omega) with s13 | s13 | s13 | s13 | s13 | s13 | s13 | s13
    · refine j_tblIn (tgt := 56) G 0 dX4_plot_13 (by omega) (by omega) (by omega) rfl (by decide) ?_
      refine j_aload_n G 0 dX4_plot_56 rfl ?_
      refine j_get (q := 0) (C := RX4) (T := TX4) (N := 9) (v := .ref hw) G 0 hinX4 dX4_plot_57 rfl rfl (by decide) (by decide +kernel) rfl ?_
      refine j_getN (q := 0) (C := RX3) (T := TX3) (N := 13) (v := .ref (qw 0)) (host := "StormFelling") G 1 hinX3 dX4_plot_60 rfl rfl (by decide) (by decide +kernel) rfl ?_
      refine j_iload_n G 1 dX4_plot_63 rfl ?_
      refine j_iald (v := z (28 + p)) G 2 dX4_plot_64 rfl (by omega) rfl ?_
      exact j_reti G dX4_plot_65 (by unfold F_plot; (repeat' split) <;> first | rfl | omega) (jLe.rf _) (kr0 _ _ ⟨ab, be, al, rfl, rfl⟩)
    · refine j_tblIn (tgt := 66) G 1 dX4_plot_13 (by omega) (by omega) (by omega) rfl (by decide) ?_
      refine j_aload_n G 0 dX4_plot_66 rfl ?_
      refine j_get (q := 0) (C := RX4) (T := TX4) (N := 9) (v := .ref hw) G 0 hinX4 dX4_plot_67 rfl rfl (by decide) (by decide +kernel) rfl ?_
      refine j_getN (q := 2) (C := RX3) (T := TX3) (N := 13) (v := .int (jI (z 92))) (host := "StormFelling") G 1 hinX3 dX4_plot_70 rfl rfl (by decide) (by decide +kernel) rfl ?_
      exact j_reti G dX4_plot_73 (by unfold F_plot; (repeat' split) <;> first | rfl | omega) (jLe.rf _) (kr0 _ _ ⟨ab, be, al, rfl, rfl⟩)
    · refine j_tblIn (tgt := 74) G 2 dX4_plot_13 (by omega) (by omega) (by omega) rfl (by decide) ?_
      refine j_aload_n G 0 dX4_plot_74 rfl ?_
      refine j_get (q := 0) (C := RX4) (T := TX4) (N := 9) (v := .ref hw) G 0 hinX4 dX4_plot_75 rfl rfl (by decide) (by decide +kernel) rfl ?_
      refine j_aload_n G 0 dX4_plot_78 rfl ?_
      refine j_callV (nA := 0) (As := []) (st := [.ref hw]) (wc := (sV Y h hw hb hs hh hp hd ik sn se ++ (wZ Y hw qw z ++ (pV Y hp qp ab be al)))) (wr := []) G (c_X4_pathsLeft l D Y h hw hb hs hh hp hd ik sn se qw z qp ab be al (by first | assumption | omega)) dX4_plot_79 rfl gX4_plot_X4_pathsLeft rfl rfl rfl (by decide +kernel) ⟨by decide, by decide⟩ rfl 0 rfl rfl rfl (jLe.nil (jLe.rf _)) (Nat.le_of_ble_eq_true rfl) ⟨Nat.zero_le _, Nat.zero_le _⟩ (fun v_ w_ hp_ => ?_)
      obtain ⟨rfl, rfl⟩ := hp_
      show J x 0 0 (sV Y h hw hb hs hh hp hd ik sn se ++ (wZ Y hw qw z ++ (pT Y hp qp (tZ z)))) 82 [(0, .ref h), (1, .int (jI p)), (2, .int (jI w))] [.ref hp, .ref hw]
      refine j_iload_n G 1 dX4_plot_82 rfl ?_
      refine j_callV (nA := 2) (As := [.ref hp, .int (jI p)]) (st := []) (wc := (wZ Y hw qw z ++ (pT Y hp qp (tZ z)))) (wr := (sV Y h hw hb hs hh hp hd ik sn se)) G (c_X3_hitsZ l D Y hw qw z hp qp (tZ z) p (by first | assumption | exact hI.s1) (by first | assumption | omega)) dX4_plot_83 rfl gX4_plot_X3_hits rfl rfl rfl (by decide +kernel) ⟨by decide, by decide⟩ rfl 0 rfl rfl rfl (jLe.pos [1, 2, 3, 4, 5, 6, 7, 8, 9, 10, 11, 12, 0] rfl rfl) (Nat.le_of_ble_eq_true rfl) ⟨Nat.zero_le _, Nat.zero_le _⟩ (fun v_ w_ hp_ => ?_)
      obtain ⟨rfl, rfl⟩ := hp_
      refine j_conv (ws' := sV Y h hw hb hs hh hp hd ik sn se ++ (wZ Y hw qw z ++ (pT Y hp qp (tZ z)))) (jLe.pos [12, 0, 1, 2, 3, 4, 5, 6, 7, 8, 9, 10, 11] rfl rfl) ?_
      show J x 0 0 (sV Y h hw hb hs hh hp hd ik sn se ++ (wZ Y hw qw z ++ (pT Y hp qp (tZ z)))) 86 [(0, .ref h), (1, .int (jI p)), (2, .int (jI w))] [.int (jI (zHi z (tZ z) p))]
      exact j_reti G dX4_plot_86 (by unfold F_plot; (repeat' split) <;> first | rfl | omega) (jLe.rf _) (kr0 _ _ ⟨(pAb (tZ z)), (pBe (tZ z)), (pAll (tZ z)), rfl, rfl⟩)
    · refine j_tblIn (tgt := 87) G 3 dX4_plot_13 (by omega) (by omega) (by omega) rfl (by decide) ?_
      refine j_aload_n G 0 dX4_plot_87 rfl ?_
      refine j_get (q := 0) (C := RX4) (T := TX4) (N := 9) (v := .ref hw) G 0 hinX4 dX4_plot_88 rfl rfl (by decide) (by decide +kernel) rfl ?_
      refine j_aload_n G 0 dX4_plot_91 rfl ?_
      refine j_callV (nA := 0) (As := []) (st := [.ref hw]) (wc := (sV Y h hw hb hs hh hp hd ik sn se ++ (wZ Y hw qw z ++ (pV Y hp qp ab be al)))) (wr := []) G (c_X4_pathsLeft l D Y h hw hb hs hh hp hd ik sn se qw z qp ab be al (by first | assumption | omega)) dX4_plot_92 rfl gX4_plot_X4_pathsLeft rfl rfl rfl (by decide +kernel) ⟨by decide, by decide⟩ rfl 0 rfl rfl rfl (jLe.nil (jLe.rf _)) (Nat.le_of_ble_eq_true rfl) ⟨Nat.zero_le _, Nat.zero_le _⟩ (fun v_ w_ hp_ => ?_)
      obtain ⟨rfl, rfl⟩ := hp_
      show J x 0 0 (sV Y h hw hb hs hh hp hd ik sn se ++ (wZ Y hw qw z ++ (pT Y hp qp (tZ z)))) 95 [(0, .ref h), (1, .int (jI p)), (2, .int (jI w))] [.ref hp, .ref hw]
      refine j_iload_n G 1 dX4_plot_95 rfl ?_
      refine j_callV (nA := 2) (As := [.ref hp, .int (jI p)]) (st := []) (wc := (wZ Y hw qw z ++ (pT Y hp qp (tZ z)))) (wr := (sV Y h hw hb hs hh hp hd ik sn se)) G (c_X3_isEndangeredZ l D Y hw qw z hp qp (tZ z) p (by first | assumption | exact hI.s1) (by first | assumption | omega)) dX4_plot_96 rfl gX4_plot_X3_isEndangered rfl rfl rfl (by decide +kernel) ⟨by decide, by decide⟩ rfl 0 rfl rfl rfl (jLe.pos [1, 2, 3, 4, 5, 6, 7, 8, 9, 10, 11, 12, 0] rfl rfl) (Nat.le_of_ble_eq_true rfl) ⟨Nat.zero_le _, Nat.zero_le _⟩ (fun v_ w_ hp_ => ?_)
      obtain ⟨rfl, rfl⟩ := hp_
      refine j_conv (ws' := sV Y h hw hb hs hh hp hd ik sn se ++ (wZ Y hw qw z ++ (pT Y hp qp (tZ z)))) (jLe.pos [12, 0, 1, 2, 3, 4, 5, 6, 7, 8, 9, 10, 11] rfl rfl) ?_
      show J x 0 0 (sV Y h hw hb hs hh hp hd ik sn se ++ (wZ Y hw qw z ++ (pT Y hp qp (tZ z)))) 99 [(0, .ref h), (1, .int (jI p)), (2, .int (jI w))] [.int (jI (if 0 < zHi z (tZ z) p then 1 else 0))]
      refine j_ifz_eq (tgt := 106) G dX4_plot_99 (by decide) (fun c99 => ?_) (fun c99 => ?_)
      · refine j_iconst G dX4_plot_106 (v := 0) rfl ?_
        exact j_reti G dX4_plot_107 (by unfold F_plot; (repeat' split) <;> first | rfl | omega) (jLe.rf _) (kr0 _ _ ⟨(pAb (tZ z)), (pBe (tZ z)), (pAll (tZ z)), rfl, rfl⟩)
      · refine j_iconst G dX4_plot_102 (v := 1) rfl ?_
        refine j_goto (tgt := 107) G dX4_plot_103 (by decide) ?_
        exact j_reti G dX4_plot_107 (by unfold F_plot; (repeat' split) <;> first | rfl | omega) (jLe.rf _) (kr0 _ _ ⟨(pAb (tZ z)), (pBe (tZ z)), (pAll (tZ z)), rfl, rfl⟩)
    · refine j_tblIn (tgt := 108) G 4 dX4_plot_13 (by omega) (by omega) (by omega) rfl (by decide) ?_
      refine j_aload_n G 0 dX4_plot_108 rfl ?_
      refine j_get (q := 0) (C := RX4) (T := TX4) (N := 9) (v := .ref hw) G 0 hinX4 dX4_plot_109 rfl rfl (by decide) (by decide +kernel) rfl ?_
      refine j_aload_n G 0 dX4_plot_112 rfl ?_
      refine j_callV (nA := 0) (As := []) (st := [.ref hw]) (wc := (sV Y h hw hb hs hh hp hd ik sn se ++ (wZ Y hw qw z ++ (pV Y hp qp ab be al)))) (wr := []) G (c_X4_pathsLeft l D Y h hw hb hs hh hp hd ik sn se qw z qp ab be al (by first | assumption | omega)) dX4_plot_113 rfl gX4_plot_X4_pathsLeft rfl rfl rfl (by decide +kernel) ⟨by decide, by decide⟩ rfl 0 rfl rfl rfl (jLe.nil (jLe.rf _)) (Nat.le_of_ble_eq_true rfl) ⟨Nat.zero_le _, Nat.zero_le _⟩ (fun v_ w_ hp_ => ?_)
      obtain ⟨rfl, rfl⟩ := hp_
      show J x 0 0 (sV Y h hw hb hs hh hp hd ik sn se ++ (wZ Y hw qw z ++ (pT Y hp qp (tZ z)))) 116 [(0, .ref h), (1, .int (jI p)), (2, .int (jI w))] [.ref hp, .ref hw]
      refine j_iload_n G 1 dX4_plot_116 rfl ?_
      refine j_callV (nA := 2) (As := [.ref hp, .int (jI p)]) (st := []) (wc := (wZ Y hw qw z ++ (pT Y hp qp (tZ z)))) (wr := (sV Y h hw hb hs hh hp hd ik sn se)) G (c_X3_isDoomedZ l D Y hw qw z hp qp (tZ z) p (by first | assumption | exact hI.s1) (by first | assumption | omega)) dX4_plot_117 rfl gX4_plot_X3_isDoomed rfl rfl rfl (by decide +kernel) ⟨by decide, by decide⟩ rfl 0 rfl rfl rfl (jLe.pos [1, 2, 3, 4, 5, 6, 7, 8, 9, 10, 11, 12, 0] rfl rfl) (Nat.le_of_ble_eq_true rfl) ⟨Nat.zero_le _, Nat.zero_le _⟩ (fun v_ w_ hp_ => ?_)
      obtain ⟨rfl, rfl⟩ := hp_
      refine j_conv (ws' := sV Y h hw hb hs hh hp hd ik sn se ++ (wZ Y hw qw z ++ (pT Y hp qp (tZ z)))) (jLe.pos [12, 0, 1, 2, 3, 4, 5, 6, 7, 8, 9, 10, 11] rfl rfl) ?_
      show J x 0 0 (sV Y h hw hb hs hh hp hd ik sn se ++ (wZ Y hw qw z ++ (pT Y hp qp (tZ z)))) 120 [(0, .ref h), (1, .int (jI p)), (2, .int (jI w))] [.int (jI (if zHi z (tZ z) p = pAll (tZ z) then 1 else 0))]
      refine j_ifz_eq (tgt := 127) G dX4_plot_120 (by decide) (fun c120 => ?_) (fun c120 => ?_)
      · refine j_iconst G dX4_plot_127 (v := 0) rfl ?_
        exact j_reti G dX4_plot_128 (by unfold F_plot; (repeat' split) <;> first | rfl | omega) (jLe.rf _) (kr0 _ _ ⟨(pAb (tZ z)), (pBe (tZ z)), (pAll (tZ z)), rfl, rfl⟩)
      · refine j_iconst G dX4_plot_123 (v := 1) rfl ?_
        refine j_goto (tgt := 128) G dX4_plot_124 (by decide) ?_
        exact j_reti G dX4_plot_128 (by unfold F_plot; (repeat' split) <;> first | rfl | omega) (jLe.rf _) (kr0 _ _ ⟨(pAb (tZ z)), (pBe (tZ z)), (pAll (tZ z)), rfl, rfl⟩)
    · refine j_tblIn (tgt := 129) G 5 dX4_plot_13 (by omega) (by omega) (by omega) rfl (by decide) ?_
      refine j_aload_n G 0 dX4_plot_129 rfl ?_
      refine j_get (q := 0) (C := RX4) (T := TX4) (N := 9) (v := .ref hw) G 0 hinX4 dX4_plot_130 rfl rfl (by decide) (by decide +kernel) rfl ?_
      refine j_aload_n G 0 dX4_plot_133 rfl ?_
      refine j_callV (nA := 0) (As := []) (st := [.ref hw]) (wc := (sV Y h hw hb hs hh hp hd ik sn se ++ (wZ Y hw qw z ++ (pV Y hp qp ab be al)))) (wr := []) G (c_X4_pathsLeft l D Y h hw hb hs hh hp hd ik sn se qw z qp ab be al (by first | assumption | omega)) dX4_plot_134 rfl gX4_plot_X4_pathsLeft rfl rfl rfl (by decide +kernel) ⟨by decide, by decide⟩ rfl 0 rfl rfl rfl (jLe.nil (jLe.rf _)) (Nat.le_of_ble_eq_true rfl) ⟨Nat.zero_le _, Nat.zero_le _⟩ (fun v_ w_ hp_ => ?_)
      obtain ⟨rfl, rfl⟩ := hp_
      show J x 0 0 (sV Y h hw hb hs hh hp hd ik sn se ++ (wZ Y hw qw z ++ (pT Y hp qp (tZ z)))) 137 [(0, .ref h), (1, .int (jI p)), (2, .int (jI w))] [.ref hp, .ref hw]
      refine j_iload_n G 1 dX4_plot_137 rfl ?_
      refine j_callV (nA := 2) (As := [.ref hp, .int (jI p)]) (st := []) (wc := (wZ Y hw qw z ++ (pT Y hp qp (tZ z)))) (wr := (sV Y h hw hb hs hh hp hd ik sn se)) G (c_X3_standsToLose l D Y hw qw z hp qp (tZ z) p (by first | assumption | omega) (by exact hI.pa) (by first | assumption | omega)) dX4_plot_138 rfl gX4_plot_X3_standsToLose rfl rfl rfl (by decide +kernel) ⟨by decide, by decide⟩ rfl 0 rfl rfl rfl (jLe.pos [1, 2, 3, 4, 5, 6, 7, 8, 9, 10, 11, 12, 0] rfl rfl) (Nat.le_of_ble_eq_true rfl) ⟨Nat.zero_le _, Nat.zero_le _⟩ (fun v_ w_ hp_ => ?_)
      obtain ⟨rfl, rfl⟩ := hp_
      refine j_conv (ws' := sV Y h hw hb hs hh hp hd ik sn se ++ (wZ Y hw qw z ++ (pT Y hp qp (tZ z)))) (jLe.pos [12, 0, 1, 2, 3, 4, 5, 6, 7, 8, 9, 10, 11] rfl rfl) ?_
      show J x 0 0 (sV Y h hw hb hs hh hp hd ik sn se ++ (wZ Y hw qw z ++ (pT Y hp qp (tZ z)))) 141 [(0, .ref h), (1, .int (jI p)), (2, .int (jI w))] [.int (jI (zLo z (tZ z) p))]
      exact j_reti G dX4_plot_141 (by unfold F_plot; (repeat' split) <;> first | rfl | omega) (jLe.rf _) (kr0 _ _ ⟨(pAb (tZ z)), (pBe (tZ z)), (pAll (tZ z)), rfl, rfl⟩)
    · refine j_tblIn (tgt := 142) G 6 dX4_plot_13 (by omega) (by omega) (by omega) rfl (by decide) ?_
      have f142 := hI.fe p (by omega) (by omega)
      refine j_aload_n G 0 dX4_plot_142 rfl ?_
      refine j_get (q := 0) (C := RX4) (T := TX4) (N := 9) (v := .ref hw) G 0 hinX4 dX4_plot_143 rfl rfl (by decide) (by decide +kernel) rfl ?_
      refine j_getN (q := 1) (C := RX3) (T := TX3) (N := 13) (v := .ref (qw 1)) (host := "StormFelling") G 1 hinX3 dX4_plot_146 rfl rfl (by decide) (by decide +kernel) rfl ?_
      refine j_iload_n G 1 dX4_plot_149 rfl ?_
      refine j_zald (v := z (156 + p)) G 3 dX4_plot_150 rfl (by omega) rfl ?_
      refine j_if_eq (tgt := 158) G dX4_plot_151 (by decide) (by omega) (fun c151 => ?_) (fun c151 => ?_)
      · refine j_iconst G dX4_plot_158 (v := 0) rfl ?_
        exact j_reti G dX4_plot_159 (by unfold F_plot; (repeat' split) <;> first | rfl | omega) (jLe.rf _) (kr0 _ _ ⟨ab, be, al, rfl, rfl⟩)
      · refine j_iconst G dX4_plot_154 (v := 1) rfl ?_
        refine j_goto (tgt := 159) G dX4_plot_155 (by decide) ?_
        exact j_reti G dX4_plot_159 (by unfold F_plot; (repeat' split) <;> first | rfl | omega) (jLe.rf _) (kr0 _ _ ⟨ab, be, al, rfl, rfl⟩)
    · refine j_tblOut (tgt := 160) G dX4_plot_13 (by omega) (by omega) (by decide) ?_
      refine j_bipush G dX4_plot_160 (v := (-2)) rfl ?_
      exact j_reti G dX4_plot_162 (by unfold F_plot; (repeat' split) <;> first | rfl | omega) (jLe.rf _) (kr0 _ _ ⟨ab, be, al, rfl, rfl⟩)
  · refine j_iconst G dX4_plot_10 (v := (-1)) rfl ?_
    exact j_reti G dX4_plot_11 (by unfold F_plot; (repeat' split) <;> first | rfl | omega) (jLe.rf _) (kr0 _ _ ⟨ab, be, al, rfl, rfl⟩)

set_option maxHeartbeats 4000000 in
set_option maxRecDepth 100000 in
theorem c_X4_crew (l : Launch) (D : va_G) (Y : Nat → ClassId) (h : Nat) (hw : Nat) (hb : Nat) (hs : Nat) (hh : Nat) (hp : Nat) (hd : Nat) (ik : Int) (sn : Int) (se : Int) (qw : Nat → Nat) (z : Int → Int) (k : Int) (w : Int) (hI : Inv z) (h_k : -2147483648 ≤ k ∧ k < 2147483648) (h_w : -2147483648 ≤ w ∧ w < 2147483648) : jM l yX4_crew wsX4_crew { frames := 1, cells := 0, slots := 0, locals := 22 } D Y [.ref h, .int (jI k), .int (jI w)] (sV Y h hw hb hs hh hp hd ik sn se ++ (wZ Y hw qw z)) (fun v_ w_ => v_ = some (.int (jI (F_crew z k w))) ∧ w_ = (sV Y h hw hb hs hh hp hd ik sn se ++ (wZ Y hw qw z))) 0 0 := by
  refine jM_of (cc := cX4_crew) (maxL := 3) (ret := (some .int)) (by decide) rfl (Nat.le_of_ble_eq_true rfl) (fun v w' h => Or.inr (Or.inl ⟨_, _, rfl, h.1, rfl⟩)) ?_
  intro x G kr0
  have kr := kr0 _ _ ⟨rfl, rfl⟩
  have G : jG x l D Y cX4_crew RX4 wsX4_crew 3 ({ frames := 1, cells := 0, slots := 0, locals := 22 } : Room) (some .int) "crew" := G
  have hinX3 : ∀ w ∈ wsX30, w ∈ wsX4_crew := fun _ h => List.mem_cons_of_mem _ (List.mem_append_right _ h)
  have hinX4 : ∀ w ∈ wsX40, w ∈ wsX4_crew := fun _ h => List.mem_cons_of_mem _ (List.mem_append_left _ (List.mem_append_right _ h))
  show J x 0 0 (sV Y h hw hb hs hh hp hd ik sn se ++ (wZ Y hw qw z)) 0 [(0, .ref h), (1, .int (jI k)), (2, .int (jI w))] []
  refine j_iload_n G 1 dX4_crew_0 rfl ?_
  refine j_iconst G dX4_crew_1 (v := 0) rfl ?_
  refine j_iconst G dX4_crew_2 (v := 2) rfl ?_
  refine j_callS (nA := 3) (As := [.int (jI k), .int (jI 0), .int (jI 2)]) (st := []) (wc := []) (wr := (sV Y h hw hb hs hh hp hd ik sn se ++ (wZ Y hw qw z))) G (c_X4_isIn l D Y k 0 2 (by first | assumption | omega) (by first | assumption | omega) (by first | assumption | omega)) dX4_crew_3 rfl gX4_crew_X4_isIn rfl rfl rfl (by decide +kernel) ⟨by decide, by decide⟩ rfl (jLe.rf _) (Nat.le_of_ble_eq_true rfl) ⟨Nat.zero_le _, Nat.zero_le _⟩ (fun v_ w_ hp_ => ?_)
  obtain ⟨rfl, rfl⟩ := hp_
  show J x 0 0 (sV Y h hw hb hs hh hp hd ik sn se ++ (wZ Y hw qw z)) 6 [(0, .ref h), (1, .int (jI k)), (2, .int (jI w))] [.int (jI (if 0 ≤ k ∧ k ≤ 2 then 1 else 0))]
  refine j_ifz_ne (tgt := 11) G dX4_crew_6 (by decide) (fun c6 => ?_) (fun c6 => ?_)
  · refine j_iload_n G 2 dX4_crew_11 rfl ?_
    rcases (show w = 0 ∨ w = 1 ∨ w = 2 ∨ w = 3 ∨ (¬ w = 0 ∧ ¬ w = 1 ∧ ¬ w = 2 ∧ ¬ w = 3) by omega) with s12 | s12 | s12 | s12 | s12
    · refine j_tblIn (tgt := 44) G 0 dX4_crew_12 (by omega) (by omega) (by omega) rfl (by decide) ?_
      refine j_aload_n G 0 dX4_crew_44 rfl ?_
      refine j_get (q := 0) (C := RX4) (T := TX4) (N := 9) (v := .ref hw) G 0 hinX4 dX4_crew_45 rfl rfl (by decide) (by decide +kernel) rfl ?_
      refine j_getN (q := 3) (C := RX3) (T := TX3) (N := 13) (v := .ref (qw 2)) (host := "StormFelling") G 1 hinX3 dX4_crew_48 rfl rfl (by decide) (by decide +kernel) rfl ?_
      refine j_iload_n G 1 dX4_crew_51 rfl ?_
      refine j_iald (v := z (15 + 4 * k)) G 4 dX4_crew_52 rfl (by omega) rfl ?_
      exact j_reti G dX4_crew_53 (by unfold F_crew; (repeat' split) <;> first | rfl | omega) (jLe.rf _) kr
    · refine j_tblIn (tgt := 54) G 1 dX4_crew_12 (by omega) (by omega) (by omega) rfl (by decide) ?_
      refine j_aload_n G 0 dX4_crew_54 rfl ?_
      refine j_get (q := 0) (C := RX4) (T := TX4) (N := 9) (v := .ref hw) G 0 hinX4 dX4_crew_55 rfl rfl (by decide) (by decide +kernel) rfl ?_
      refine j_getN (q := 4) (C := RX3) (T := TX3) (N := 13) (v := .ref (qw 3)) (host := "StormFelling") G 1 hinX3 dX4_crew_58 rfl rfl (by decide) (by decide +kernel) rfl ?_
      refine j_iload_n G 1 dX4_crew_61 rfl ?_
      refine j_iald (v := z (16 + 4 * k)) G 5 dX4_crew_62 rfl (by omega) rfl ?_
      exact j_reti G dX4_crew_63 (by unfold F_crew; (repeat' split) <;> first | rfl | omega) (jLe.rf _) kr
    · refine j_tblIn (tgt := 64) G 2 dX4_crew_12 (by omega) (by omega) (by omega) rfl (by decide) ?_
      refine j_aload_n G 0 dX4_crew_64 rfl ?_
      refine j_get (q := 0) (C := RX4) (T := TX4) (N := 9) (v := .ref hw) G 0 hinX4 dX4_crew_65 rfl rfl (by decide) (by decide +kernel) rfl ?_
      refine j_getN (q := 5) (C := RX3) (T := TX3) (N := 13) (v := .ref (qw 4)) (host := "StormFelling") G 1 hinX3 dX4_crew_68 rfl rfl (by decide) (by decide +kernel) rfl ?_
      refine j_iload_n G 1 dX4_crew_71 rfl ?_
      refine j_iald (v := z (17 + 4 * k)) G 6 dX4_crew_72 rfl (by omega) rfl ?_
      exact j_reti G dX4_crew_73 (by unfold F_crew; (repeat' split) <;> first | rfl | omega) (jLe.rf _) kr
    · refine j_tblIn (tgt := 74) G 3 dX4_crew_12 (by omega) (by omega) (by omega) rfl (by decide) ?_
      refine j_aload_n G 0 dX4_crew_74 rfl ?_
      refine j_get (q := 0) (C := RX4) (T := TX4) (N := 9) (v := .ref hw) G 0 hinX4 dX4_crew_75 rfl rfl (by decide) (by decide +kernel) rfl ?_
      refine j_getN (q := 6) (C := RX3) (T := TX3) (N := 13) (v := .ref (qw 5)) (host := "StormFelling") G 1 hinX3 dX4_crew_78 rfl rfl (by decide) (by decide +kernel) rfl ?_
      refine j_iload_n G 1 dX4_crew_81 rfl ?_
      refine j_iald (v := z (18 + 4 * k)) G 7 dX4_crew_82 rfl (by omega) rfl ?_
      exact j_reti G dX4_crew_83 (by unfold F_crew; (repeat' split) <;> first | rfl | omega) (jLe.rf _) kr
    · refine j_tblOut (tgt := 84) G dX4_crew_12 (by omega) (by omega) (by decide) ?_
      refine j_bipush G dX4_crew_84 (v := (-2)) rfl ?_
      exact j_reti G dX4_crew_86 (by unfold F_crew; (repeat' split) <;> first | rfl | omega) (jLe.rf _) kr
  · refine j_iconst G dX4_crew_9 (v := (-1)) rfl ?_
    exact j_reti G dX4_crew_10 (by unfold F_crew; (repeat' split) <;> first | rfl | omega) (jLe.rf _) kr

set_option maxHeartbeats 4000000 in
set_option maxRecDepth 100000 in
theorem c_X4_row (l : Launch) (D : va_G) (Y : Nat → ClassId) (h : Nat) (hw : Nat) (hb : Nat) (hs : Nat) (hh : Nat) (hp : Nat) (hd : Nat) (ik : Int) (sn : Int) (se : Int) (qw : Nat → Nat) (z : Int → Int) (qp : Nat → Nat) (ab : Int → Int) (be : Int → Int) (al : Int) (r : Int) (w : Int) (hI : Inv z) (h_r : -2147483648 ≤ r ∧ r < 2147483648) (h_w : -2147483648 ≤ w ∧ w < 2147483648) : jM l yX4_row wsX4_row { frames := 3, cells := 0, slots := 0, locals := 64 } D Y [.ref h, .int (jI r), .int (jI w)] (sV Y h hw hb hs hh hp hd ik sn se ++ (wZ Y hw qw z ++ (pV Y hp qp ab be al))) (fun v_ w_ => ∃ (ab2 : Int → Int) (be2 : Int → Int) (al2 : Int), v_ = some (.int (jI (F_row z r w))) ∧ w_ = (sV Y h hw hb hs hh hp hd ik sn se ++ (wZ Y hw qw z ++ (pV Y hp qp ab2 be2 al2)))) 0 0 := by
  refine jM_of (cc := cX4_row) (maxL := 3) (ret := (some .int)) (by decide) rfl (Nat.le_of_ble_eq_true rfl) (fun v w' h => by obtain ⟨_, _, _, h⟩ := h; exact Or.inr (Or.inl ⟨_, _, rfl, h.1, rfl⟩)) ?_
  intro x G kr0
  have G : jG x l D Y cX4_row RX4 wsX4_row 3 ({ frames := 3, cells := 0, slots := 0, locals := 64 } : Room) (some .int) "row" := G
  have hinX3 : ∀ w ∈ wsX30, w ∈ wsX4_row := fun _ h => List.mem_cons_of_mem _ (List.mem_append_left _ (List.mem_append_right _ h))
  have hinX4 : ∀ w ∈ wsX40, w ∈ wsX4_row := fun _ h => List.mem_cons_of_mem _ (List.mem_append_left _ (List.mem_append_left _ (List.mem_append_right _ h)))
  show J x 0 0 (sV Y h hw hb hs hh hp hd ik sn se ++ (wZ Y hw qw z ++ (pV Y hp qp ab be al))) 0 [(0, .ref h), (1, .int (jI r)), (2, .int (jI w))] []
  refine j_iload_n G 1 dX4_row_0 rfl ?_
  refine j_iconst G dX4_row_1 (v := 0) rfl ?_
  refine j_bipush G dX4_row_2 (v := 7) rfl ?_
  refine j_callS (nA := 3) (As := [.int (jI r), .int (jI 0), .int (jI 7)]) (st := []) (wc := []) (wr := (sV Y h hw hb hs hh hp hd ik sn se ++ (wZ Y hw qw z ++ (pV Y hp qp ab be al)))) G (c_X4_isIn l D Y r 0 7 (by first | assumption | omega) (by first | assumption | omega) (by first | assumption | omega)) dX4_row_4 rfl gX4_row_X4_isIn rfl rfl rfl (by decide +kernel) ⟨by decide, by decide⟩ rfl (jLe.rf _) (Nat.le_of_ble_eq_true rfl) ⟨Nat.zero_le _, Nat.zero_le _⟩ (fun v_ w_ hp_ => ?_)
  obtain ⟨rfl, rfl⟩ := hp_
  show J x 0 0 (sV Y h hw hb hs hh hp hd ik sn se ++ (wZ Y hw qw z ++ (pV Y hp qp ab be al))) 7 [(0, .ref h), (1, .int (jI r)), (2, .int (jI w))] [.int (jI (if 0 ≤ r ∧ r ≤ 7 then 1 else 0))]
  refine j_ifz_ne (tgt := 12) G dX4_row_7 (by decide) (fun c7 => ?_) (fun c7 => ?_)
  · refine j_iload_n G 2 dX4_row_12 rfl ?_
    rcases (show w = 0 ∨ w = 1 ∨ w = 2 ∨ (¬ w = 0 ∧ ¬ w = 1 ∧ ¬ w = 2) by omega) with s13 | s13 | s13 | s13
    · refine j_tblIn (tgt := 40) G 0 dX4_row_13 (by omega) (by omega) (by omega) rfl (by decide) ?_
      refine j_aload_n G 0 dX4_row_40 rfl ?_
      refine j_get (q := 0) (C := RX4) (T := TX4) (N := 9) (v := .ref hw) G 0 hinX4 dX4_row_41 rfl rfl (by decide) (by decide +kernel) rfl ?_
      refine j_getN (q := 7) (C := RX3) (T := TX3) (N := 13) (v := .ref (qw 6)) (host := "StormFelling") G 1 hinX3 dX4_row_44 rfl rfl (by decide) (by decide +kernel) rfl ?_
      refine j_iload_n G 1 dX4_row_47 rfl ?_
      refine j_iald (v := z (7 + r)) G 8 dX4_row_48 rfl (by omega) rfl ?_
      exact j_reti G dX4_row_49 (by unfold F_row; (repeat' split) <;> first | rfl | omega) (jLe.rf _) (kr0 _ _ ⟨ab, be, al, rfl, rfl⟩)
    · refine j_tblIn (tgt := 50) G 1 dX4_row_13 (by omega) (by omega) (by omega) rfl (by decide) ?_
      refine j_aload_n G 0 dX4_row_50 rfl ?_
      refine j_callV (nA := 0) (As := []) (st := []) (wc := (sV Y h hw hb hs hh hp hd ik sn se ++ (wZ Y hw qw z ++ (pV Y hp qp ab be al)))) (wr := []) G (c_X4_pathsLeft l D Y h hw hb hs hh hp hd ik sn se qw z qp ab be al (by first | assumption | omega)) dX4_row_51 rfl gX4_row_X4_pathsLeft rfl rfl rfl (by decide +kernel) ⟨by decide, by decide⟩ rfl 0 rfl rfl rfl (jLe.nil (jLe.rf _)) (Nat.le_of_ble_eq_true rfl) ⟨Nat.zero_le _, Nat.zero_le _⟩ (fun v_ w_ hp_ => ?_)
      obtain ⟨rfl, rfl⟩ := hp_
      show J x 0 0 (sV Y h hw hb hs hh hp hd ik sn se ++ (wZ Y hw qw z ++ (pT Y hp qp (tZ z)))) 54 [(0, .ref h), (1, .int (jI r)), (2, .int (jI w))] [.ref hp]
      refine j_iload_n G 1 dX4_row_54 rfl ?_
      refine j_callV (nA := 1) (As := [.int (jI r)]) (st := []) (wc := (pT Y hp qp (tZ z))) (wr := (sV Y h hw hb hs hh hp hd ik sn se ++ (wZ Y hw qw z))) G (c_X2_leastColumnT l D Y hp qp (tZ z) r (by first | assumption | omega) (by exact hI.pa)) dX4_row_55 rfl gX4_row_X2_leastColumn rfl rfl rfl (by decide +kernel) ⟨by decide, by decide⟩ rfl 0 rfl rfl rfl (jLe.pos [10, 11, 12, 0, 1, 2, 3, 4, 5, 6, 7, 8, 9] rfl rfl) (Nat.le_of_ble_eq_true rfl) ⟨Nat.zero_le _, Nat.zero_le _⟩ (fun v_ w_ hp_ => ?_)
      obtain ⟨rfl, rfl⟩ := hp_
      refine j_conv (ws' := sV Y h hw hb hs hh hp hd ik sn se ++ (wZ Y hw qw z ++ (pT Y hp qp (tZ z)))) (jLe.pos [3, 4, 5, 6, 7, 8, 9, 10, 11, 12, 0, 1, 2] rfl rfl) ?_
      show J x 0 0 (sV Y h hw hb hs hh hp hd ik sn se ++ (wZ Y hw qw z ++ (pT Y hp qp (tZ z)))) 58 [(0, .ref h), (1, .int (jI r)), (2, .int (jI w))] [.int (jI (cLeast (fun c => pTh (tZ z) (r * 8 + c)) 8))]
      exact j_reti G dX4_row_58 (by unfold F_row; (repeat' split) <;> first | rfl | omega) (jLe.rf _) (kr0 _ _ ⟨(pAb (tZ z)), (pBe (tZ z)), (pAll (tZ z)), rfl, rfl⟩)
    · refine j_tblIn (tgt := 59) G 2 dX4_row_13 (by omega) (by omega) (by omega) rfl (by decide) ?_
      refine j_aload_n G 0 dX4_row_59 rfl ?_
      refine j_callV (nA := 0) (As := []) (st := []) (wc := (sV Y h hw hb hs hh hp hd ik sn se ++ (wZ Y hw qw z ++ (pV Y hp qp ab be al)))) (wr := []) G (c_X4_pathsLeft l D Y h hw hb hs hh hp hd ik sn se qw z qp ab be al (by first | assumption | omega)) dX4_row_60 rfl gX4_row_X4_pathsLeft rfl rfl rfl (by decide +kernel) ⟨by decide, by decide⟩ rfl 0 rfl rfl rfl (jLe.nil (jLe.rf _)) (Nat.le_of_ble_eq_true rfl) ⟨Nat.zero_le _, Nat.zero_le _⟩ (fun v_ w_ hp_ => ?_)
      obtain ⟨rfl, rfl⟩ := hp_
      show J x 0 0 (sV Y h hw hb hs hh hp hd ik sn se ++ (wZ Y hw qw z ++ (pT Y hp qp (tZ z)))) 63 [(0, .ref h), (1, .int (jI r)), (2, .int (jI w))] [.ref hp]
      refine j_iload_n G 1 dX4_row_63 rfl ?_
      refine j_callV (nA := 1) (As := [.int (jI r)]) (st := []) (wc := (pT Y hp qp (tZ z))) (wr := (sV Y h hw hb hs hh hp hd ik sn se ++ (wZ Y hw qw z))) G (c_X2_greatestColumnT l D Y hp qp (tZ z) r (by first | assumption | omega) (by exact hI.pa)) dX4_row_64 rfl gX4_row_X2_greatestColumn rfl rfl rfl (by decide +kernel) ⟨by decide, by decide⟩ rfl 0 rfl rfl rfl (jLe.pos [10, 11, 12, 0, 1, 2, 3, 4, 5, 6, 7, 8, 9] rfl rfl) (Nat.le_of_ble_eq_true rfl) ⟨Nat.zero_le _, Nat.zero_le _⟩ (fun v_ w_ hp_ => ?_)
      obtain ⟨rfl, rfl⟩ := hp_
      refine j_conv (ws' := sV Y h hw hb hs hh hp hd ik sn se ++ (wZ Y hw qw z ++ (pT Y hp qp (tZ z)))) (jLe.pos [3, 4, 5, 6, 7, 8, 9, 10, 11, 12, 0, 1, 2] rfl rfl) ?_
      show J x 0 0 (sV Y h hw hb hs hh hp hd ik sn se ++ (wZ Y hw qw z ++ (pT Y hp qp (tZ z)))) 67 [(0, .ref h), (1, .int (jI r)), (2, .int (jI w))] [.int (jI (cMost (fun c => pTh (tZ z) (r * 8 + c)) 8))]
      exact j_reti G dX4_row_67 (by unfold F_row; (repeat' split) <;> first | rfl | omega) (jLe.rf _) (kr0 _ _ ⟨(pAb (tZ z)), (pBe (tZ z)), (pAll (tZ z)), rfl, rfl⟩)
    · refine j_tblOut (tgt := 68) G dX4_row_13 (by omega) (by omega) (by decide) ?_
      refine j_bipush G dX4_row_68 (v := (-2)) rfl ?_
      exact j_reti G dX4_row_70 (by unfold F_row; (repeat' split) <;> first | rfl | omega) (jLe.rf _) (kr0 _ _ ⟨ab, be, al, rfl, rfl⟩)
  · refine j_iconst G dX4_row_10 (v := (-1)) rfl ?_
    exact j_reti G dX4_row_11 (by unfold F_row; (repeat' split) <;> first | rfl | omega) (jLe.rf _) (kr0 _ _ ⟨ab, be, al, rfl, rfl⟩)

set_option maxHeartbeats 4000000 in
set_option maxRecDepth 100000 in
theorem c_X4_way (l : Launch) (D : va_G) (Y : Nat → ClassId) (h : Nat) (hw : Nat) (hb : Nat) (hs : Nat) (hh : Nat) (hp : Nat) (hd : Nat) (ik : Int) (sn : Int) (se : Int) (qw : Nat → Nat) (z : Int → Int) (k : Int) (p : Int) (hI : Inv z) (h_k : -2147483648 ≤ k ∧ k < 2147483648) (h_p : -2147483648 ≤ p ∧ p < 2147483648) : jM l yX4_way wsX4_way { frames := 2, cells := 0, slots := 0, locals := 38 } D Y [.ref h, .int (jI k), .int (jI p)] (sV Y h hw hb hs hh hp hd ik sn se ++ (wZ Y hw qw z)) (fun v_ w_ => v_ = some (.int (jI (F_way z k p))) ∧ w_ = (sV Y h hw hb hs hh hp hd ik sn se ++ (wZ Y hw qw z))) 0 0 := by
  refine jM_of (cc := cX4_way) (maxL := 3) (ret := (some .int)) (by decide) rfl (Nat.le_of_ble_eq_true rfl) (fun v w' h => Or.inr (Or.inl ⟨_, _, rfl, h.1, rfl⟩)) ?_
  intro x G kr0
  have kr := kr0 _ _ ⟨rfl, rfl⟩
  have G : jG x l D Y cX4_way RX4 wsX4_way 3 ({ frames := 2, cells := 0, slots := 0, locals := 38 } : Room) (some .int) "way" := G
  have hinX4 : ∀ w ∈ wsX40, w ∈ wsX4_way := fun _ h => List.mem_cons_of_mem _ (List.mem_append_left _ (List.mem_append_right _ h))
  show J x 0 0 (sV Y h hw hb hs hh hp hd ik sn se ++ (wZ Y hw qw z)) 0 [(0, .ref h), (1, .int (jI k)), (2, .int (jI p))] []
  refine j_iload_n G 1 dX4_way_0 rfl ?_
  refine j_iconst G dX4_way_1 (v := 0) rfl ?_
  refine j_iconst G dX4_way_2 (v := 2) rfl ?_
  refine j_callS (nA := 3) (As := [.int (jI k), .int (jI 0), .int (jI 2)]) (st := []) (wc := []) (wr := (sV Y h hw hb hs hh hp hd ik sn se ++ (wZ Y hw qw z))) G (c_X4_isIn l D Y k 0 2 (by first | assumption | omega) (by first | assumption | omega) (by first | assumption | omega)) dX4_way_3 rfl gX4_way_X4_isIn rfl rfl rfl (by decide +kernel) ⟨by decide, by decide⟩ rfl (jLe.rf _) (Nat.le_of_ble_eq_true rfl) ⟨Nat.zero_le _, Nat.zero_le _⟩ (fun v_ w_ hp_ => ?_)
  obtain ⟨rfl, rfl⟩ := hp_
  show J x 0 0 (sV Y h hw hb hs hh hp hd ik sn se ++ (wZ Y hw qw z)) 6 [(0, .ref h), (1, .int (jI k)), (2, .int (jI p))] [.int (jI (if 0 ≤ k ∧ k ≤ 2 then 1 else 0))]
  refine j_ifz_eq (tgt := 19) G dX4_way_6 (by decide) (fun c6 => ?_) (fun c6 => ?_)
  · refine j_iconst G dX4_way_19 (v := (-1)) rfl ?_
    exact j_reti G dX4_way_20 (by unfold F_way; (repeat' split) <;> first | rfl | omega) (jLe.rf _) kr
  · refine j_iload_n G 2 dX4_way_9 rfl ?_
    refine j_iconst G dX4_way_10 (v := 0) rfl ?_
    refine j_bipush G dX4_way_11 (v := 63) rfl ?_
    refine j_callS (nA := 3) (As := [.int (jI p), .int (jI 0), .int (jI 63)]) (st := []) (wc := []) (wr := (sV Y h hw hb hs hh hp hd ik sn se ++ (wZ Y hw qw z))) G (c_X4_isIn l D Y p 0 63 (by first | assumption | omega) (by first | assumption | omega) (by first | assumption | omega)) dX4_way_13 rfl gX4_way_X4_isIn rfl rfl rfl (by decide +kernel) ⟨by decide, by decide⟩ rfl (jLe.rf _) (Nat.le_of_ble_eq_true rfl) ⟨Nat.zero_le _, Nat.zero_le _⟩ (fun v_ w_ hp_ => ?_)
    obtain ⟨rfl, rfl⟩ := hp_
    show J x 0 0 (sV Y h hw hb hs hh hp hd ik sn se ++ (wZ Y hw qw z)) 16 [(0, .ref h), (1, .int (jI k)), (2, .int (jI p))] [.int (jI (if 0 ≤ p ∧ p ≤ 63 then 1 else 0))]
    refine j_ifz_ne (tgt := 21) G dX4_way_16 (by decide) (fun c16 => ?_) (fun c16 => ?_)
    · refine j_aload_n G 0 dX4_way_21 rfl ?_
      refine j_get (q := 0) (C := RX4) (T := TX4) (N := 9) (v := .ref hw) G 0 hinX4 dX4_way_22 rfl rfl (by decide) (by decide +kernel) rfl ?_
      refine j_iload_n G 1 dX4_way_25 rfl ?_
      refine j_iload_n G 2 dX4_way_26 rfl ?_
      refine j_callV (nA := 2) (As := [.int (jI k), .int (jI p)]) (st := []) (wc := (wZ Y hw qw z)) (wr := (sV Y h hw hb hs hh hp hd ik sn se)) G (c_X3_stepsTo l D Y hw qw z k p (by first | assumption | omega) (by first | assumption | omega) (by first | assumption | omega)) dX4_way_27 rfl gX4_way_X3_stepsTo rfl rfl rfl (by decide +kernel) ⟨by decide, by decide⟩ rfl 0 rfl rfl rfl (jLe.pos [1, 2, 3, 4, 5, 6, 7, 8, 9, 0] rfl rfl) (Nat.le_of_ble_eq_true rfl) ⟨Nat.zero_le _, Nat.zero_le _⟩ (fun v_ w_ hp_ => ?_)
      obtain ⟨rfl, rfl⟩ := hp_
      refine j_conv (ws' := sV Y h hw hb hs hh hp hd ik sn se ++ (wZ Y hw qw z)) (jLe.pos [9, 0, 1, 2, 3, 4, 5, 6, 7, 8] rfl rfl) ?_
      show J x 0 0 (sV Y h hw hb hs hh hp hd ik sn se ++ (wZ Y hw qw z)) 30 [(0, .ref h), (1, .int (jI k)), (2, .int (jI p))] [.int (jI (zWay z k p))]
      exact j_reti G dX4_way_30 (by unfold F_way; (repeat' split) <;> first | rfl | omega) (jLe.rf _) kr
    · refine j_iconst G dX4_way_19 (v := (-1)) rfl ?_
      exact j_reti G dX4_way_20 (by unfold F_way; (repeat' split) <;> first | rfl | omega) (jLe.rf _) kr

set_option maxHeartbeats 4000000 in
set_option maxRecDepth 100000 in
theorem c_X4_reason (l : Launch) (D : va_G) (Y : Nat → ClassId) (h : Nat) (hw : Nat) (hb : Nat) (hs : Nat) (hh : Nat) (hp : Nat) (hd : Nat) (ik : Int) (sn : Int) (se : Int) (qw : Nat → Nat) (z : Int → Int) (k : Int) (p : Int) (hI : Inv z) (h_k : -2147483648 ≤ k ∧ k < 2147483648) (h_p : -2147483648 ≤ p ∧ p < 2147483648) : jM l yX4_reason wsX4_reason { frames := 3, cells := 0, slots := 0, locals := 61 } D Y [.ref h, .int (jI k), .int (jI p)] (sV Y h hw hb hs hh hp hd ik sn se ++ (wZ Y hw qw z)) (fun v_ w_ => v_ = some (.int (jI (F_reason z k p))) ∧ w_ = (sV Y h hw hb hs hh hp hd ik sn se ++ (wZ Y hw qw z))) 0 0 := by
  refine jM_of (cc := cX4_reason) (maxL := 3) (ret := (some .int)) (by decide) rfl (Nat.le_of_ble_eq_true rfl) (fun v w' h => Or.inr (Or.inl ⟨_, _, rfl, h.1, rfl⟩)) ?_
  intro x G kr0
  have kr := kr0 _ _ ⟨rfl, rfl⟩
  have G : jG x l D Y cX4_reason RX4 wsX4_reason 3 ({ frames := 3, cells := 0, slots := 0, locals := 61 } : Room) (some .int) "reason" := G
  have hinX4 : ∀ w ∈ wsX40, w ∈ wsX4_reason := fun _ h => List.mem_cons_of_mem _ (List.mem_append_left _ (List.mem_append_right _ h))
  show J x 0 0 (sV Y h hw hb hs hh hp hd ik sn se ++ (wZ Y hw qw z)) 0 [(0, .ref h), (1, .int (jI k)), (2, .int (jI p))] []
  refine j_iload_n G 1 dX4_reason_0 rfl ?_
  refine j_iconst G dX4_reason_1 (v := 0) rfl ?_
  refine j_iconst G dX4_reason_2 (v := 2) rfl ?_
  refine j_callS (nA := 3) (As := [.int (jI k), .int (jI 0), .int (jI 2)]) (st := []) (wc := []) (wr := (sV Y h hw hb hs hh hp hd ik sn se ++ (wZ Y hw qw z))) G (c_X4_isIn l D Y k 0 2 (by first | assumption | omega) (by first | assumption | omega) (by first | assumption | omega)) dX4_reason_3 rfl gX4_reason_X4_isIn rfl rfl rfl (by decide +kernel) ⟨by decide, by decide⟩ rfl (jLe.rf _) (Nat.le_of_ble_eq_true rfl) ⟨Nat.zero_le _, Nat.zero_le _⟩ (fun v_ w_ hp_ => ?_)
  obtain ⟨rfl, rfl⟩ := hp_
  show J x 0 0 (sV Y h hw hb hs hh hp hd ik sn se ++ (wZ Y hw qw z)) 6 [(0, .ref h), (1, .int (jI k)), (2, .int (jI p))] [.int (jI (if 0 ≤ k ∧ k ≤ 2 then 1 else 0))]
  refine j_ifz_eq (tgt := 19) G dX4_reason_6 (by decide) (fun c6 => ?_) (fun c6 => ?_)
  · refine j_iconst G dX4_reason_19 (v := (-1)) rfl ?_
    exact j_reti G dX4_reason_20 (by unfold F_reason; (repeat' split) <;> first | rfl | omega) (jLe.rf _) kr
  · refine j_iload_n G 2 dX4_reason_9 rfl ?_
    refine j_iconst G dX4_reason_10 (v := 0) rfl ?_
    refine j_bipush G dX4_reason_11 (v := 63) rfl ?_
    refine j_callS (nA := 3) (As := [.int (jI p), .int (jI 0), .int (jI 63)]) (st := []) (wc := []) (wr := (sV Y h hw hb hs hh hp hd ik sn se ++ (wZ Y hw qw z))) G (c_X4_isIn l D Y p 0 63 (by first | assumption | omega) (by first | assumption | omega) (by first | assumption | omega)) dX4_reason_13 rfl gX4_reason_X4_isIn rfl rfl rfl (by decide +kernel) ⟨by decide, by decide⟩ rfl (jLe.rf _) (Nat.le_of_ble_eq_true rfl) ⟨Nat.zero_le _, Nat.zero_le _⟩ (fun v_ w_ hp_ => ?_)
    obtain ⟨rfl, rfl⟩ := hp_
    show J x 0 0 (sV Y h hw hb hs hh hp hd ik sn se ++ (wZ Y hw qw z)) 16 [(0, .ref h), (1, .int (jI k)), (2, .int (jI p))] [.int (jI (if 0 ≤ p ∧ p ≤ 63 then 1 else 0))]
    refine j_ifz_ne (tgt := 21) G dX4_reason_16 (by decide) (fun c16 => ?_) (fun c16 => ?_)
    · refine j_aload_n G 0 dX4_reason_21 rfl ?_
      refine j_get (q := 0) (C := RX4) (T := TX4) (N := 9) (v := .ref hw) G 0 hinX4 dX4_reason_22 rfl rfl (by decide) (by decide +kernel) rfl ?_
      refine j_iload_n G 1 dX4_reason_25 rfl ?_
      refine j_iload_n G 2 dX4_reason_26 rfl ?_
      refine j_callV (nA := 2) (As := [.int (jI k), .int (jI p)]) (st := []) (wc := (wZ Y hw qw z)) (wr := (sV Y h hw hb hs hh hp hd ik sn se)) G (c_X3_whyNot l D Y hw qw z k p (by first | assumption | omega) (by first | assumption | omega) (by first | assumption | omega)) dX4_reason_27 rfl gX4_reason_X3_whyNot rfl rfl rfl (by decide +kernel) ⟨by decide, by decide⟩ rfl 0 rfl rfl rfl (jLe.pos [1, 2, 3, 4, 5, 6, 7, 8, 9, 0] rfl rfl) (Nat.le_of_ble_eq_true rfl) ⟨Nat.zero_le _, Nat.zero_le _⟩ (fun v_ w_ hp_ => ?_)
      obtain ⟨rfl, rfl⟩ := hp_
      refine j_conv (ws' := sV Y h hw hb hs hh hp hd ik sn se ++ (wZ Y hw qw z)) (jLe.pos [9, 0, 1, 2, 3, 4, 5, 6, 7, 8] rfl rfl) ?_
      show J x 0 0 (sV Y h hw hb hs hh hp hd ik sn se ++ (wZ Y hw qw z)) 30 [(0, .ref h), (1, .int (jI k)), (2, .int (jI p))] [.int (jI (F_why z k p))]
      exact j_reti G dX4_reason_30 (by unfold F_reason; (repeat' split) <;> first | rfl | omega) (jLe.rf _) kr
    · refine j_iconst G dX4_reason_19 (v := (-1)) rfl ?_
      exact j_reti G dX4_reason_20 (by unfold F_reason; (repeat' split) <;> first | rfl | omega) (jLe.rf _) kr

set_option maxHeartbeats 4000000 in
set_option maxRecDepth 100000 in
theorem c_X4_best (l : Launch) (D : va_G) (Y : Nat → ClassId) (h : Nat) (hw : Nat) (hb : Nat) (hs : Nat) (hh : Nat) (hp : Nat) (hd : Nat) (ik : Int) (sn : Int) (se : Int) (qw : Nat → Nat) (z : Int → Int) (qp : Nat → Nat) (ab : Int → Int) (be : Int → Int) (al : Int) (k : Int) (hI : Inv z) (h_k : -2147483648 ≤ k ∧ k < 2147483648) : jM l yX4_best wsX4_best { frames := 6, cells := 0, slots := 0, locals := 141 } D Y [.ref h, .int (jI k)] (sV Y h hw hb hs hh hp hd ik sn se ++ (wZ Y hw qw z ++ (pV Y hp qp ab be al))) (fun v_ w_ => ∃ (ab2 : Int → Int) (be2 : Int → Int) (al2 : Int), v_ = some (.int (jI (F_best z k))) ∧ w_ = (sV Y h hw hb hs hh hp hd ik sn se ++ (wZ Y hw qw z ++ (pV Y hp qp ab2 be2 al2)))) 0 0 := by
  refine jM_of (cc := cX4_best) (maxL := 2) (ret := (some .int)) (by decide) rfl (Nat.le_of_ble_eq_true rfl) (fun v w' h => by obtain ⟨_, _, _, h⟩ := h; exact Or.inr (Or.inl ⟨_, _, rfl, h.1, rfl⟩)) ?_
  intro x G kr0
  have G : jG x l D Y cX4_best RX4 wsX4_best 2 ({ frames := 6, cells := 0, slots := 0, locals := 141 } : Room) (some .int) "best" := G
  have hinX4 : ∀ w ∈ wsX40, w ∈ wsX4_best := fun _ h => List.mem_cons_of_mem _ (List.mem_append_left _ (List.mem_append_left _ (List.mem_append_right _ h)))
  show J x 0 0 (sV Y h hw hb hs hh hp hd ik sn se ++ (wZ Y hw qw z ++ (pV Y hp qp ab be al))) 0 [(0, .ref h), (1, .int (jI k))] []
  refine j_iload_n G 1 dX4_best_0 rfl ?_
  refine j_iconst G dX4_best_1 (v := 0) rfl ?_
  refine j_iconst G dX4_best_2 (v := 2) rfl ?_
  refine j_callS (nA := 3) (As := [.int (jI k), .int (jI 0), .int (jI 2)]) (st := []) (wc := []) (wr := (sV Y h hw hb hs hh hp hd ik sn se ++ (wZ Y hw qw z ++ (pV Y hp qp ab be al)))) G (c_X4_isIn l D Y k 0 2 (by first | assumption | omega) (by first | assumption | omega) (by first | assumption | omega)) dX4_best_3 rfl gX4_best_X4_isIn rfl rfl rfl (by decide +kernel) ⟨by decide, by decide⟩ rfl (jLe.rf _) (Nat.le_of_ble_eq_true rfl) ⟨Nat.zero_le _, Nat.zero_le _⟩ (fun v_ w_ hp_ => ?_)
  obtain ⟨rfl, rfl⟩ := hp_
  show J x 0 0 (sV Y h hw hb hs hh hp hd ik sn se ++ (wZ Y hw qw z ++ (pV Y hp qp ab be al))) 6 [(0, .ref h), (1, .int (jI k))] [.int (jI (if 0 ≤ k ∧ k ≤ 2 then 1 else 0))]
  refine j_ifz_ne (tgt := 11) G dX4_best_6 (by decide) (fun c6 => ?_) (fun c6 => ?_)
  · refine j_aload_n G 0 dX4_best_11 rfl ?_
    refine j_get (q := 0) (C := RX4) (T := TX4) (N := 9) (v := .ref hw) G 0 hinX4 dX4_best_12 rfl rfl (by decide) (by decide +kernel) rfl ?_
    refine j_aload_n G 0 dX4_best_15 rfl ?_
    refine j_callV (nA := 0) (As := []) (st := [.ref hw]) (wc := (sV Y h hw hb hs hh hp hd ik sn se ++ (wZ Y hw qw z ++ (pV Y hp qp ab be al)))) (wr := []) G (c_X4_pathsLeft l D Y h hw hb hs hh hp hd ik sn se qw z qp ab be al (by first | assumption | omega)) dX4_best_16 rfl gX4_best_X4_pathsLeft rfl rfl rfl (by decide +kernel) ⟨by decide, by decide⟩ rfl 0 rfl rfl rfl (jLe.nil (jLe.rf _)) (Nat.le_of_ble_eq_true rfl) ⟨Nat.zero_le _, Nat.zero_le _⟩ (fun v_ w_ hp_ => ?_)
    obtain ⟨rfl, rfl⟩ := hp_
    show J x 0 0 (sV Y h hw hb hs hh hp hd ik sn se ++ (wZ Y hw qw z ++ (pT Y hp qp (tZ z)))) 19 [(0, .ref h), (1, .int (jI k))] [.ref hp, .ref hw]
    refine j_iload_n G 1 dX4_best_19 rfl ?_
    refine j_callV (nA := 2) (As := [.ref hp, .int (jI k)]) (st := []) (wc := (wZ Y hw qw z ++ (pT Y hp qp (tZ z)))) (wr := (sV Y h hw hb hs hh hp hd ik sn se)) G (c_X3_bestPlot l D Y hw qw z hp qp (tZ z) k (by first | assumption | omega) (by exact hI.pa) (by first | assumption | omega)) dX4_best_20 rfl gX4_best_X3_bestPlot rfl rfl rfl (by decide +kernel) ⟨by decide, by decide⟩ rfl 0 rfl rfl rfl (jLe.pos [1, 2, 3, 4, 5, 6, 7, 8, 9, 10, 11, 12, 0] rfl rfl) (Nat.le_of_ble_eq_true rfl) ⟨Nat.zero_le _, Nat.zero_le _⟩ (fun v_ w_ hp_ => ?_)
    obtain ⟨rfl, rfl⟩ := hp_
    refine j_conv (ws' := sV Y h hw hb hs hh hp hd ik sn se ++ (wZ Y hw qw z ++ (pT Y hp qp (tZ z)))) (jLe.pos [12, 0, 1, 2, 3, 4, 5, 6, 7, 8, 9, 10, 11] rfl rfl) ?_
    show J x 0 0 (sV Y h hw hb hs hh hp hd ik sn se ++ (wZ Y hw qw z ++ (pT Y hp qp (tZ z)))) 23 [(0, .ref h), (1, .int (jI k))] [.int (jI (zBest z (tZ z) k 64))]
    exact j_reti G dX4_best_23 (by unfold F_best; (repeat' split) <;> first | rfl | omega) (jLe.rf _) (kr0 _ _ ⟨(pAb (tZ z)), (pBe (tZ z)), (pAll (tZ z)), rfl, rfl⟩)
  · refine j_iconst G dX4_best_9 (v := (-1)) rfl ?_
    exact j_reti G dX4_best_10 (by unfold F_best; (repeat' split) <;> first | rfl | omega) (jLe.rf _) (kr0 _ _ ⟨ab, be, al, rfl, rfl⟩)

set_option maxHeartbeats 4000000 in
set_option maxRecDepth 100000 in
theorem c_X4_openRow (l : Launch) (D : va_G) (Y : Nat → ClassId) (h : Nat) (hw : Nat) (hb : Nat) (hs : Nat) (hh : Nat) (hp : Nat) (hd : Nat) (ik : Int) (sn : Int) (se : Int) (qw : Nat → Nat) (z : Int → Int) (qp : Nat → Nat) (ab : Int → Int) (be : Int → Int) (al : Int) (hI : Inv z) : jM l yX4_openRow wsX4_openRow { frames := 3, cells := 0, slots := 0, locals := 66 } D Y [.ref h] (sV Y h hw hb hs hh hp hd ik sn se ++ (wZ Y hw qw z ++ (pV Y hp qp ab be al))) (fun v_ w_ => ∃ (ab2 : Int → Int) (be2 : Int → Int) (al2 : Int), v_ = some (.int (jI (F_open z))) ∧ w_ = (sV Y h hw hb hs hh hp hd ik sn se ++ (wZ Y hw qw z ++ (pV Y hp qp ab2 be2 al2)))) 0 0 := by
  refine jM_of (cc := cX4_openRow) (maxL := 1) (ret := (some .int)) (by decide) rfl (Nat.le_of_ble_eq_true rfl) (fun v w' h => by obtain ⟨_, _, _, h⟩ := h; exact Or.inr (Or.inl ⟨_, _, rfl, h.1, rfl⟩)) ?_
  intro x G kr0
  have G : jG x l D Y cX4_openRow RX4 wsX4_openRow 1 ({ frames := 3, cells := 0, slots := 0, locals := 66 } : Room) (some .int) "openRow" := G
  show J x 0 0 (sV Y h hw hb hs hh hp hd ik sn se ++ (wZ Y hw qw z ++ (pV Y hp qp ab be al))) 0 [(0, .ref h)] []
  refine j_aload_n G 0 dX4_openRow_0 rfl ?_
  refine j_callV (nA := 0) (As := []) (st := []) (wc := (sV Y h hw hb hs hh hp hd ik sn se ++ (wZ Y hw qw z ++ (pV Y hp qp ab be al)))) (wr := []) G (c_X4_pathsLeft l D Y h hw hb hs hh hp hd ik sn se qw z qp ab be al (by first | assumption | omega)) dX4_openRow_1 rfl gX4_openRow_X4_pathsLeft rfl rfl rfl (by decide +kernel) ⟨by decide, by decide⟩ rfl 0 rfl rfl rfl (jLe.nil (jLe.rf _)) (Nat.le_of_ble_eq_true rfl) ⟨Nat.zero_le _, Nat.zero_le _⟩ (fun v_ w_ hp_ => ?_)
  obtain ⟨rfl, rfl⟩ := hp_
  show J x 0 0 (sV Y h hw hb hs hh hp hd ik sn se ++ (wZ Y hw qw z ++ (pT Y hp qp (tZ z)))) 4 [(0, .ref h)] [.ref hp]
  refine j_callV (nA := 0) (As := []) (st := []) (wc := (pT Y hp qp (tZ z))) (wr := (sV Y h hw hb hs hh hp hd ik sn se ++ (wZ Y hw qw z))) G (c_X2_mostOpenRowT l D Y hp qp (tZ z) ) dX4_openRow_4 rfl gX4_openRow_X2_mostOpenRow rfl rfl rfl (by decide +kernel) ⟨by decide, by decide⟩ rfl 0 rfl rfl rfl (jLe.pos [10, 11, 12, 0, 1, 2, 3, 4, 5, 6, 7, 8, 9] rfl rfl) (Nat.le_of_ble_eq_true rfl) ⟨Nat.zero_le _, Nat.zero_le _⟩ (fun v_ w_ hp_ => ?_)
  obtain ⟨rfl, rfl⟩ := hp_
  refine j_conv (ws' := sV Y h hw hb hs hh hp hd ik sn se ++ (wZ Y hw qw z ++ (pT Y hp qp (tZ z)))) (jLe.pos [3, 4, 5, 6, 7, 8, 9, 10, 11, 12, 0, 1, 2] rfl rfl) ?_
  show J x 0 0 (sV Y h hw hb hs hh hp hd ik sn se ++ (wZ Y hw qw z ++ (pT Y hp qp (tZ z)))) 7 [(0, .ref h)] [.int (jI (if pAll (tZ z) ≤ 1 then -5 else cRow (fun r => cOpen (fun c => pTh (tZ z) (r * 8 + c)) 8) 7))]
  exact j_reti G dX4_openRow_7 (by unfold F_open; (repeat' split) <;> first | rfl | omega) (jLe.rf _) (kr0 _ _ ⟨(pAb (tZ z)), (pBe (tZ z)), (pAll (tZ z)), rfl, rfl⟩)

set_option maxHeartbeats 4000000 in
set_option maxRecDepth 100000 in
theorem c_X4_ifTold (l : Launch) (D : va_G) (Y : Nat → ClassId) (h : Nat) (hw : Nat) (hb : Nat) (hs : Nat) (hh : Nat) (hp : Nat) (hd : Nat) (ik : Int) (sn : Int) (se : Int) (qw : Nat → Nat) (z : Int → Int) (qp : Nat → Nat) (ab : Int → Int) (be : Int → Int) (al : Int) (r : Int) (c : Int) (hI : Inv z) (h_r : -2147483648 ≤ r ∧ r < 2147483648) (h_c : -2147483648 ≤ c ∧ c < 2147483648) : jM l yX4_ifTold wsX4_ifTold { frames := 3, cells := 0, slots := 0, locals := 64 } D Y [.ref h, .int (jI r), .int (jI c)] (sV Y h hw hb hs hh hp hd ik sn se ++ (wZ Y hw qw z ++ (pV Y hp qp ab be al))) (fun v_ w_ => ∃ (ab2 : Int → Int) (be2 : Int → Int) (al2 : Int), v_ = some (.int (jI (F_told z r c))) ∧ w_ = (sV Y h hw hb hs hh hp hd ik sn se ++ (wZ Y hw qw z ++ (pV Y hp qp ab2 be2 al2)))) 0 0 := by
  refine jM_of (cc := cX4_ifTold) (maxL := 3) (ret := (some .int)) (by decide) rfl (Nat.le_of_ble_eq_true rfl) (fun v w' h => by obtain ⟨_, _, _, h⟩ := h; exact Or.inr (Or.inl ⟨_, _, rfl, h.1, rfl⟩)) ?_
  intro x G kr0
  have G : jG x l D Y cX4_ifTold RX4 wsX4_ifTold 3 ({ frames := 3, cells := 0, slots := 0, locals := 64 } : Room) (some .int) "ifTold" := G
  show J x 0 0 (sV Y h hw hb hs hh hp hd ik sn se ++ (wZ Y hw qw z ++ (pV Y hp qp ab be al))) 0 [(0, .ref h), (1, .int (jI r)), (2, .int (jI c))] []
  refine j_iload_n G 1 dX4_ifTold_0 rfl ?_
  refine j_iconst G dX4_ifTold_1 (v := 0) rfl ?_
  refine j_bipush G dX4_ifTold_2 (v := 7) rfl ?_
  refine j_callS (nA := 3) (As := [.int (jI r), .int (jI 0), .int (jI 7)]) (st := []) (wc := []) (wr := (sV Y h hw hb hs hh hp hd ik sn se ++ (wZ Y hw qw z ++ (pV Y hp qp ab be al)))) G (c_X4_isIn l D Y r 0 7 (by first | assumption | omega) (by first | assumption | omega) (by first | assumption | omega)) dX4_ifTold_4 rfl gX4_ifTold_X4_isIn rfl rfl rfl (by decide +kernel) ⟨by decide, by decide⟩ rfl (jLe.rf _) (Nat.le_of_ble_eq_true rfl) ⟨Nat.zero_le _, Nat.zero_le _⟩ (fun v_ w_ hp_ => ?_)
  obtain ⟨rfl, rfl⟩ := hp_
  show J x 0 0 (sV Y h hw hb hs hh hp hd ik sn se ++ (wZ Y hw qw z ++ (pV Y hp qp ab be al))) 7 [(0, .ref h), (1, .int (jI r)), (2, .int (jI c))] [.int (jI (if 0 ≤ r ∧ r ≤ 7 then 1 else 0))]
  refine j_ifz_ne (tgt := 12) G dX4_ifTold_7 (by decide) (fun c7 => ?_) (fun c7 => ?_)
  · refine j_iload_n G 2 dX4_ifTold_12 rfl ?_
    refine j_iconst G dX4_ifTold_13 (v := 0) rfl ?_
    refine j_bipush G dX4_ifTold_14 (v := 7) rfl ?_
    refine j_callS (nA := 3) (As := [.int (jI c), .int (jI 0), .int (jI 7)]) (st := []) (wc := []) (wr := (sV Y h hw hb hs hh hp hd ik sn se ++ (wZ Y hw qw z ++ (pV Y hp qp ab be al)))) G (c_X4_isIn l D Y c 0 7 (by first | assumption | omega) (by first | assumption | omega) (by first | assumption | omega)) dX4_ifTold_16 rfl gX4_ifTold_X4_isIn rfl rfl rfl (by decide +kernel) ⟨by decide, by decide⟩ rfl (jLe.rf _) (Nat.le_of_ble_eq_true rfl) ⟨Nat.zero_le _, Nat.zero_le _⟩ (fun v_ w_ hp_ => ?_)
    obtain ⟨rfl, rfl⟩ := hp_
    show J x 0 0 (sV Y h hw hb hs hh hp hd ik sn se ++ (wZ Y hw qw z ++ (pV Y hp qp ab be al))) 19 [(0, .ref h), (1, .int (jI r)), (2, .int (jI c))] [.int (jI (if 0 ≤ c ∧ c ≤ 7 then 1 else 0))]
    refine j_ifz_ne (tgt := 25) G dX4_ifTold_19 (by decide) (fun c19 => ?_) (fun c19 => ?_)
    · refine j_aload_n G 0 dX4_ifTold_25 rfl ?_
      refine j_callV (nA := 0) (As := []) (st := []) (wc := (sV Y h hw hb hs hh hp hd ik sn se ++ (wZ Y hw qw z ++ (pV Y hp qp ab be al)))) (wr := []) G (c_X4_pathsLeft l D Y h hw hb hs hh hp hd ik sn se qw z qp ab be al (by first | assumption | omega)) dX4_ifTold_26 rfl gX4_ifTold_X4_pathsLeft rfl rfl rfl (by decide +kernel) ⟨by decide, by decide⟩ rfl 0 rfl rfl rfl (jLe.nil (jLe.rf _)) (Nat.le_of_ble_eq_true rfl) ⟨Nat.zero_le _, Nat.zero_le _⟩ (fun v_ w_ hp_ => ?_)
      obtain ⟨rfl, rfl⟩ := hp_
      show J x 0 0 (sV Y h hw hb hs hh hp hd ik sn se ++ (wZ Y hw qw z ++ (pT Y hp qp (tZ z)))) 29 [(0, .ref h), (1, .int (jI r)), (2, .int (jI c))] [.ref hp]
      refine j_iload_n G 1 dX4_ifTold_29 rfl ?_
      refine j_bipush G dX4_ifTold_30 (v := 8) rfl ?_
      refine j_imul G dX4_ifTold_32 ?_
      refine j_iload_n G 2 dX4_ifTold_33 rfl ?_
      refine j_iadd G dX4_ifTold_34 ?_
      refine j_callV (nA := 1) (As := [.int (jI ((r * 8) + c))]) (st := []) (wc := (pT Y hp qp (tZ z))) (wr := (sV Y h hw hb hs hh hp hd ik sn se ++ (wZ Y hw qw z))) G (c_X2_throughT l D Y hp qp (tZ z) ((r * 8) + c) (by first | assumption | omega)) dX4_ifTold_35 rfl gX4_ifTold_X2_through rfl rfl rfl (by decide +kernel) ⟨by decide, by decide⟩ rfl 0 rfl rfl rfl (jLe.pos [10, 11, 12, 0, 1, 2, 3, 4, 5, 6, 7, 8, 9] rfl rfl) (Nat.le_of_ble_eq_true rfl) ⟨Nat.zero_le _, Nat.zero_le _⟩ (fun v_ w_ hp_ => ?_)
      obtain ⟨rfl, rfl⟩ := hp_
      refine j_conv (ws' := sV Y h hw hb hs hh hp hd ik sn se ++ (wZ Y hw qw z ++ (pT Y hp qp (tZ z)))) (jLe.pos [3, 4, 5, 6, 7, 8, 9, 10, 11, 12, 0, 1, 2] rfl rfl) ?_
      show J x 0 0 (sV Y h hw hb hs hh hp hd ik sn se ++ (wZ Y hw qw z ++ (pT Y hp qp (tZ z)))) 38 [(0, .ref h), (1, .int (jI r)), (2, .int (jI c))] [.int (jI (pTh (tZ z) ((r * 8) + c)))]
      exact j_reti G dX4_ifTold_38 (by unfold F_told; (repeat' split) <;> first | rfl | omega) (jLe.rf _) (kr0 _ _ ⟨(pAb (tZ z)), (pBe (tZ z)), (pAll (tZ z)), rfl, rfl⟩)
    · refine j_bipush G dX4_ifTold_22 (v := (-2)) rfl ?_
      exact j_reti G dX4_ifTold_24 (by unfold F_told; (repeat' split) <;> first | rfl | omega) (jLe.rf _) (kr0 _ _ ⟨ab, be, al, rfl, rfl⟩)
  · refine j_iconst G dX4_ifTold_10 (v := (-1)) rfl ?_
    exact j_reti G dX4_ifTold_11 (by unfold F_told; (repeat' split) <;> first | rfl | omega) (jLe.rf _) (kr0 _ _ ⟨ab, be, al, rfl, rfl⟩)
