theorem c_X3_copyFromZ (l : Launch) (D : va_G) (Y : Nat → ClassId) (h : Nat) (q : Nat → Nat) (z1 : Int → Int) (h2 : Nat) (q2 : Nat → Nat) (z2 : Int → Int) (hf2 : ∀ j : Int, 0 ≤ j → j < 64 → z2 (156 + j) = 0 ∨ z2 (156 + j) = 1) : jM l yX3_copyFrom wsX3_copyFrom { frames := 1, cells := 0, slots := 0, locals := 18 } D Y [.ref h, .ref h2] (wZ Y h q z1 ++ (wZ Y h2 q2 z2)) (fun v_ w_ => v_ = none ∧ w_ = (wZ Y h q z2 ++ (wZ Y h2 q2 z2))) 0 0 := c_X3_copyFrom l D Y h q (fun j => z1 (28 + j)) (fun j => z1 (156 + j)) (z1 92) (fun j => z1 (15 + 4 * j)) (fun j => z1 (16 + 4 * j)) (fun j => z1 (17 + 4 * j)) (fun j => z1 (18 + 4 * j)) (fun j => z1 (7 + j)) (fun j => z1 j) (z1 3) (z1 4) (z1 5) (z1 6) h2 q2 (fun j => z2 (28 + j)) (fun j => z2 (156 + j)) (z2 92) (fun j => z2 (15 + 4 * j)) (fun j => z2 (16 + 4 * j)) (fun j => z2 (17 + 4 * j)) (fun j => z2 (18 + 4 * j)) (fun j => z2 (7 + j)) (fun j => z2 j) (z2 3) (z2 4) (z2 5) (z2 6) hf2

set_option maxHeartbeats 4000000 in
set_option maxRecDepth 100000 in
theorem c_X1_dropOldest (l : Launch) (D : va_G) (Y : Nat → ClassId) (h : Nat) (q : Nat) (sz : Int) (a0 : Nat) (b0 : Nat → Nat) (s0 : Int → Int) (a1 : Nat) (b1 : Nat → Nat) (s1 : Int → Int) (a2 : Nat) (b2 : Nat → Nat) (s2 : Int → Int) (a3 : Nat) (b3 : Nat → Nat) (s3 : Int → Int)  : jM l yX1_dropOldest wsX1_dropOldest { frames := 0, cells := 0, slots := 0, locals := 0 } D Y [.ref h] (gV Y h q sz (r4 a0 a1 a2 a3) ++ (wZ Y a0 b0 s0 ++ (wZ Y a1 b1 s1 ++ (wZ Y a2 b2 s2 ++ (wZ Y a3 b3 s3))))) (fun v_ w_ => v_ = none ∧ w_ = (gV Y h q 3 (r4 a1 a2 a3 a0) ++ (wZ Y a0 b0 s0 ++ (wZ Y a1 b1 s1 ++ (wZ Y a2 b2 s2 ++ (wZ Y a3 b3 s3)))))) 0 0 := by
  refine jM_of (cc := cX1_dropOldest) (maxL := 3) (ret := none) (by decide) rfl (Nat.le_of_ble_eq_true rfl) (fun v w' h => Or.inl ⟨rfl, h.1⟩) ?_
  intro x G kr0
  have kr := kr0 _ _ ⟨rfl, rfl⟩
  have G : jG x l D Y cX1_dropOldest RX1 wsX1_dropOldest 3 ({ frames := 0, cells := 0, slots := 0, locals := 0 } : Room) none "dropOldest" := G
  have hinX1 : ∀ w ∈ wsX10, w ∈ wsX1_dropOldest := fun _ h => List.mem_cons_of_mem _ (List.mem_append_right _ h)
  show J x 0 0 (gV Y h q sz (r4 a0 a1 a2 a3) ++ (wZ Y a0 b0 s0 ++ (wZ Y a1 b1 s1 ++ (wZ Y a2 b2 s2 ++ (wZ Y a3 b3 s3))))) 0 [(0, .ref h)] []
  refine j_aload_n G 0 dX1_dropOldest_0 rfl ?_
  refine j_get (q := 0) (C := RX1) (T := TX1) (N := 2) (v := .ref q) G 0 hinX1 dX1_dropOldest_1 rfl rfl (by decide) (by decide +kernel) rfl ?_
  refine j_iconst G dX1_dropOldest_4 (v := 0) rfl ?_
  refine j_aald (r := a0) G 1 dX1_dropOldest_5 rfl (by omega) rfl ?_
  refine j_astore_n (lv' := [(1, .ref a0), (0, .ref h)]) G dX1_dropOldest_6 (by decide) rfl ?_
  refine j_iconst G dX1_dropOldest_7 (v := 1) rfl ?_
  refine j_istore_n (lv' := [(2, .int (jI 1)), (1, .ref a0), (0, .ref h)]) G dX1_dropOldest_8 (by decide) rfl ?_
  refine j_iload_n G 0 dX1_dropOldest_9 rfl ?_
  refine j_iconst G dX1_dropOldest_10 (v := 4) rfl ?_
  refine j_icmp_ge (tgt := 34) G dX1_dropOldest_11 (by decide) (by omega) (by omega) (fun c11 => absurd c11 (by omega)) (fun c11 => ?_)
  refine j_aload_n G 2 dX1_dropOldest_14 rfl ?_
  refine j_get (q := 0) (C := RX1) (T := TX1) (N := 2) (v := .ref q) G 0 hinX1 dX1_dropOldest_15 rfl rfl (by decide) (by decide +kernel) rfl ?_
  refine j_iload_n G 0 dX1_dropOldest_18 rfl ?_
  refine j_iconst G dX1_dropOldest_19 (v := 1) rfl ?_
  refine j_isub G dX1_dropOldest_20 ?_
  refine j_aload_n G 2 dX1_dropOldest_21 rfl ?_
  refine j_get (q := 0) (C := RX1) (T := TX1) (N := 2) (v := .ref q) G 0 hinX1 dX1_dropOldest_22 rfl rfl (by decide) (by decide +kernel) rfl ?_
  refine j_iload_n G 0 dX1_dropOldest_25 rfl ?_
  refine j_aald (r := a1) G 1 dX1_dropOldest_26 rfl (by omega) rfl ?_
  refine j_aast4 (g := r4 a1 a1 a2 a3) (ws' := gV Y h q sz (r4 a1 a1 a2 a3) ++ (wZ Y a0 b0 s0 ++ (wZ Y a1 b1 s1 ++ (wZ Y a2 b2 s2 ++ (wZ Y a3 b3 s3))))) G 1 11 dX1_dropOldest_27 rfl rfl (by omega) (by intro j hj; rcases (show j = 0 ∨ j = 1 ∨ j = 2 ∨ j = 3 by omega) with e | e | e | e <;> subst e <;> rfl) rfl ?_
  refine j_iinc (w := 2) (lv' := [(2, .int (jI 2)), (1, .ref a0), (0, .ref h)]) G 0 dX1_dropOldest_28 rfl rfl (by decide) rfl ?_
  refine j_goto (tgt := 9) G dX1_dropOldest_31 (by decide) ?_
  refine j_iload_n G 0 dX1_dropOldest_9 rfl ?_
  refine j_iconst G dX1_dropOldest_10 (v := 4) rfl ?_
  refine j_icmp_ge (tgt := 34) G dX1_dropOldest_11 (by decide) (by omega) (by omega) (fun c11 => absurd c11 (by omega)) (fun c11 => ?_)
  refine j_aload_n G 2 dX1_dropOldest_14 rfl ?_
  refine j_get (q := 0) (C := RX1) (T := TX1) (N := 2) (v := .ref q) G 0 hinX1 dX1_dropOldest_15 rfl rfl (by decide) (by decide +kernel) rfl ?_
  refine j_iload_n G 0 dX1_dropOldest_18 rfl ?_
  refine j_iconst G dX1_dropOldest_19 (v := 1) rfl ?_
  refine j_isub G dX1_dropOldest_20 ?_
  refine j_aload_n G 2 dX1_dropOldest_21 rfl ?_
  refine j_get (q := 0) (C := RX1) (T := TX1) (N := 2) (v := .ref q) G 0 hinX1 dX1_dropOldest_22 rfl rfl (by decide) (by decide +kernel) rfl ?_
  refine j_iload_n G 0 dX1_dropOldest_25 rfl ?_
  refine j_aald (r := a2) G 1 dX1_dropOldest_26 rfl (by omega) rfl ?_
  refine j_aast4 (g := r4 a1 a2 a2 a3) (ws' := gV Y h q sz (r4 a1 a2 a2 a3) ++ (wZ Y a0 b0 s0 ++ (wZ Y a1 b1 s1 ++ (wZ Y a2 b2 s2 ++ (wZ Y a3 b3 s3))))) G 1 20 dX1_dropOldest_27 rfl rfl (by omega) (by intro j hj; rcases (show j = 0 ∨ j = 1 ∨ j = 2 ∨ j = 3 by omega) with e | e | e | e <;> subst e <;> rfl) rfl ?_
  refine j_iinc (w := 3) (lv' := [(2, .int (jI 3)), (1, .ref a0), (0, .ref h)]) G 0 dX1_dropOldest_28 rfl rfl (by decide) rfl ?_
  refine j_goto (tgt := 9) G dX1_dropOldest_31 (by decide) ?_
  refine j_iload_n G 0 dX1_dropOldest_9 rfl ?_
  refine j_iconst G dX1_dropOldest_10 (v := 4) rfl ?_
  refine j_icmp_ge (tgt := 34) G dX1_dropOldest_11 (by decide) (by omega) (by omega) (fun c11 => absurd c11 (by omega)) (fun c11 => ?_)
  refine j_aload_n G 2 dX1_dropOldest_14 rfl ?_
  refine j_get (q := 0) (C := RX1) (T := TX1) (N := 2) (v := .ref q) G 0 hinX1 dX1_dropOldest_15 rfl rfl (by decide) (by decide +kernel) rfl ?_
  refine j_iload_n G 0 dX1_dropOldest_18 rfl ?_
  refine j_iconst G dX1_dropOldest_19 (v := 1) rfl ?_
  refine j_isub G dX1_dropOldest_20 ?_
  refine j_aload_n G 2 dX1_dropOldest_21 rfl ?_
  refine j_get (q := 0) (C := RX1) (T := TX1) (N := 2) (v := .ref q) G 0 hinX1 dX1_dropOldest_22 rfl rfl (by decide) (by decide +kernel) rfl ?_
  refine j_iload_n G 0 dX1_dropOldest_25 rfl ?_
  refine j_aald (r := a3) G 1 dX1_dropOldest_26 rfl (by omega) rfl ?_
  refine j_aast4 (g := r4 a1 a2 a3 a3) (ws' := gV Y h q sz (r4 a1 a2 a3 a3) ++ (wZ Y a0 b0 s0 ++ (wZ Y a1 b1 s1 ++ (wZ Y a2 b2 s2 ++ (wZ Y a3 b3 s3))))) G 1 29 dX1_dropOldest_27 rfl rfl (by omega) (by intro j hj; rcases (show j = 0 ∨ j = 1 ∨ j = 2 ∨ j = 3 by omega) with e | e | e | e <;> subst e <;> rfl) rfl ?_
  refine j_iinc (w := 4) (lv' := [(2, .int (jI 4)), (1, .ref a0), (0, .ref h)]) G 0 dX1_dropOldest_28 rfl rfl (by decide) rfl ?_
  refine j_goto (tgt := 9) G dX1_dropOldest_31 (by decide) ?_
  refine j_iload_n G 0 dX1_dropOldest_9 rfl ?_
  refine j_iconst G dX1_dropOldest_10 (v := 4) rfl ?_
  refine j_icmp_ge (tgt := 34) G dX1_dropOldest_11 (by decide) (by omega) (by omega) (fun c11 => ?_) (fun c11 => absurd c11 (by omega))
  refine j_aload_n G 2 dX1_dropOldest_34 rfl ?_
  refine j_get (q := 0) (C := RX1) (T := TX1) (N := 2) (v := .ref q) G 0 hinX1 dX1_dropOldest_35 rfl rfl (by decide) (by decide +kernel) rfl ?_
  refine j_iconst G dX1_dropOldest_38 (v := 3) rfl ?_
  refine j_aload_n G 1 dX1_dropOldest_39 rfl ?_
  refine j_aast4 (g := r4 a1 a2 a3 a0) (ws' := gV Y h q sz (r4 a1 a2 a3 a0) ++ (wZ Y a0 b0 s0 ++ (wZ Y a1 b1 s1 ++ (wZ Y a2 b2 s2 ++ (wZ Y a3 b3 s3))))) G 1 2 dX1_dropOldest_40 rfl rfl (by omega) (by intro j hj; rcases (show j = 0 ∨ j = 1 ∨ j = 2 ∨ j = 3 by omega) with e | e | e | e <;> subst e <;> rfl) rfl ?_
  refine j_aload_n G 2 dX1_dropOldest_41 rfl ?_
  refine j_iconst G dX1_dropOldest_42 (v := 3) rfl ?_
  refine j_put (q := 1) (C := RX1) (T := TX1) (N := 2) (ws' := gV Y h q 3 (r4 a1 a2 a3 a0) ++ (wZ Y a0 b0 s0 ++ (wZ Y a1 b1 s1 ++ (wZ Y a2 b2 s2 ++ (wZ Y a3 b3 s3))))) G 0 hinX1 tyX1 tyX1_ok nmX1 dX1_dropOldest_43 rfl rfl (by decide) (by decide +kernel) rfl rfl rfl rfl (Nat.le_of_ble_eq_true rfl) rfl ?_
  exact j_retv G dX1_dropOldest_46 (jLe.rf _) kr

set_option maxHeartbeats 4000000 in
set_option maxRecDepth 100000 in
theorem c_X1_push (l : Launch) (D : va_G) (Y : Nat → ClassId) (h : Nat) (q : Nat) (sz : Int) (h2 : Nat) (q2 : Nat → Nat) (z : Int → Int) (A : Nat → Nat) (Q : Nat → Nat → Nat) (S : Nat → Int → Int) (hsz : 0 ≤ sz ∧ sz ≤ 4) (hf2 : ∀ j : Int, 0 ≤ j → j < 64 → z (156 + j) = 0 ∨ z (156 + j) = 1) : jM l yX1_push wsX1_push { frames := 2, cells := 0, slots := 0, locals := 39 } D Y [.ref h, .ref h2] (gV Y h q sz (r4 (A 0) (A 1) (A 2) (A 3)) ++ (wZ Y (A 0) (Q 0) (S 0) ++ (wZ Y (A 1) (Q 1) (S 1) ++ (wZ Y (A 2) (Q 2) (S 2) ++ (wZ Y (A 3) (Q 3) (S 3) ++ (wZ Y h2 q2 z)))))) (fun v_ w_ => ∃ (A2 : Nat → Nat) (Q2 : Nat → Nat → Nat), v_ = none ∧ w_ = (gV Y h q (hUp sz) (r4 (A2 0) (A2 1) (A2 2) (A2 3)) ++ (wZ Y (A2 0) (Q2 0) (hPush sz S z 0) ++ (wZ Y (A2 1) (Q2 1) (hPush sz S z 1) ++ (wZ Y (A2 2) (Q2 2) (hPush sz S z 2) ++ (wZ Y (A2 3) (Q2 3) (hPush sz S z 3) ++ (wZ Y h2 q2 z))))))) 0 0 := by
  refine jM_of (cc := cX1_push) (maxL := 2) (ret := none) (by decide) rfl (Nat.le_of_ble_eq_true rfl) (fun v w' h => by obtain ⟨_, _, h⟩ := h; exact Or.inl ⟨rfl, h.1⟩) ?_
  intro x G kr0
  have G : jG x l D Y cX1_push RX1 wsX1_push 2 ({ frames := 2, cells := 0, slots := 0, locals := 39 } : Room) none "push" := G
  have hinX1 : ∀ w ∈ wsX10, w ∈ wsX1_push := fun _ h => List.mem_cons_of_mem _ (List.mem_append_left _ (List.mem_append_right _ h))
  show J x 0 0 (gV Y h q sz (r4 (A 0) (A 1) (A 2) (A 3)) ++ (wZ Y (A 0) (Q 0) (S 0) ++ (wZ Y (A 1) (Q 1) (S 1) ++ (wZ Y (A 2) (Q 2) (S 2) ++ (wZ Y (A 3) (Q 3) (S 3) ++ (wZ Y h2 q2 z)))))) 0 [(0, .ref h), (1, .ref h2)] []
  rcases (show sz = 0 ∨ sz = 1 ∨ sz = 2 ∨ sz = 3 ∨ sz = 4 by omega) with sp_1 | sp_1 | sp_1 | sp_1 | sp_1
  · subst sp_1
    refine j_aload_n G 0 dX1_push_0 rfl ?_
    refine j_get (q := 1) (C := RX1) (T := TX1) (N := 2) (v := .int (jI 0)) G 0 hinX1 dX1_push_1 rfl rfl (by decide) (by decide +kernel) rfl ?_
    refine j_iconst G dX1_push_4 (v := 4) rfl ?_
    refine j_icmp_lt (tgt := 12) G dX1_push_5 (by decide) (by omega) (by omega) (fun c5 => ?_) (fun c5 => absurd c5 (by omega))
    refine j_aload_n G 0 dX1_push_12 rfl ?_
    refine j_get (q := 0) (C := RX1) (T := TX1) (N := 2) (v := .ref q) G 0 hinX1 dX1_push_13 rfl rfl (by decide) (by decide +kernel) rfl ?_
    refine j_aload_n G 0 dX1_push_16 rfl ?_
    refine j_get (q := 1) (C := RX1) (T := TX1) (N := 2) (v := .int (jI 0)) G 0 hinX1 dX1_push_17 rfl rfl (by decide) (by decide +kernel) rfl ?_
    refine j_aald (r := (A 0)) G 1 dX1_push_20 rfl (by omega) rfl ?_
    refine j_aload_n G 1 dX1_push_21 rfl ?_
    refine j_callV (nA := 1) (As := [.ref h2]) (st := []) (wc := (wZ Y (A 0) (Q 0) (S 0) ++ (wZ Y h2 q2 z))) (wr := (gV Y h q 0 (r4 (A 0) (A 1) (A 2) (A 3)) ++ (wZ Y (A 1) (Q 1) (S 1) ++ (wZ Y (A 2) (Q 2) (S 2) ++ (wZ Y (A 3) (Q 3) (S 3)))))) G (c_X3_copyFromZ l D Y (A 0) (Q 0) (S 0) h2 q2 z (by first | assumption | exact hI.fe)) dX1_push_22 rfl gX1_push_X3_copyFrom rfl rfl rfl (by decide +kernel) ⟨by decide, by decide⟩ rfl 0 rfl rfl rfl (jLe.pos [2, 3, 4, 5, 6, 7, 8, 9, 10, 38, 39, 40, 41, 42, 43, 44, 45, 46, 0, 1, 11, 12, 13, 14, 15, 16, 17, 18, 19, 20, 21, 22, 23, 24, 25, 26, 27, 28, 29, 30, 31, 32, 33, 34, 35, 36, 37] rfl rfl) (Nat.le_of_ble_eq_true rfl) ⟨Nat.zero_le _, Nat.zero_le _⟩ (fun v_ w_ hp_ => ?_)
    obtain ⟨rfl, rfl⟩ := hp_
    refine j_conv (ws' := gV Y h q 0 (r4 (A 0) (A 1) (A 2) (A 3)) ++ (wZ Y (A 0) (Q 0) z ++ (wZ Y (A 1) (Q 1) (S 1) ++ (wZ Y (A 2) (Q 2) (S 2) ++ (wZ Y (A 3) (Q 3) (S 3) ++ (wZ Y h2 q2 z)))))) (jLe.pos [18, 19, 0, 1, 2, 3, 4, 5, 6, 7, 8, 20, 21, 22, 23, 24, 25, 26, 27, 28, 29, 30, 31, 32, 33, 34, 35, 36, 37, 38, 39, 40, 41, 42, 43, 44, 45, 46, 9, 10, 11, 12, 13, 14, 15, 16, 17] rfl rfl) ?_
    show J x 0 0 (gV Y h q 0 (r4 (A 0) (A 1) (A 2) (A 3)) ++ (wZ Y (A 0) (Q 0) z ++ (wZ Y (A 1) (Q 1) (S 1) ++ (wZ Y (A 2) (Q 2) (S 2) ++ (wZ Y (A 3) (Q 3) (S 3) ++ (wZ Y h2 q2 z)))))) 25 [(0, .ref h), (1, .ref h2)] []
    refine j_aload_n G 0 dX1_push_25 rfl ?_
    refine j_dup G dX1_push_26 rfl ?_
    refine j_get (q := 1) (C := RX1) (T := TX1) (N := 2) (v := .int (jI 0)) G 0 hinX1 dX1_push_27 rfl rfl (by decide) (by decide +kernel) rfl ?_
    refine j_iconst G dX1_push_30 (v := 1) rfl ?_
    refine j_iadd G dX1_push_31 ?_
    refine j_put (q := 1) (C := RX1) (T := TX1) (N := 2) (ws' := gV Y h q (0 + 1) (r4 (A 0) (A 1) (A 2) (A 3)) ++ (wZ Y (A 0) (Q 0) z ++ (wZ Y (A 1) (Q 1) (S 1) ++ (wZ Y (A 2) (Q 2) (S 2) ++ (wZ Y (A 3) (Q 3) (S 3) ++ (wZ Y h2 q2 z)))))) G 0 hinX1 tyX1 tyX1_ok nmX1 dX1_push_32 rfl rfl (by decide) (by decide +kernel) rfl rfl rfl rfl (Nat.le_of_ble_eq_true rfl) rfl ?_
    first | exact j_retv G dX1_push_35 (jLe.rf _) (kr0 _ _ ⟨A, Q, rfl, rfl⟩) | exact j_retv G dX1_push_35 (by exact jLe.pos [0, 1, 11, 12, 13, 14, 15, 16, 17, 18, 19, 20, 21, 22, 23, 24, 25, 26, 27, 28, 29, 30, 31, 32, 33, 34, 35, 36, 37, 2, 3, 4, 5, 6, 7, 8, 9, 10, 38, 39, 40, 41, 42, 43, 44, 45, 46] rfl rfl) (kr0 _ _ ⟨fun j => A ((j + 1) % 4), fun j => Q ((j + 1) % 4), rfl, rfl⟩)
  · subst sp_1
    refine j_aload_n G 0 dX1_push_0 rfl ?_
    refine j_get (q := 1) (C := RX1) (T := TX1) (N := 2) (v := .int (jI 1)) G 0 hinX1 dX1_push_1 rfl rfl (by decide) (by decide +kernel) rfl ?_
    refine j_iconst G dX1_push_4 (v := 4) rfl ?_
    refine j_icmp_lt (tgt := 12) G dX1_push_5 (by decide) (by omega) (by omega) (fun c5 => ?_) (fun c5 => absurd c5 (by omega))
    refine j_aload_n G 0 dX1_push_12 rfl ?_
    refine j_get (q := 0) (C := RX1) (T := TX1) (N := 2) (v := .ref q) G 0 hinX1 dX1_push_13 rfl rfl (by decide) (by decide +kernel) rfl ?_
    refine j_aload_n G 0 dX1_push_16 rfl ?_
    refine j_get (q := 1) (C := RX1) (T := TX1) (N := 2) (v := .int (jI 1)) G 0 hinX1 dX1_push_17 rfl rfl (by decide) (by decide +kernel) rfl ?_
    refine j_aald (r := (A 1)) G 1 dX1_push_20 rfl (by omega) rfl ?_
    refine j_aload_n G 1 dX1_push_21 rfl ?_
    refine j_callV (nA := 1) (As := [.ref h2]) (st := []) (wc := (wZ Y (A 1) (Q 1) (S 1) ++ (wZ Y h2 q2 z))) (wr := (gV Y h q 1 (r4 (A 0) (A 1) (A 2) (A 3)) ++ (wZ Y (A 0) (Q 0) (S 0) ++ (wZ Y (A 2) (Q 2) (S 2) ++ (wZ Y (A 3) (Q 3) (S 3)))))) G (c_X3_copyFromZ l D Y (A 1) (Q 1) (S 1) h2 q2 z (by first | assumption | exact hI.fe)) dX1_push_22 rfl gX1_push_X3_copyFrom rfl rfl rfl (by decide +kernel) ⟨by decide, by decide⟩ rfl 0 rfl rfl rfl (jLe.pos [11, 12, 13, 14, 15, 16, 17, 18, 19, 38, 39, 40, 41, 42, 43, 44, 45, 46, 0, 1, 2, 3, 4, 5, 6, 7, 8, 9, 10, 20, 21, 22, 23, 24, 25, 26, 27, 28, 29, 30, 31, 32, 33, 34, 35, 36, 37] rfl rfl) (Nat.le_of_ble_eq_true rfl) ⟨Nat.zero_le _, Nat.zero_le _⟩ (fun v_ w_ hp_ => ?_)
    obtain ⟨rfl, rfl⟩ := hp_
    refine j_conv (ws' := gV Y h q 1 (r4 (A 0) (A 1) (A 2) (A 3)) ++ (wZ Y (A 0) (Q 0) (S 0) ++ (wZ Y (A 1) (Q 1) z ++ (wZ Y (A 2) (Q 2) (S 2) ++ (wZ Y (A 3) (Q 3) (S 3) ++ (wZ Y h2 q2 z)))))) (jLe.pos [18, 19, 20, 21, 22, 23, 24, 25, 26, 27, 28, 0, 1, 2, 3, 4, 5, 6, 7, 8, 29, 30, 31, 32, 33, 34, 35, 36, 37, 38, 39, 40, 41, 42, 43, 44, 45, 46, 9, 10, 11, 12, 13, 14, 15, 16, 17] rfl rfl) ?_
    show J x 0 0 (gV Y h q 1 (r4 (A 0) (A 1) (A 2) (A 3)) ++ (wZ Y (A 0) (Q 0) (S 0) ++ (wZ Y (A 1) (Q 1) z ++ (wZ Y (A 2) (Q 2) (S 2) ++ (wZ Y (A 3) (Q 3) (S 3) ++ (wZ Y h2 q2 z)))))) 25 [(0, .ref h), (1, .ref h2)] []
    refine j_aload_n G 0 dX1_push_25 rfl ?_
    refine j_dup G dX1_push_26 rfl ?_
    refine j_get (q := 1) (C := RX1) (T := TX1) (N := 2) (v := .int (jI 1)) G 0 hinX1 dX1_push_27 rfl rfl (by decide) (by decide +kernel) rfl ?_
    refine j_iconst G dX1_push_30 (v := 1) rfl ?_
    refine j_iadd G dX1_push_31 ?_
    refine j_put (q := 1) (C := RX1) (T := TX1) (N := 2) (ws' := gV Y h q (1 + 1) (r4 (A 0) (A 1) (A 2) (A 3)) ++ (wZ Y (A 0) (Q 0) (S 0) ++ (wZ Y (A 1) (Q 1) z ++ (wZ Y (A 2) (Q 2) (S 2) ++ (wZ Y (A 3) (Q 3) (S 3) ++ (wZ Y h2 q2 z)))))) G 0 hinX1 tyX1 tyX1_ok nmX1 dX1_push_32 rfl rfl (by decide) (by decide +kernel) rfl rfl rfl rfl (Nat.le_of_ble_eq_true rfl) rfl ?_
    first | exact j_retv G dX1_push_35 (jLe.rf _) (kr0 _ _ ⟨A, Q, rfl, rfl⟩) | exact j_retv G dX1_push_35 (by exact jLe.pos [0, 1, 11, 12, 13, 14, 15, 16, 17, 18, 19, 20, 21, 22, 23, 24, 25, 26, 27, 28, 29, 30, 31, 32, 33, 34, 35, 36, 37, 2, 3, 4, 5, 6, 7, 8, 9, 10, 38, 39, 40, 41, 42, 43, 44, 45, 46] rfl rfl) (kr0 _ _ ⟨fun j => A ((j + 1) % 4), fun j => Q ((j + 1) % 4), rfl, rfl⟩)
  · subst sp_1
    refine j_aload_n G 0 dX1_push_0 rfl ?_
    refine j_get (q := 1) (C := RX1) (T := TX1) (N := 2) (v := .int (jI 2)) G 0 hinX1 dX1_push_1 rfl rfl (by decide) (by decide +kernel) rfl ?_
    refine j_iconst G dX1_push_4 (v := 4) rfl ?_
    refine j_icmp_lt (tgt := 12) G dX1_push_5 (by decide) (by omega) (by omega) (fun c5 => ?_) (fun c5 => absurd c5 (by omega))
    refine j_aload_n G 0 dX1_push_12 rfl ?_
    refine j_get (q := 0) (C := RX1) (T := TX1) (N := 2) (v := .ref q) G 0 hinX1 dX1_push_13 rfl rfl (by decide) (by decide +kernel) rfl ?_
    refine j_aload_n G 0 dX1_push_16 rfl ?_
    refine j_get (q := 1) (C := RX1) (T := TX1) (N := 2) (v := .int (jI 2)) G 0 hinX1 dX1_push_17 rfl rfl (by decide) (by decide +kernel) rfl ?_
    refine j_aald (r := (A 2)) G 1 dX1_push_20 rfl (by omega) rfl ?_
    refine j_aload_n G 1 dX1_push_21 rfl ?_
    refine j_callV (nA := 1) (As := [.ref h2]) (st := []) (wc := (wZ Y (A 2) (Q 2) (S 2) ++ (wZ Y h2 q2 z))) (wr := (gV Y h q 2 (r4 (A 0) (A 1) (A 2) (A 3)) ++ (wZ Y (A 0) (Q 0) (S 0) ++ (wZ Y (A 1) (Q 1) (S 1) ++ (wZ Y (A 3) (Q 3) (S 3)))))) G (c_X3_copyFromZ l D Y (A 2) (Q 2) (S 2) h2 q2 z (by first | assumption | exact hI.fe)) dX1_push_22 rfl gX1_push_X3_copyFrom rfl rfl rfl (by decide +kernel) ⟨by decide, by decide⟩ rfl 0 rfl rfl rfl (jLe.pos [20, 21, 22, 23, 24, 25, 26, 27, 28, 38, 39, 40, 41, 42, 43, 44, 45, 46, 0, 1, 2, 3, 4, 5, 6, 7, 8, 9, 10, 11, 12, 13, 14, 15, 16, 17, 18, 19, 29, 30, 31, 32, 33, 34, 35, 36, 37] rfl rfl) (Nat.le_of_ble_eq_true rfl) ⟨Nat.zero_le _, Nat.zero_le _⟩ (fun v_ w_ hp_ => ?_)
    obtain ⟨rfl, rfl⟩ := hp_
    refine j_conv (ws' := gV Y h q 2 (r4 (A 0) (A 1) (A 2) (A 3)) ++ (wZ Y (A 0) (Q 0) (S 0) ++ (wZ Y (A 1) (Q 1) (S 1) ++ (wZ Y (A 2) (Q 2) z ++ (wZ Y (A 3) (Q 3) (S 3) ++ (wZ Y h2 q2 z)))))) (jLe.pos [18, 19, 20, 21, 22, 23, 24, 25, 26, 27, 28, 29, 30, 31, 32, 33, 34, 35, 36, 37, 0, 1, 2, 3, 4, 5, 6, 7, 8, 38, 39, 40, 41, 42, 43, 44, 45, 46, 9, 10, 11, 12, 13, 14, 15, 16, 17] rfl rfl) ?_
    show J x 0 0 (gV Y h q 2 (r4 (A 0) (A 1) (A 2) (A 3)) ++ (wZ Y (A 0) (Q 0) (S 0) ++ (wZ Y (A 1) (Q 1) (S 1) ++ (wZ Y (A 2) (Q 2) z ++ (wZ Y (A 3) (Q 3) (S 3) ++ (wZ Y h2 q2 z)))))) 25 [(0, .ref h), (1, .ref h2)] []
    refine j_aload_n G 0 dX1_push_25 rfl ?_
    refine j_dup G dX1_push_26 rfl ?_
    refine j_get (q := 1) (C := RX1) (T := TX1) (N := 2) (v := .int (jI 2)) G 0 hinX1 dX1_push_27 rfl rfl (by decide) (by decide +kernel) rfl ?_
    refine j_iconst G dX1_push_30 (v := 1) rfl ?_
    refine j_iadd G dX1_push_31 ?_
    refine j_put (q := 1) (C := RX1) (T := TX1) (N := 2) (ws' := gV Y h q (2 + 1) (r4 (A 0) (A 1) (A 2) (A 3)) ++ (wZ Y (A 0) (Q 0) (S 0) ++ (wZ Y (A 1) (Q 1) (S 1) ++ (wZ Y (A 2) (Q 2) z ++ (wZ Y (A 3) (Q 3) (S 3) ++ (wZ Y h2 q2 z)))))) G 0 hinX1 tyX1 tyX1_ok nmX1 dX1_push_32 rfl rfl (by decide) (by decide +kernel) rfl rfl rfl rfl (Nat.le_of_ble_eq_true rfl) rfl ?_
    first | exact j_retv G dX1_push_35 (jLe.rf _) (kr0 _ _ ⟨A, Q, rfl, rfl⟩) | exact j_retv G dX1_push_35 (by exact jLe.pos [0, 1, 11, 12, 13, 14, 15, 16, 17, 18, 19, 20, 21, 22, 23, 24, 25, 26, 27, 28, 29, 30, 31, 32, 33, 34, 35, 36, 37, 2, 3, 4, 5, 6, 7, 8, 9, 10, 38, 39, 40, 41, 42, 43, 44, 45, 46] rfl rfl) (kr0 _ _ ⟨fun j => A ((j + 1) % 4), fun j => Q ((j + 1) % 4), rfl, rfl⟩)
  · subst sp_1
    refine j_aload_n G 0 dX1_push_0 rfl ?_
    refine j_get (q := 1) (C := RX1) (T := TX1) (N := 2) (v := .int (jI 3)) G 0 hinX1 dX1_push_1 rfl rfl (by decide) (by decide +kernel) rfl ?_
    refine j_iconst G dX1_push_4 (v := 4) rfl ?_
    refine j_icmp_lt (tgt := 12) G dX1_push_5 (by decide) (by omega) (by omega) (fun c5 => ?_) (fun c5 => absurd c5 (by omega))
    refine j_aload_n G 0 dX1_push_12 rfl ?_
    refine j_get (q := 0) (C := RX1) (T := TX1) (N := 2) (v := .ref q) G 0 hinX1 dX1_push_13 rfl rfl (by decide) (by decide +kernel) rfl ?_
    refine j_aload_n G 0 dX1_push_16 rfl ?_
    refine j_get (q := 1) (C := RX1) (T := TX1) (N := 2) (v := .int (jI 3)) G 0 hinX1 dX1_push_17 rfl rfl (by decide) (by decide +kernel) rfl ?_
    refine j_aald (r := (A 3)) G 1 dX1_push_20 rfl (by omega) rfl ?_
    refine j_aload_n G 1 dX1_push_21 rfl ?_
    refine j_callV (nA := 1) (As := [.ref h2]) (st := []) (wc := (wZ Y (A 3) (Q 3) (S 3) ++ (wZ Y h2 q2 z))) (wr := (gV Y h q 3 (r4 (A 0) (A 1) (A 2) (A 3)) ++ (wZ Y (A 0) (Q 0) (S 0) ++ (wZ Y (A 1) (Q 1) (S 1) ++ (wZ Y (A 2) (Q 2) (S 2)))))) G (c_X3_copyFromZ l D Y (A 3) (Q 3) (S 3) h2 q2 z (by first | assumption | exact hI.fe)) dX1_push_22 rfl gX1_push_X3_copyFrom rfl rfl rfl (by decide +kernel) ⟨by decide, by decide⟩ rfl 0 rfl rfl rfl (jLe.pos [29, 30, 31, 32, 33, 34, 35, 36, 37, 38, 39, 40, 41, 42, 43, 44, 45, 46, 0, 1, 2, 3, 4, 5, 6, 7, 8, 9, 10, 11, 12, 13, 14, 15, 16, 17, 18, 19, 20, 21, 22, 23, 24, 25, 26, 27, 28] rfl rfl) (Nat.le_of_ble_eq_true rfl) ⟨Nat.zero_le _, Nat.zero_le _⟩ (fun v_ w_ hp_ => ?_)
    obtain ⟨rfl, rfl⟩ := hp_
    refine j_conv (ws' := gV Y h q 3 (r4 (A 0) (A 1) (A 2) (A 3)) ++ (wZ Y (A 0) (Q 0) (S 0) ++ (wZ Y (A 1) (Q 1) (S 1) ++ (wZ Y (A 2) (Q 2) (S 2) ++ (wZ Y (A 3) (Q 3) z ++ (wZ Y h2 q2 z)))))) (jLe.pos [18, 19, 20, 21, 22, 23, 24, 25, 26, 27, 28, 29, 30, 31, 32, 33, 34, 35, 36, 37, 38, 39, 40, 41, 42, 43, 44, 45, 46, 0, 1, 2, 3, 4, 5, 6, 7, 8, 9, 10, 11, 12, 13, 14, 15, 16, 17] rfl rfl) ?_
    show J x 0 0 (gV Y h q 3 (r4 (A 0) (A 1) (A 2) (A 3)) ++ (wZ Y (A 0) (Q 0) (S 0) ++ (wZ Y (A 1) (Q 1) (S 1) ++ (wZ Y (A 2) (Q 2) (S 2) ++ (wZ Y (A 3) (Q 3) z ++ (wZ Y h2 q2 z)))))) 25 [(0, .ref h), (1, .ref h2)] []
    refine j_aload_n G 0 dX1_push_25 rfl ?_
    refine j_dup G dX1_push_26 rfl ?_
    refine j_get (q := 1) (C := RX1) (T := TX1) (N := 2) (v := .int (jI 3)) G 0 hinX1 dX1_push_27 rfl rfl (by decide) (by decide +kernel) rfl ?_
    refine j_iconst G dX1_push_30 (v := 1) rfl ?_
    refine j_iadd G dX1_push_31 ?_
    refine j_put (q := 1) (C := RX1) (T := TX1) (N := 2) (ws' := gV Y h q (3 + 1) (r4 (A 0) (A 1) (A 2) (A 3)) ++ (wZ Y (A 0) (Q 0) (S 0) ++ (wZ Y (A 1) (Q 1) (S 1) ++ (wZ Y (A 2) (Q 2) (S 2) ++ (wZ Y (A 3) (Q 3) z ++ (wZ Y h2 q2 z)))))) G 0 hinX1 tyX1 tyX1_ok nmX1 dX1_push_32 rfl rfl (by decide) (by decide +kernel) rfl rfl rfl rfl (Nat.le_of_ble_eq_true rfl) rfl ?_
    first | exact j_retv G dX1_push_35 (jLe.rf _) (kr0 _ _ ⟨A, Q, rfl, rfl⟩) | exact j_retv G dX1_push_35 (by exact jLe.pos [0, 1, 11, 12, 13, 14, 15, 16, 17, 18, 19, 20, 21, 22, 23, 24, 25, 26, 27, 28, 29, 30, 31, 32, 33, 34, 35, 36, 37, 2, 3, 4, 5, 6, 7, 8, 9, 10, 38, 39, 40, 41, 42, 43, 44, 45, 46] rfl rfl) (kr0 _ _ ⟨fun j => A ((j + 1) % 4), fun j => Q ((j + 1) % 4), rfl, rfl⟩)
  · subst sp_1
    refine j_aload_n G 0 dX1_push_0 rfl ?_
    refine j_get (q := 1) (C := RX1) (T := TX1) (N := 2) (v := .int (jI 4)) G 0 hinX1 dX1_push_1 rfl rfl (by decide) (by decide +kernel) rfl ?_
    refine j_iconst G dX1_push_4 (v := 4) rfl ?_
    refine j_icmp_lt (tgt := 12) G dX1_push_5 (by decide) (by omega) (by omega) (fun c5 => absurd c5 (by omega)) (fun c5 => ?_)
    refine j_aload_n G 0 dX1_push_8 rfl ?_
    refine j_callV (nA := 0) (As := []) (st := []) (wc := (gV Y h q 4 (r4 (A 0) (A 1) (A 2) (A 3)) ++ (wZ Y (A 0) (Q 0) (S 0) ++ (wZ Y (A 1) (Q 1) (S 1) ++ (wZ Y (A 2) (Q 2) (S 2) ++ (wZ Y (A 3) (Q 3) (S 3))))))) (wr := (wZ Y h2 q2 z)) G (c_X1_dropOldest l D Y h q 4 (A 0) (Q 0) (S 0) (A 1) (Q 1) (S 1) (A 2) (Q 2) (S 2) (A 3) (Q 3) (S 3) ) dX1_push_9 rfl gX1_push_X1_dropOldest rfl rfl rfl (by decide +kernel) ⟨by decide, by decide⟩ rfl 0 rfl rfl rfl (jLe.rf _) (Nat.le_of_ble_eq_true rfl) ⟨Nat.zero_le _, Nat.zero_le _⟩ (fun v_ w_ hp_ => ?_)
    obtain ⟨rfl, rfl⟩ := hp_
    show J x 0 0 (gV Y h q 3 (r4 (A 1) (A 2) (A 3) (A 0)) ++ (wZ Y (A 0) (Q 0) (S 0) ++ (wZ Y (A 1) (Q 1) (S 1) ++ (wZ Y (A 2) (Q 2) (S 2) ++ (wZ Y (A 3) (Q 3) (S 3) ++ (wZ Y h2 q2 z)))))) 12 [(0, .ref h), (1, .ref h2)] []
    refine j_aload_n G 0 dX1_push_12 rfl ?_
    refine j_get (q := 0) (C := RX1) (T := TX1) (N := 2) (v := .ref q) G 0 hinX1 dX1_push_13 rfl rfl (by decide) (by decide +kernel) rfl ?_
    refine j_aload_n G 0 dX1_push_16 rfl ?_
    refine j_get (q := 1) (C := RX1) (T := TX1) (N := 2) (v := .int (jI 3)) G 0 hinX1 dX1_push_17 rfl rfl (by decide) (by decide +kernel) rfl ?_
    refine j_aald (r := (A 0)) G 1 dX1_push_20 rfl (by omega) rfl ?_
    refine j_aload_n G 1 dX1_push_21 rfl ?_
    refine j_callV (nA := 1) (As := [.ref h2]) (st := []) (wc := (wZ Y (A 0) (Q 0) (S 0) ++ (wZ Y h2 q2 z))) (wr := (gV Y h q 3 (r4 (A 1) (A 2) (A 3) (A 0)) ++ (wZ Y (A 1) (Q 1) (S 1) ++ (wZ Y (A 2) (Q 2) (S 2) ++ (wZ Y (A 3) (Q 3) (S 3)))))) G (c_X3_copyFromZ l D Y (A 0) (Q 0) (S 0) h2 q2 z (by first | assumption | exact hI.fe)) dX1_push_22 rfl gX1_push_X3_copyFrom rfl rfl rfl (by decide +kernel) ⟨by decide, by decide⟩ rfl 0 rfl rfl rfl (jLe.pos [2, 3, 4, 5, 6, 7, 8, 9, 10, 38, 39, 40, 41, 42, 43, 44, 45, 46, 0, 1, 11, 12, 13, 14, 15, 16, 17, 18, 19, 20, 21, 22, 23, 24, 25, 26, 27, 28, 29, 30, 31, 32, 33, 34, 35, 36, 37] rfl rfl) (Nat.le_of_ble_eq_true rfl) ⟨Nat.zero_le _, Nat.zero_le _⟩ (fun v_ w_ hp_ => ?_)
    obtain ⟨rfl, rfl⟩ := hp_
    refine j_conv (ws' := gV Y h q 3 (r4 (A 1) (A 2) (A 3) (A 0)) ++ (wZ Y (A 0) (Q 0) z ++ (wZ Y (A 1) (Q 1) (S 1) ++ (wZ Y (A 2) (Q 2) (S 2) ++ (wZ Y (A 3) (Q 3) (S 3) ++ (wZ Y h2 q2 z)))))) (jLe.pos [18, 19, 0, 1, 2, 3, 4, 5, 6, 7, 8, 20, 21, 22, 23, 24, 25, 26, 27, 28, 29, 30, 31, 32, 33, 34, 35, 36, 37, 38, 39, 40, 41, 42, 43, 44, 45, 46, 9, 10, 11, 12, 13, 14, 15, 16, 17] rfl rfl) ?_
    show J x 0 0 (gV Y h q 3 (r4 (A 1) (A 2) (A 3) (A 0)) ++ (wZ Y (A 0) (Q 0) z ++ (wZ Y (A 1) (Q 1) (S 1) ++ (wZ Y (A 2) (Q 2) (S 2) ++ (wZ Y (A 3) (Q 3) (S 3) ++ (wZ Y h2 q2 z)))))) 25 [(0, .ref h), (1, .ref h2)] []
    refine j_aload_n G 0 dX1_push_25 rfl ?_
    refine j_dup G dX1_push_26 rfl ?_
    refine j_get (q := 1) (C := RX1) (T := TX1) (N := 2) (v := .int (jI 3)) G 0 hinX1 dX1_push_27 rfl rfl (by decide) (by decide +kernel) rfl ?_
    refine j_iconst G dX1_push_30 (v := 1) rfl ?_
    refine j_iadd G dX1_push_31 ?_
    refine j_put (q := 1) (C := RX1) (T := TX1) (N := 2) (ws' := gV Y h q (3 + 1) (r4 (A 1) (A 2) (A 3) (A 0)) ++ (wZ Y (A 0) (Q 0) z ++ (wZ Y (A 1) (Q 1) (S 1) ++ (wZ Y (A 2) (Q 2) (S 2) ++ (wZ Y (A 3) (Q 3) (S 3) ++ (wZ Y h2 q2 z)))))) G 0 hinX1 tyX1 tyX1_ok nmX1 dX1_push_32 rfl rfl (by decide) (by decide +kernel) rfl rfl rfl rfl (Nat.le_of_ble_eq_true rfl) rfl ?_
    first | exact j_retv G dX1_push_35 (jLe.rf _) (kr0 _ _ ⟨A, Q, rfl, rfl⟩) | exact j_retv G dX1_push_35 (by exact jLe.pos [0, 1, 11, 12, 13, 14, 15, 16, 17, 18, 19, 20, 21, 22, 23, 24, 25, 26, 27, 28, 29, 30, 31, 32, 33, 34, 35, 36, 37, 2, 3, 4, 5, 6, 7, 8, 9, 10, 38, 39, 40, 41, 42, 43, 44, 45, 46] rfl rfl) (kr0 _ _ ⟨fun j => A ((j + 1) % 4), fun j => Q ((j + 1) % 4), rfl, rfl⟩)

set_option maxHeartbeats 4000000 in
set_option maxRecDepth 100000 in
theorem c_X1_pop (l : Launch) (D : va_G) (Y : Nat → ClassId) (h : Nat) (q : Nat) (sz : Int) (h2 : Nat) (q2 : Nat → Nat) (z : Int → Int) (A : Nat → Nat) (Q : Nat → Nat → Nat) (S : Nat → Int → Int) (hsz : 0 ≤ sz ∧ sz ≤ 4) (hS : ∀ i : Int, 0 ≤ i → i < sz → Inv (S i.toNat)) : jM l yX1_pop wsX1_pop { frames := 2, cells := 0, slots := 0, locals := 39 } D Y [.ref h, .ref h2] (gV Y h q sz (r4 (A 0) (A 1) (A 2) (A 3)) ++ (wZ Y (A 0) (Q 0) (S 0) ++ (wZ Y (A 1) (Q 1) (S 1) ++ (wZ Y (A 2) (Q 2) (S 2) ++ (wZ Y (A 3) (Q 3) (S 3) ++ (wZ Y h2 q2 z)))))) (fun v_ w_ => v_ = some (.int (jI (if ¬ sz = 0 then 1 else 0))) ∧ w_ = (gV Y h q (hDn sz) (r4 (A 0) (A 1) (A 2) (A 3)) ++ (wZ Y (A 0) (Q 0) (S 0) ++ (wZ Y (A 1) (Q 1) (S 1) ++ (wZ Y (A 2) (Q 2) (S 2) ++ (wZ Y (A 3) (Q 3) (S 3) ++ (wZ Y h2 q2 (hTop sz S z)))))))) 0 0 := by
  refine jM_of (cc := cX1_pop) (maxL := 2) (ret := (some .boolean)) (by decide) rfl (Nat.le_of_ble_eq_true rfl) (fun v w' h => Or.inr (Or.inl ⟨_, _, rfl, h.1, jI_z (ite_01 _)⟩)) ?_
  intro x G kr0
  have kr := kr0 _ _ ⟨rfl, rfl⟩
  have G : jG x l D Y cX1_pop RX1 wsX1_pop 2 ({ frames := 2, cells := 0, slots := 0, locals := 39 } : Room) (some .boolean) "pop" := G
  have hinX1 : ∀ w ∈ wsX10, w ∈ wsX1_pop := fun _ h => List.mem_cons_of_mem _ (List.mem_append_left _ (List.mem_append_right _ h))
  show J x 0 0 (gV Y h q sz (r4 (A 0) (A 1) (A 2) (A 3)) ++ (wZ Y (A 0) (Q 0) (S 0) ++ (wZ Y (A 1) (Q 1) (S 1) ++ (wZ Y (A 2) (Q 2) (S 2) ++ (wZ Y (A 3) (Q 3) (S 3) ++ (wZ Y h2 q2 z)))))) 0 [(0, .ref h), (1, .ref h2)] []
  rcases (show sz = 0 ∨ sz = 1 ∨ sz = 2 ∨ sz = 3 ∨ sz = 4 by omega) with sp_1 | sp_1 | sp_1 | sp_1 | sp_1
  · subst sp_1
    refine j_aload_n G 0 dX1_pop_0 rfl ?_
    refine j_get (q := 1) (C := RX1) (T := TX1) (N := 2) (v := .int (jI 0)) G 0 hinX1 dX1_pop_1 rfl rfl (by decide) (by decide +kernel) rfl ?_
    refine j_if_ne (tgt := 9) G dX1_pop_4 (by decide) (by omega) (fun c4 => absurd c4 (by omega)) (fun c4 => ?_)
    refine j_iconst G dX1_pop_7 (v := 0) rfl ?_
    exact j_reti G dX1_pop_8 (by first | rfl | omega | exact ite_T (by omega) | exact ite_F (by omega)) (jLe.rf _) kr
  · subst sp_1
    refine j_aload_n G 0 dX1_pop_0 rfl ?_
    refine j_get (q := 1) (C := RX1) (T := TX1) (N := 2) (v := .int (jI 1)) G 0 hinX1 dX1_pop_1 rfl rfl (by decide) (by decide +kernel) rfl ?_
    refine j_if_ne (tgt := 9) G dX1_pop_4 (by decide) (by omega) (fun c4 => ?_) (fun c4 => absurd c4 (by omega))
    refine j_aload_n G 0 dX1_pop_9 rfl ?_
    refine j_dup G dX1_pop_10 rfl ?_
    refine j_get (q := 1) (C := RX1) (T := TX1) (N := 2) (v := .int (jI 1)) G 0 hinX1 dX1_pop_11 rfl rfl (by decide) (by decide +kernel) rfl ?_
    refine j_iconst G dX1_pop_14 (v := 1) rfl ?_
    refine j_isub G dX1_pop_15 ?_
    refine j_put (q := 1) (C := RX1) (T := TX1) (N := 2) (ws' := gV Y h q (1 - 1) (r4 (A 0) (A 1) (A 2) (A 3)) ++ (wZ Y (A 0) (Q 0) (S 0) ++ (wZ Y (A 1) (Q 1) (S 1) ++ (wZ Y (A 2) (Q 2) (S 2) ++ (wZ Y (A 3) (Q 3) (S 3) ++ (wZ Y h2 q2 z)))))) G 0 hinX1 tyX1 tyX1_ok nmX1 dX1_pop_16 rfl rfl (by decide) (by decide +kernel) rfl rfl rfl rfl (Nat.le_of_ble_eq_true rfl) rfl ?_
    refine j_aload_n G 1 dX1_pop_19 rfl ?_
    refine j_aload_n G 0 dX1_pop_20 rfl ?_
    refine j_get (q := 0) (C := RX1) (T := TX1) (N := 2) (v := .ref q) G 0 hinX1 dX1_pop_21 rfl rfl (by decide) (by decide +kernel) rfl ?_
    refine j_aload_n G 0 dX1_pop_24 rfl ?_
    refine j_get (q := 1) (C := RX1) (T := TX1) (N := 2) (v := .int (jI (1 - 1))) G 0 hinX1 dX1_pop_25 rfl rfl (by decide) (by decide +kernel) rfl ?_
    refine j_aald (r := (A 0)) G 1 dX1_pop_28 rfl (by omega) rfl ?_
    refine j_callV (nA := 1) (As := [.ref (A 0)]) (st := []) (wc := (wZ Y h2 q2 z ++ (wZ Y (A 0) (Q 0) (S 0)))) (wr := (gV Y h q (1 - 1) (r4 (A 0) (A 1) (A 2) (A 3)) ++ (wZ Y (A 1) (Q 1) (S 1) ++ (wZ Y (A 2) (Q 2) (S 2) ++ (wZ Y (A 3) (Q 3) (S 3)))))) G (c_X3_copyFromZ l D Y h2 q2 z (A 0) (Q 0) (S 0) (by first | exact (hS 0 (by omega) (by omega)).fe | exact (hS 1 (by omega) (by omega)).fe | exact (hS 2 (by omega) (by omega)).fe | exact (hS 3 (by omega) (by omega)).fe)) dX1_pop_29 rfl gX1_pop_X3_copyFrom rfl rfl rfl (by decide +kernel) ⟨by decide, by decide⟩ rfl 0 rfl rfl rfl (jLe.pos [38, 39, 40, 41, 42, 43, 44, 45, 46, 2, 3, 4, 5, 6, 7, 8, 9, 10, 0, 1, 11, 12, 13, 14, 15, 16, 17, 18, 19, 20, 21, 22, 23, 24, 25, 26, 27, 28, 29, 30, 31, 32, 33, 34, 35, 36, 37] rfl rfl) (Nat.le_of_ble_eq_true rfl) ⟨Nat.zero_le _, Nat.zero_le _⟩ (fun v_ w_ hp_ => ?_)
    obtain ⟨rfl, rfl⟩ := hp_
    refine j_conv (ws' := gV Y h q (1 - 1) (r4 (A 0) (A 1) (A 2) (A 3)) ++ (wZ Y (A 0) (Q 0) (S 0) ++ (wZ Y (A 1) (Q 1) (S 1) ++ (wZ Y (A 2) (Q 2) (S 2) ++ (wZ Y (A 3) (Q 3) (S 3) ++ (wZ Y h2 q2 (S 0))))))) (jLe.pos [18, 19, 9, 10, 11, 12, 13, 14, 15, 16, 17, 20, 21, 22, 23, 24, 25, 26, 27, 28, 29, 30, 31, 32, 33, 34, 35, 36, 37, 38, 39, 40, 41, 42, 43, 44, 45, 46, 0, 1, 2, 3, 4, 5, 6, 7, 8] rfl rfl) ?_
    show J x 0 0 (gV Y h q (1 - 1) (r4 (A 0) (A 1) (A 2) (A 3)) ++ (wZ Y (A 0) (Q 0) (S 0) ++ (wZ Y (A 1) (Q 1) (S 1) ++ (wZ Y (A 2) (Q 2) (S 2) ++ (wZ Y (A 3) (Q 3) (S 3) ++ (wZ Y h2 q2 (S 0))))))) 32 [(0, .ref h), (1, .ref h2)] []
    refine j_iconst G dX1_pop_32 (v := 1) rfl ?_
    exact j_reti G dX1_pop_33 (by first | rfl | omega | exact ite_T (by omega) | exact ite_F (by omega)) (jLe.rf _) kr
  · subst sp_1
    refine j_aload_n G 0 dX1_pop_0 rfl ?_
    refine j_get (q := 1) (C := RX1) (T := TX1) (N := 2) (v := .int (jI 2)) G 0 hinX1 dX1_pop_1 rfl rfl (by decide) (by decide +kernel) rfl ?_
    refine j_if_ne (tgt := 9) G dX1_pop_4 (by decide) (by omega) (fun c4 => ?_) (fun c4 => absurd c4 (by omega))
    refine j_aload_n G 0 dX1_pop_9 rfl ?_
    refine j_dup G dX1_pop_10 rfl ?_
    refine j_get (q := 1) (C := RX1) (T := TX1) (N := 2) (v := .int (jI 2)) G 0 hinX1 dX1_pop_11 rfl rfl (by decide) (by decide +kernel) rfl ?_
    refine j_iconst G dX1_pop_14 (v := 1) rfl ?_
    refine j_isub G dX1_pop_15 ?_
    refine j_put (q := 1) (C := RX1) (T := TX1) (N := 2) (ws' := gV Y h q (2 - 1) (r4 (A 0) (A 1) (A 2) (A 3)) ++ (wZ Y (A 0) (Q 0) (S 0) ++ (wZ Y (A 1) (Q 1) (S 1) ++ (wZ Y (A 2) (Q 2) (S 2) ++ (wZ Y (A 3) (Q 3) (S 3) ++ (wZ Y h2 q2 z)))))) G 0 hinX1 tyX1 tyX1_ok nmX1 dX1_pop_16 rfl rfl (by decide) (by decide +kernel) rfl rfl rfl rfl (Nat.le_of_ble_eq_true rfl) rfl ?_
    refine j_aload_n G 1 dX1_pop_19 rfl ?_
    refine j_aload_n G 0 dX1_pop_20 rfl ?_
    refine j_get (q := 0) (C := RX1) (T := TX1) (N := 2) (v := .ref q) G 0 hinX1 dX1_pop_21 rfl rfl (by decide) (by decide +kernel) rfl ?_
    refine j_aload_n G 0 dX1_pop_24 rfl ?_
    refine j_get (q := 1) (C := RX1) (T := TX1) (N := 2) (v := .int (jI (2 - 1))) G 0 hinX1 dX1_pop_25 rfl rfl (by decide) (by decide +kernel) rfl ?_
    refine j_aald (r := (A 1)) G 1 dX1_pop_28 rfl (by omega) rfl ?_
    refine j_callV (nA := 1) (As := [.ref (A 1)]) (st := []) (wc := (wZ Y h2 q2 z ++ (wZ Y (A 1) (Q 1) (S 1)))) (wr := (gV Y h q (2 - 1) (r4 (A 0) (A 1) (A 2) (A 3)) ++ (wZ Y (A 0) (Q 0) (S 0) ++ (wZ Y (A 2) (Q 2) (S 2) ++ (wZ Y (A 3) (Q 3) (S 3)))))) G (c_X3_copyFromZ l D Y h2 q2 z (A 1) (Q 1) (S 1) (by first | exact (hS 0 (by omega) (by omega)).fe | exact (hS 1 (by omega) (by omega)).fe | exact (hS 2 (by omega) (by omega)).fe | exact (hS 3 (by omega) (by omega)).fe)) dX1_pop_29 rfl gX1_pop_X3_copyFrom rfl rfl rfl (by decide +kernel) ⟨by decide, by decide⟩ rfl 0 rfl rfl rfl (jLe.pos [38, 39, 40, 41, 42, 43, 44, 45, 46, 11, 12, 13, 14, 15, 16, 17, 18, 19, 0, 1, 2, 3, 4, 5, 6, 7, 8, 9, 10, 20, 21, 22, 23, 24, 25, 26, 27, 28, 29, 30, 31, 32, 33, 34, 35, 36, 37] rfl rfl) (Nat.le_of_ble_eq_true rfl) ⟨Nat.zero_le _, Nat.zero_le _⟩ (fun v_ w_ hp_ => ?_)
    obtain ⟨rfl, rfl⟩ := hp_
    refine j_conv (ws' := gV Y h q (2 - 1) (r4 (A 0) (A 1) (A 2) (A 3)) ++ (wZ Y (A 0) (Q 0) (S 0) ++ (wZ Y (A 1) (Q 1) (S 1) ++ (wZ Y (A 2) (Q 2) (S 2) ++ (wZ Y (A 3) (Q 3) (S 3) ++ (wZ Y h2 q2 (S 1))))))) (jLe.pos [18, 19, 20, 21, 22, 23, 24, 25, 26, 27, 28, 9, 10, 11, 12, 13, 14, 15, 16, 17, 29, 30, 31, 32, 33, 34, 35, 36, 37, 38, 39, 40, 41, 42, 43, 44, 45, 46, 0, 1, 2, 3, 4, 5, 6, 7, 8] rfl rfl) ?_
    show J x 0 0 (gV Y h q (2 - 1) (r4 (A 0) (A 1) (A 2) (A 3)) ++ (wZ Y (A 0) (Q 0) (S 0) ++ (wZ Y (A 1) (Q 1) (S 1) ++ (wZ Y (A 2) (Q 2) (S 2) ++ (wZ Y (A 3) (Q 3) (S 3) ++ (wZ Y h2 q2 (S 1))))))) 32 [(0, .ref h), (1, .ref h2)] []
    refine j_iconst G dX1_pop_32 (v := 1) rfl ?_
    exact j_reti G dX1_pop_33 (by first | rfl | omega | exact ite_T (by omega) | exact ite_F (by omega)) (jLe.rf _) kr
  · subst sp_1
    refine j_aload_n G 0 dX1_pop_0 rfl ?_
    refine j_get (q := 1) (C := RX1) (T := TX1) (N := 2) (v := .int (jI 3)) G 0 hinX1 dX1_pop_1 rfl rfl (by decide) (by decide +kernel) rfl ?_
    refine j_if_ne (tgt := 9) G dX1_pop_4 (by decide) (by omega) (fun c4 => ?_) (fun c4 => absurd c4 (by omega))
    refine j_aload_n G 0 dX1_pop_9 rfl ?_
    refine j_dup G dX1_pop_10 rfl ?_
    refine j_get (q := 1) (C := RX1) (T := TX1) (N := 2) (v := .int (jI 3)) G 0 hinX1 dX1_pop_11 rfl rfl (by decide) (by decide +kernel) rfl ?_
    refine j_iconst G dX1_pop_14 (v := 1) rfl ?_
    refine j_isub G dX1_pop_15 ?_
    refine j_put (q := 1) (C := RX1) (T := TX1) (N := 2) (ws' := gV Y h q (3 - 1) (r4 (A 0) (A 1) (A 2) (A 3)) ++ (wZ Y (A 0) (Q 0) (S 0) ++ (wZ Y (A 1) (Q 1) (S 1) ++ (wZ Y (A 2) (Q 2) (S 2) ++ (wZ Y (A 3) (Q 3) (S 3) ++ (wZ Y h2 q2 z)))))) G 0 hinX1 tyX1 tyX1_ok nmX1 dX1_pop_16 rfl rfl (by decide) (by decide +kernel) rfl rfl rfl rfl (Nat.le_of_ble_eq_true rfl) rfl ?_
    refine j_aload_n G 1 dX1_pop_19 rfl ?_
    refine j_aload_n G 0 dX1_pop_20 rfl ?_
    refine j_get (q := 0) (C := RX1) (T := TX1) (N := 2) (v := .ref q) G 0 hinX1 dX1_pop_21 rfl rfl (by decide) (by decide +kernel) rfl ?_
    refine j_aload_n G 0 dX1_pop_24 rfl ?_
    refine j_get (q := 1) (C := RX1) (T := TX1) (N := 2) (v := .int (jI (3 - 1))) G 0 hinX1 dX1_pop_25 rfl rfl (by decide) (by decide +kernel) rfl ?_
    refine j_aald (r := (A 2)) G 1 dX1_pop_28 rfl (by omega) rfl ?_
    refine j_callV (nA := 1) (As := [.ref (A 2)]) (st := []) (wc := (wZ Y h2 q2 z ++ (wZ Y (A 2) (Q 2) (S 2)))) (wr := (gV Y h q (3 - 1) (r4 (A 0) (A 1) (A 2) (A 3)) ++ (wZ Y (A 0) (Q 0) (S 0) ++ (wZ Y (A 1) (Q 1) (S 1) ++ (wZ Y (A 3) (Q 3) (S 3)))))) G (c_X3_copyFromZ l D Y h2 q2 z (A 2) (Q 2) (S 2) (by first | exact (hS 0 (by omega) (by omega)).fe | exact (hS 1 (by omega) (by omega)).fe | exact (hS 2 (by omega) (by omega)).fe | exact (hS 3 (by omega) (by omega)).fe)) dX1_pop_29 rfl gX1_pop_X3_copyFrom rfl rfl rfl (by decide +kernel) ⟨by decide, by decide⟩ rfl 0 rfl rfl rfl (jLe.pos [38, 39, 40, 41, 42, 43, 44, 45, 46, 20, 21, 22, 23, 24, 25, 26, 27, 28, 0, 1, 2, 3, 4, 5, 6, 7, 8, 9, 10, 11, 12, 13, 14, 15, 16, 17, 18, 19, 29, 30, 31, 32, 33, 34, 35, 36, 37] rfl rfl) (Nat.le_of_ble_eq_true rfl) ⟨Nat.zero_le _, Nat.zero_le _⟩ (fun v_ w_ hp_ => ?_)
    obtain ⟨rfl, rfl⟩ := hp_
    refine j_conv (ws' := gV Y h q (3 - 1) (r4 (A 0) (A 1) (A 2) (A 3)) ++ (wZ Y (A 0) (Q 0) (S 0) ++ (wZ Y (A 1) (Q 1) (S 1) ++ (wZ Y (A 2) (Q 2) (S 2) ++ (wZ Y (A 3) (Q 3) (S 3) ++ (wZ Y h2 q2 (S 2))))))) (jLe.pos [18, 19, 20, 21, 22, 23, 24, 25, 26, 27, 28, 29, 30, 31, 32, 33, 34, 35, 36, 37, 9, 10, 11, 12, 13, 14, 15, 16, 17, 38, 39, 40, 41, 42, 43, 44, 45, 46, 0, 1, 2, 3, 4, 5, 6, 7, 8] rfl rfl) ?_
    show J x 0 0 (gV Y h q (3 - 1) (r4 (A 0) (A 1) (A 2) (A 3)) ++ (wZ Y (A 0) (Q 0) (S 0) ++ (wZ Y (A 1) (Q 1) (S 1) ++ (wZ Y (A 2) (Q 2) (S 2) ++ (wZ Y (A 3) (Q 3) (S 3) ++ (wZ Y h2 q2 (S 2))))))) 32 [(0, .ref h), (1, .ref h2)] []
    refine j_iconst G dX1_pop_32 (v := 1) rfl ?_
    exact j_reti G dX1_pop_33 (by first | rfl | omega | exact ite_T (by omega) | exact ite_F (by omega)) (jLe.rf _) kr
  · subst sp_1
    refine j_aload_n G 0 dX1_pop_0 rfl ?_
    refine j_get (q := 1) (C := RX1) (T := TX1) (N := 2) (v := .int (jI 4)) G 0 hinX1 dX1_pop_1 rfl rfl (by decide) (by decide +kernel) rfl ?_
    refine j_if_ne (tgt := 9) G dX1_pop_4 (by decide) (by omega) (fun c4 => ?_) (fun c4 => absurd c4 (by omega))
    refine j_aload_n G 0 dX1_pop_9 rfl ?_
    refine j_dup G dX1_pop_10 rfl ?_
    refine j_get (q := 1) (C := RX1) (T := TX1) (N := 2) (v := .int (jI 4)) G 0 hinX1 dX1_pop_11 rfl rfl (by decide) (by decide +kernel) rfl ?_
    refine j_iconst G dX1_pop_14 (v := 1) rfl ?_
    refine j_isub G dX1_pop_15 ?_
    refine j_put (q := 1) (C := RX1) (T := TX1) (N := 2) (ws' := gV Y h q (4 - 1) (r4 (A 0) (A 1) (A 2) (A 3)) ++ (wZ Y (A 0) (Q 0) (S 0) ++ (wZ Y (A 1) (Q 1) (S 1) ++ (wZ Y (A 2) (Q 2) (S 2) ++ (wZ Y (A 3) (Q 3) (S 3) ++ (wZ Y h2 q2 z)))))) G 0 hinX1 tyX1 tyX1_ok nmX1 dX1_pop_16 rfl rfl (by decide) (by decide +kernel) rfl rfl rfl rfl (Nat.le_of_ble_eq_true rfl) rfl ?_
    refine j_aload_n G 1 dX1_pop_19 rfl ?_
    refine j_aload_n G 0 dX1_pop_20 rfl ?_
    refine j_get (q := 0) (C := RX1) (T := TX1) (N := 2) (v := .ref q) G 0 hinX1 dX1_pop_21 rfl rfl (by decide) (by decide +kernel) rfl ?_
    refine j_aload_n G 0 dX1_pop_24 rfl ?_
    refine j_get (q := 1) (C := RX1) (T := TX1) (N := 2) (v := .int (jI (4 - 1))) G 0 hinX1 dX1_pop_25 rfl rfl (by decide) (by decide +kernel) rfl ?_
    refine j_aald (r := (A 3)) G 1 dX1_pop_28 rfl (by omega) rfl ?_
    refine j_callV (nA := 1) (As := [.ref (A 3)]) (st := []) (wc := (wZ Y h2 q2 z ++ (wZ Y (A 3) (Q 3) (S 3)))) (wr := (gV Y h q (4 - 1) (r4 (A 0) (A 1) (A 2) (A 3)) ++ (wZ Y (A 0) (Q 0) (S 0) ++ (wZ Y (A 1) (Q 1) (S 1) ++ (wZ Y (A 2) (Q 2) (S 2)))))) G (c_X3_copyFromZ l D Y h2 q2 z (A 3) (Q 3) (S 3) (by first | exact (hS 0 (by omega) (by omega)).fe | exact (hS 1 (by omega) (by omega)).fe | exact (hS 2 (by omega) (by omega)).fe | exact (hS 3 (by omega) (by omega)).fe)) dX1_pop_29 rfl gX1_pop_X3_copyFrom rfl rfl rfl (by decide +kernel) ⟨by decide, by decide⟩ rfl 0 rfl rfl rfl (jLe.pos [38, 39, 40, 41, 42, 43, 44, 45, 46, 29, 30, 31, 32, 33, 34, 35, 36, 37, 0, 1, 2, 3, 4, 5, 6, 7, 8, 9, 10, 11, 12, 13, 14, 15, 16, 17, 18, 19, 20, 21, 22, 23, 24, 25, 26, 27, 28] rfl rfl) (Nat.le_of_ble_eq_true rfl) ⟨Nat.zero_le _, Nat.zero_le _⟩ (fun v_ w_ hp_ => ?_)
    obtain ⟨rfl, rfl⟩ := hp_
    refine j_conv (ws' := gV Y h q (4 - 1) (r4 (A 0) (A 1) (A 2) (A 3)) ++ (wZ Y (A 0) (Q 0) (S 0) ++ (wZ Y (A 1) (Q 1) (S 1) ++ (wZ Y (A 2) (Q 2) (S 2) ++ (wZ Y (A 3) (Q 3) (S 3) ++ (wZ Y h2 q2 (S 3))))))) (jLe.pos [18, 19, 20, 21, 22, 23, 24, 25, 26, 27, 28, 29, 30, 31, 32, 33, 34, 35, 36, 37, 38, 39, 40, 41, 42, 43, 44, 45, 46, 9, 10, 11, 12, 13, 14, 15, 16, 17, 0, 1, 2, 3, 4, 5, 6, 7, 8] rfl rfl) ?_
    show J x 0 0 (gV Y h q (4 - 1) (r4 (A 0) (A 1) (A 2) (A 3)) ++ (wZ Y (A 0) (Q 0) (S 0) ++ (wZ Y (A 1) (Q 1) (S 1) ++ (wZ Y (A 2) (Q 2) (S 2) ++ (wZ Y (A 3) (Q 3) (S 3) ++ (wZ Y h2 q2 (S 3))))))) 32 [(0, .ref h), (1, .ref h2)] []
    refine j_iconst G dX1_pop_32 (v := 1) rfl ?_
    exact j_reti G dX1_pop_33 (by first | rfl | omega | exact ite_T (by omega) | exact ite_F (by omega)) (jLe.rf _) kr
