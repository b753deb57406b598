/-! ===== the object whole, as the law sees it: its addresses, what nobody asks after, its state, the snapshot, the history ===== -/
abbrev oE : Type := (Int → Int) × (Nat → Nat) × (Nat → Nat → Nat) × (Int → Int) × (Int → Int) × Int × Int × Int × Int × Int
def oW (Y : Nat → ClassId) (h : Nat) (ad : Nat → Nat) (aq : Nat → Nat → Nat) (e : oE) (z zs : Int → Int) (ik sz : Int) (S : Nat → Int → Int) : va_W :=
  match e with
  | (zb, A, Q, ab, be, al, an, ki, fi, sd) => sV Y h (ad 0) (ad 1) (ad 2) (ad 3) (ad 4) (ad 5) ik 0 0 ++ (wZ Y (ad 0) (aq 0) z ++ (wZ Y (ad 1) (aq 1) zb ++ (wZ Y (ad 2) (aq 2) zs ++ (gV Y (ad 3) (ad 6) sz (r4 (A 0) (A 1) (A 2) (A 3)) ++ (wZ Y (A 0) (Q 0) (S 0) ++ (wZ Y (A 1) (Q 1) (S 1) ++ (wZ Y (A 2) (Q 2) (S 2) ++ (wZ Y (A 3) (Q 3) (S 3) ++ (pV Y (ad 4) (aq 3) ab be al ++ (dV Y (ad 5) (ad 7) (fun _ => 0) 0 an ki fi sd))))))))))
section JO
variable {x : Cx} {l : Launch} {D : va_G} {Y : Nat → ClassId} {cc : ByteArray} {own : String} {Ts : List Cond} {nL : Nat} {R0 : Room} {ret : Option FieldType} {nm : String} {kc nc pc index h : Nat} {lv : List (Nat × Value)} {st : List Value} {ad : Nat → Nat} {aq : Nat → Nat → Nat} {e : oE} {z zs : Int → Int} {ik sz : Int} {S : Nat → Int → Int} {r0 : Int}

set_option maxHeartbeats 4000000 in
set_option maxRecDepth 100000 in
theorem jo_grow (G : jG x l D Y cc own Ts nL R0 ret nm) {p : Int} {w : Int} (hdg : decode cc pc = .ok (.invokevirtual index, 3)) (hT : GoodIn Ts (wsV own index RX4 yX4_grow wsX4_grow)) (hR : 5 ≤ R0.frames ∧ 103 ≤ R0.locals) (hW : (st.map fun v => v.category).sum ≤ 8) (hf : kc ≤ R0.cells ∧ nc ≤ R0.slots) (hI : Inv z) (hsz : 0 ≤ sz ∧ sz ≤ 4) (h_p : -2147483648 ≤ p ∧ p < 2147483648) (h_w : -2147483648 ≤ w ∧ w < 2147483648) (hr : (F_grow z p w) = r0) (kk : ∀ e2 : oE, J x kc nc (oW Y h ad aq e2 (G_grow z p w) zs ik (hSz (F_grow z p w) sz) (hSt (F_grow z p w) sz S z)) (pc + 3) lv (.int (jI r0) :: st)) : J x kc nc (oW Y h ad aq e z zs ik sz S) pc lv (.int (jI w) :: .int (jI p) :: .ref h :: st) := by
  subst hr
  obtain ⟨zb, A, Q, ab, be, al, an, ki, fi, sd⟩ := e
  show J x kc nc (sV Y h (ad 0) (ad 1) (ad 2) (ad 3) (ad 4) (ad 5) ik 0 0 ++ (wZ Y (ad 0) (aq 0) z ++ (wZ Y (ad 1) (aq 1) zb ++ (wZ Y (ad 2) (aq 2) zs ++ (gV Y (ad 3) (ad 6) sz (r4 (A 0) (A 1) (A 2) (A 3)) ++ (wZ Y (A 0) (Q 0) (S 0) ++ (wZ Y (A 1) (Q 1) (S 1) ++ (wZ Y (A 2) (Q 2) (S 2) ++ (wZ Y (A 3) (Q 3) (S 3) ++ (pV Y (ad 4) (aq 3) ab be al ++ (dV Y (ad 5) (ad 7) (fun _ => 0) 0 an ki fi sd))))))))))) pc lv (.int (jI w) :: .int (jI p) :: .ref h :: st)
  refine j_callV (nA := 2) (As := [.int (jI p), .int (jI w)]) (st := st) (wc := sV Y h (ad 0) (ad 1) (ad 2) (ad 3) (ad 4) (ad 5) ik 0 0 ++ (wZ Y (ad 0) (aq 0) z ++ (wZ Y (ad 1) (aq 1) zb ++ (gV Y (ad 3) (ad 6) sz (r4 (A 0) (A 1) (A 2) (A 3)) ++ (wZ Y (A 0) (Q 0) (S 0) ++ (wZ Y (A 1) (Q 1) (S 1) ++ (wZ Y (A 2) (Q 2) (S 2) ++ (wZ Y (A 3) (Q 3) (S 3))))))))) (wr := wZ Y (ad 2) (aq 2) zs ++ (pV Y (ad 4) (aq 3) ab be al ++ (dV Y (ad 5) (ad 7) (fun _ => 0) 0 an ki fi sd))) G (c_X4_grow l D Y h (ad 0) (ad 1) (ad 2) (ad 3) (ad 4) (ad 5) ik 0 0 (aq 0) z (aq 1) zb (ad 6) sz p w A Q S hI hsz h_p h_w) hdg rfl hT rfl rfl rfl (by decide +kernel) hR rfl 0 rfl rfl rfl (jLe.pos [0, 1, 2, 3, 4, 5, 6, 7, 8, 9, 10, 11, 12, 13, 14, 15, 16, 17, 18, 28, 29, 30, 31, 32, 33, 34, 35, 36, 37, 38, 39, 40, 41, 42, 43, 44, 45, 46, 47, 48, 49, 50, 51, 52, 53, 54, 55, 56, 57, 58, 59, 60, 61, 62, 63, 64, 65, 19, 20, 21, 22, 23, 24, 25, 26, 27, 66, 67, 68, 69, 70] rfl rfl) hW hf (fun v_ w_ hp_ => ?_)
  obtain ⟨A2, Q2, rfl, rfl⟩ := hp_
  refine j_conv (ws' := sV Y h (ad 0) (ad 1) (ad 2) (ad 3) (ad 4) (ad 5) ik 0 0 ++ (wZ Y (ad 0) (aq 0) (G_grow z p w) ++ (wZ Y (ad 1) (aq 1) z ++ (wZ Y (ad 2) (aq 2) zs ++ (gV Y (ad 3) (ad 6) (hSz (F_grow z p w) sz) (r4 (A2 0) (A2 1) (A2 2) (A2 3)) ++ (wZ Y (A2 0) (Q2 0) (hSt (F_grow z p w) sz S z 0) ++ (wZ Y (A2 1) (Q2 1) (hSt (F_grow z p w) sz S z 1) ++ (wZ Y (A2 2) (Q2 2) (hSt (F_grow z p w) sz S z 2) ++ (wZ Y (A2 3) (Q2 3) (hSt (F_grow z p w) sz S z 3) ++ (pV Y (ad 4) (aq 3) ab be al ++ (dV Y (ad 5) (ad 7) (fun _ => 0) 0 an ki fi sd))))))))))) (jLe.pos [0, 1, 2, 3, 4, 5, 6, 7, 8, 9, 10, 11, 12, 13, 14, 15, 16, 17, 18, 57, 58, 59, 60, 61, 62, 63, 64, 65, 19, 20, 21, 22, 23, 24, 25, 26, 27, 28, 29, 30, 31, 32, 33, 34, 35, 36, 37, 38, 39, 40, 41, 42, 43, 44, 45, 46, 47, 48, 49, 50, 51, 52, 53, 54, 55, 56, 66, 67, 68, 69, 70] rfl rfl) ?_
  exact kk (z, A2, Q2, ab, be, al, an, ki, fi, sd)

set_option maxHeartbeats 4000000 in
set_option maxRecDepth 100000 in
theorem jo_rain (G : jG x l D Y cc own Ts nL R0 ret nm) {m : Int} (hdg : decode cc pc = .ok (.invokevirtual index, 3)) (hT : GoodIn Ts (wsV own index RX4 yX4_rain wsX4_rain)) (hR : 5 ≤ R0.frames ∧ 102 ≤ R0.locals) (hW : (st.map fun v => v.category).sum ≤ 8) (hf : kc ≤ R0.cells ∧ nc ≤ R0.slots) (hI : Inv z) (hsz : 0 ≤ sz ∧ sz ≤ 4) (h_m : -2147483648 ≤ m ∧ m < 2147483648) (hr : (F_rain z m) = r0) (kk : ∀ e2 : oE, J x kc nc (oW Y h ad aq e2 (G_rain z m) zs ik (hSz (F_rain z m) sz) (hSt (F_rain z m) sz S z)) (pc + 3) lv (.int (jI r0) :: st)) : J x kc nc (oW Y h ad aq e z zs ik sz S) pc lv (.int (jI m) :: .ref h :: st) := by
  subst hr
  obtain ⟨zb, A, Q, ab, be, al, an, ki, fi, sd⟩ := e
  show J x kc nc (sV Y h (ad 0) (ad 1) (ad 2) (ad 3) (ad 4) (ad 5) ik 0 0 ++ (wZ Y (ad 0) (aq 0) z ++ (wZ Y (ad 1) (aq 1) zb ++ (wZ Y (ad 2) (aq 2) zs ++ (gV Y (ad 3) (ad 6) sz (r4 (A 0) (A 1) (A 2) (A 3)) ++ (wZ Y (A 0) (Q 0) (S 0) ++ (wZ Y (A 1) (Q 1) (S 1) ++ (wZ Y (A 2) (Q 2) (S 2) ++ (wZ Y (A 3) (Q 3) (S 3) ++ (pV Y (ad 4) (aq 3) ab be al ++ (dV Y (ad 5) (ad 7) (fun _ => 0) 0 an ki fi sd))))))))))) pc lv (.int (jI m) :: .ref h :: st)
  refine j_callV (nA := 1) (As := [.int (jI m)]) (st := st) (wc := sV Y h (ad 0) (ad 1) (ad 2) (ad 3) (ad 4) (ad 5) ik 0 0 ++ (wZ Y (ad 0) (aq 0) z ++ (wZ Y (ad 1) (aq 1) zb ++ (gV Y (ad 3) (ad 6) sz (r4 (A 0) (A 1) (A 2) (A 3)) ++ (wZ Y (A 0) (Q 0) (S 0) ++ (wZ Y (A 1) (Q 1) (S 1) ++ (wZ Y (A 2) (Q 2) (S 2) ++ (wZ Y (A 3) (Q 3) (S 3))))))))) (wr := wZ Y (ad 2) (aq 2) zs ++ (pV Y (ad 4) (aq 3) ab be al ++ (dV Y (ad 5) (ad 7) (fun _ => 0) 0 an ki fi sd))) G (c_X4_rain l D Y h (ad 0) (ad 1) (ad 2) (ad 3) (ad 4) (ad 5) ik 0 0 (aq 0) z (aq 1) zb (ad 6) sz m A Q S hI hsz h_m) hdg rfl hT rfl rfl rfl (by decide +kernel) hR rfl 0 rfl rfl rfl (jLe.pos [0, 1, 2, 3, 4, 5, 6, 7, 8, 9, 10, 11, 12, 13, 14, 15, 16, 17, 18, 28, 29, 30, 31, 32, 33, 34, 35, 36, 37, 38, 39, 40, 41, 42, 43, 44, 45, 46, 47, 48, 49, 50, 51, 52, 53, 54, 55, 56, 57, 58, 59, 60, 61, 62, 63, 64, 65, 19, 20, 21, 22, 23, 24, 25, 26, 27, 66, 67, 68, 69, 70] rfl rfl) hW hf (fun v_ w_ hp_ => ?_)
  obtain ⟨A2, Q2, rfl, rfl⟩ := hp_
  refine j_conv (ws' := sV Y h (ad 0) (ad 1) (ad 2) (ad 3) (ad 4) (ad 5) ik 0 0 ++ (wZ Y (ad 0) (aq 0) (G_rain z m) ++ (wZ Y (ad 1) (aq 1) z ++ (wZ Y (ad 2) (aq 2) zs ++ (gV Y (ad 3) (ad 6) (hSz (F_rain z m) sz) (r4 (A2 0) (A2 1) (A2 2) (A2 3)) ++ (wZ Y (A2 0) (Q2 0) (hSt (F_rain z m) sz S z 0) ++ (wZ Y (A2 1) (Q2 1) (hSt (F_rain z m) sz S z 1) ++ (wZ Y (A2 2) (Q2 2) (hSt (F_rain z m) sz S z 2) ++ (wZ Y (A2 3) (Q2 3) (hSt (F_rain z m) sz S z 3) ++ (pV Y (ad 4) (aq 3) ab be al ++ (dV Y (ad 5) (ad 7) (fun _ => 0) 0 an ki fi sd))))))))))) (jLe.pos [0, 1, 2, 3, 4, 5, 6, 7, 8, 9, 10, 11, 12, 13, 14, 15, 16, 17, 18, 57, 58, 59, 60, 61, 62, 63, 64, 65, 19, 20, 21, 22, 23, 24, 25, 26, 27, 28, 29, 30, 31, 32, 33, 34, 35, 36, 37, 38, 39, 40, 41, 42, 43, 44, 45, 46, 47, 48, 49, 50, 51, 52, 53, 54, 55, 56, 66, 67, 68, 69, 70] rfl rfl) ?_
  exact kk (z, A2, Q2, ab, be, al, an, ki, fi, sd)

set_option maxHeartbeats 4000000 in
set_option maxRecDepth 100000 in
theorem jo_endDays (G : jG x l D Y cc own Ts nL R0 ret nm) {n : Int} (hdg : decode cc pc = .ok (.invokevirtual index, 3)) (hT : GoodIn Ts (wsV own index RX4 yX4_endDays wsX4_endDays)) (hR : 5 ≤ R0.frames ∧ 102 ≤ R0.locals) (hW : (st.map fun v => v.category).sum ≤ 8) (hf : kc ≤ R0.cells ∧ nc ≤ R0.slots) (hI : Inv z) (hsz : 0 ≤ sz ∧ sz ≤ 4) (h_n : -2147483648 ≤ n ∧ n < 2147483648) (hr : (F_end z n) = r0) (kk : ∀ e2 : oE, J x kc nc (oW Y h ad aq e2 (G_end z n) zs ik (hSz (F_end z n) sz) (hSt (F_end z n) sz S z)) (pc + 3) lv (.int (jI r0) :: st)) : J x kc nc (oW Y h ad aq e z zs ik sz S) pc lv (.int (jI n) :: .ref h :: st) := by
  subst hr
  obtain ⟨zb, A, Q, ab, be, al, an, ki, fi, sd⟩ := e
  show J x kc nc (sV Y h (ad 0) (ad 1) (ad 2) (ad 3) (ad 4) (ad 5) ik 0 0 ++ (wZ Y (ad 0) (aq 0) z ++ (wZ Y (ad 1) (aq 1) zb ++ (wZ Y (ad 2) (aq 2) zs ++ (gV Y (ad 3) (ad 6) sz (r4 (A 0) (A 1) (A 2) (A 3)) ++ (wZ Y (A 0) (Q 0) (S 0) ++ (wZ Y (A 1) (Q 1) (S 1) ++ (wZ Y (A 2) (Q 2) (S 2) ++ (wZ Y (A 3) (Q 3) (S 3) ++ (pV Y (ad 4) (aq 3) ab be al ++ (dV Y (ad 5) (ad 7) (fun _ => 0) 0 an ki fi sd))))))))))) pc lv (.int (jI n) :: .ref h :: st)
  refine j_callV (nA := 1) (As := [.int (jI n)]) (st := st) (wc := sV Y h (ad 0) (ad 1) (ad 2) (ad 3) (ad 4) (ad 5) ik 0 0 ++ (wZ Y (ad 0) (aq 0) z ++ (wZ Y (ad 1) (aq 1) zb ++ (gV Y (ad 3) (ad 6) sz (r4 (A 0) (A 1) (A 2) (A 3)) ++ (wZ Y (A 0) (Q 0) (S 0) ++ (wZ Y (A 1) (Q 1) (S 1) ++ (wZ Y (A 2) (Q 2) (S 2) ++ (wZ Y (A 3) (Q 3) (S 3))))))))) (wr := wZ Y (ad 2) (aq 2) zs ++ (pV Y (ad 4) (aq 3) ab be al ++ (dV Y (ad 5) (ad 7) (fun _ => 0) 0 an ki fi sd))) G (c_X4_endDays l D Y h (ad 0) (ad 1) (ad 2) (ad 3) (ad 4) (ad 5) ik 0 0 (aq 0) z (aq 1) zb (ad 6) sz n A Q S hI hsz h_n) hdg rfl hT rfl rfl rfl (by decide +kernel) hR rfl 0 rfl rfl rfl (jLe.pos [0, 1, 2, 3, 4, 5, 6, 7, 8, 9, 10, 11, 12, 13, 14, 15, 16, 17, 18, 28, 29, 30, 31, 32, 33, 34, 35, 36, 37, 38, 39, 40, 41, 42, 43, 44, 45, 46, 47, 48, 49, 50, 51, 52, 53, 54, 55, 56, 57, 58, 59, 60, 61, 62, 63, 64, 65, 19, 20, 21, 22, 23, 24, 25, 26, 27, 66, 67, 68, 69, 70] rfl rfl) hW hf (fun v_ w_ hp_ => ?_)
  obtain ⟨A2, Q2, rfl, rfl⟩ := hp_
  refine j_conv (ws' := sV Y h (ad 0) (ad 1) (ad 2) (ad 3) (ad 4) (ad 5) ik 0 0 ++ (wZ Y (ad 0) (aq 0) (G_end z n) ++ (wZ Y (ad 1) (aq 1) z ++ (wZ Y (ad 2) (aq 2) zs ++ (gV Y (ad 3) (ad 6) (hSz (F_end z n) sz) (r4 (A2 0) (A2 1) (A2 2) (A2 3)) ++ (wZ Y (A2 0) (Q2 0) (hSt (F_end z n) sz S z 0) ++ (wZ Y (A2 1) (Q2 1) (hSt (F_end z n) sz S z 1) ++ (wZ Y (A2 2) (Q2 2) (hSt (F_end z n) sz S z 2) ++ (wZ Y (A2 3) (Q2 3) (hSt (F_end z n) sz S z 3) ++ (pV Y (ad 4) (aq 3) ab be al ++ (dV Y (ad 5) (ad 7) (fun _ => 0) 0 an ki fi sd))))))))))) (jLe.pos [0, 1, 2, 3, 4, 5, 6, 7, 8, 9, 10, 11, 12, 13, 14, 15, 16, 17, 18, 57, 58, 59, 60, 61, 62, 63, 64, 65, 19, 20, 21, 22, 23, 24, 25, 26, 27, 28, 29, 30, 31, 32, 33, 34, 35, 36, 37, 38, 39, 40, 41, 42, 43, 44, 45, 46, 47, 48, 49, 50, 51, 52, 53, 54, 55, 56, 66, 67, 68, 69, 70] rfl rfl) ?_
  exact kk (z, A2, Q2, ab, be, al, an, ki, fi, sd)

set_option maxHeartbeats 4000000 in
set_option maxRecDepth 100000 in
theorem jo_set (G : jG x l D Y cc own Ts nL R0 ret nm) {i : Int} {v : Int} (hdg : decode cc pc = .ok (.invokevirtual index, 3)) (hT : GoodIn Ts (wsV own index RX4 yX4_set wsX4_set)) (hR : 5 ≤ R0.frames ∧ 103 ≤ R0.locals) (hW : (st.map fun v => v.category).sum ≤ 8) (hf : kc ≤ R0.cells ∧ nc ≤ R0.slots) (hI : Inv z) (hsz : 0 ≤ sz ∧ sz ≤ 4) (h_i : -2147483648 ≤ i ∧ i < 2147483648) (h_v : -2147483648 ≤ v ∧ v < 2147483648) (hr : (F_set z i v) = r0) (kk : ∀ e2 : oE, J x kc nc (oW Y h ad aq e2 (G_set z i v) zs ik (hSz (F_set z i v) sz) (hSt (F_set z i v) sz S z)) (pc + 3) lv (.int (jI r0) :: st)) : J x kc nc (oW Y h ad aq e z zs ik sz S) pc lv (.int (jI v) :: .int (jI i) :: .ref h :: st) := by
  subst hr
  obtain ⟨zb, A, Q, ab, be, al, an, ki, fi, sd⟩ := e
  show J x kc nc (sV Y h (ad 0) (ad 1) (ad 2) (ad 3) (ad 4) (ad 5) ik 0 0 ++ (wZ Y (ad 0) (aq 0) z ++ (wZ Y (ad 1) (aq 1) zb ++ (wZ Y (ad 2) (aq 2) zs ++ (gV Y (ad 3) (ad 6) sz (r4 (A 0) (A 1) (A 2) (A 3)) ++ (wZ Y (A 0) (Q 0) (S 0) ++ (wZ Y (A 1) (Q 1) (S 1) ++ (wZ Y (A 2) (Q 2) (S 2) ++ (wZ Y (A 3) (Q 3) (S 3) ++ (pV Y (ad 4) (aq 3) ab be al ++ (dV Y (ad 5) (ad 7) (fun _ => 0) 0 an ki fi sd))))))))))) pc lv (.int (jI v) :: .int (jI i) :: .ref h :: st)
  refine j_callV (nA := 2) (As := [.int (jI i), .int (jI v)]) (st := st) (wc := sV Y h (ad 0) (ad 1) (ad 2) (ad 3) (ad 4) (ad 5) ik 0 0 ++ (wZ Y (ad 0) (aq 0) z ++ (wZ Y (ad 1) (aq 1) zb ++ (gV Y (ad 3) (ad 6) sz (r4 (A 0) (A 1) (A 2) (A 3)) ++ (wZ Y (A 0) (Q 0) (S 0) ++ (wZ Y (A 1) (Q 1) (S 1) ++ (wZ Y (A 2) (Q 2) (S 2) ++ (wZ Y (A 3) (Q 3) (S 3))))))))) (wr := wZ Y (ad 2) (aq 2) zs ++ (pV Y (ad 4) (aq 3) ab be al ++ (dV Y (ad 5) (ad 7) (fun _ => 0) 0 an ki fi sd))) G (c_X4_set l D Y h (ad 0) (ad 1) (ad 2) (ad 3) (ad 4) (ad 5) ik 0 0 (aq 0) z (aq 1) zb (ad 6) sz i v A Q S hI hsz h_i h_v) hdg rfl hT rfl rfl rfl (by decide +kernel) hR rfl 0 rfl rfl rfl (jLe.pos [0, 1, 2, 3, 4, 5, 6, 7, 8, 9, 10, 11, 12, 13, 14, 15, 16, 17, 18, 28, 29, 30, 31, 32, 33, 34, 35, 36, 37, 38, 39, 40, 41, 42, 43, 44, 45, 46, 47, 48, 49, 50, 51, 52, 53, 54, 55, 56, 57, 58, 59, 60, 61, 62, 63, 64, 65, 19, 20, 21, 22, 23, 24, 25, 26, 27, 66, 67, 68, 69, 70] rfl rfl) hW hf (fun v_ w_ hp_ => ?_)
  obtain ⟨A2, Q2, rfl, rfl⟩ := hp_
  refine j_conv (ws' := sV Y h (ad 0) (ad 1) (ad 2) (ad 3) (ad 4) (ad 5) ik 0 0 ++ (wZ Y (ad 0) (aq 0) (G_set z i v) ++ (wZ Y (ad 1) (aq 1) z ++ (wZ Y (ad 2) (aq 2) zs ++ (gV Y (ad 3) (ad 6) (hSz (F_set z i v) sz) (r4 (A2 0) (A2 1) (A2 2) (A2 3)) ++ (wZ Y (A2 0) (Q2 0) (hSt (F_set z i v) sz S z 0) ++ (wZ Y (A2 1) (Q2 1) (hSt (F_set z i v) sz S z 1) ++ (wZ Y (A2 2) (Q2 2) (hSt (F_set z i v) sz S z 2) ++ (wZ Y (A2 3) (Q2 3) (hSt (F_set z i v) sz S z 3) ++ (pV Y (ad 4) (aq 3) ab be al ++ (dV Y (ad 5) (ad 7) (fun _ => 0) 0 an ki fi sd))))))))))) (jLe.pos [0, 1, 2, 3, 4, 5, 6, 7, 8, 9, 10, 11, 12, 13, 14, 15, 16, 17, 18, 57, 58, 59, 60, 61, 62, 63, 64, 65, 19, 20, 21, 22, 23, 24, 25, 26, 27, 28, 29, 30, 31, 32, 33, 34, 35, 36, 37, 38, 39, 40, 41, 42, 43, 44, 45, 46, 47, 48, 49, 50, 51, 52, 53, 54, 55, 56, 66, 67, 68, 69, 70] rfl rfl) ?_
  exact kk (z, A2, Q2, ab, be, al, an, ki, fi, sd)

set_option maxHeartbeats 4000000 in
set_option maxRecDepth 100000 in
theorem jo_go (G : jG x l D Y cc own Ts nL R0 ret nm) {k : Int} {p : Int} (hdg : decode cc pc = .ok (.invokevirtual index, 3)) (hT : GoodIn Ts (wsV own index RX4 yX4_go wsX4_go)) (hR : 5 ≤ R0.frames ∧ 103 ≤ R0.locals) (hW : (st.map fun v => v.category).sum ≤ 8) (hf : kc ≤ R0.cells ∧ nc ≤ R0.slots) (hI : Inv z) (hsz : 0 ≤ sz ∧ sz ≤ 4) (h_k : -2147483648 ≤ k ∧ k < 2147483648) (h_p : -2147483648 ≤ p ∧ p < 2147483648) (hr : (F_go z k p) = r0) (kk : ∀ e2 : oE, J x kc nc (oW Y h ad aq e2 (G_go z k p) zs ik (hSz (F_go z k p) sz) (hSt (F_go z k p) sz S z)) (pc + 3) lv (.int (jI r0) :: st)) : J x kc nc (oW Y h ad aq e z zs ik sz S) pc lv (.int (jI p) :: .int (jI k) :: .ref h :: st) := by
  subst hr
  obtain ⟨zb, A, Q, ab, be, al, an, ki, fi, sd⟩ := e
  show J x kc nc (sV Y h (ad 0) (ad 1) (ad 2) (ad 3) (ad 4) (ad 5) ik 0 0 ++ (wZ Y (ad 0) (aq 0) z ++ (wZ Y (ad 1) (aq 1) zb ++ (wZ Y (ad 2) (aq 2) zs ++ (gV Y (ad 3) (ad 6) sz (r4 (A 0) (A 1) (A 2) (A 3)) ++ (wZ Y (A 0) (Q 0) (S 0) ++ (wZ Y (A 1) (Q 1) (S 1) ++ (wZ Y (A 2) (Q 2) (S 2) ++ (wZ Y (A 3) (Q 3) (S 3) ++ (pV Y (ad 4) (aq 3) ab be al ++ (dV Y (ad 5) (ad 7) (fun _ => 0) 0 an ki fi sd))))))))))) pc lv (.int (jI p) :: .int (jI k) :: .ref h :: st)
  refine j_callV (nA := 2) (As := [.int (jI k), .int (jI p)]) (st := st) (wc := sV Y h (ad 0) (ad 1) (ad 2) (ad 3) (ad 4) (ad 5) ik 0 0 ++ (wZ Y (ad 0) (aq 0) z ++ (wZ Y (ad 1) (aq 1) zb ++ (gV Y (ad 3) (ad 6) sz (r4 (A 0) (A 1) (A 2) (A 3)) ++ (wZ Y (A 0) (Q 0) (S 0) ++ (wZ Y (A 1) (Q 1) (S 1) ++ (wZ Y (A 2) (Q 2) (S 2) ++ (wZ Y (A 3) (Q 3) (S 3))))))))) (wr := wZ Y (ad 2) (aq 2) zs ++ (pV Y (ad 4) (aq 3) ab be al ++ (dV Y (ad 5) (ad 7) (fun _ => 0) 0 an ki fi sd))) G (c_X4_go l D Y h (ad 0) (ad 1) (ad 2) (ad 3) (ad 4) (ad 5) ik 0 0 (aq 0) z (aq 1) zb (ad 6) sz k p A Q S hI hsz h_k h_p) hdg rfl hT rfl rfl rfl (by decide +kernel) hR rfl 0 rfl rfl rfl (jLe.pos [0, 1, 2, 3, 4, 5, 6, 7, 8, 9, 10, 11, 12, 13, 14, 15, 16, 17, 18, 28, 29, 30, 31, 32, 33, 34, 35, 36, 37, 38, 39, 40, 41, 42, 43, 44, 45, 46, 47, 48, 49, 50, 51, 52, 53, 54, 55, 56, 57, 58, 59, 60, 61, 62, 63, 64, 65, 19, 20, 21, 22, 23, 24, 25, 26, 27, 66, 67, 68, 69, 70] rfl rfl) hW hf (fun v_ w_ hp_ => ?_)
  obtain ⟨A2, Q2, rfl, rfl⟩ := hp_
  refine j_conv (ws' := sV Y h (ad 0) (ad 1) (ad 2) (ad 3) (ad 4) (ad 5) ik 0 0 ++ (wZ Y (ad 0) (aq 0) (G_go z k p) ++ (wZ Y (ad 1) (aq 1) z ++ (wZ Y (ad 2) (aq 2) zs ++ (gV Y (ad 3) (ad 6) (hSz (F_go z k p) sz) (r4 (A2 0) (A2 1) (A2 2) (A2 3)) ++ (wZ Y (A2 0) (Q2 0) (hSt (F_go z k p) sz S z 0) ++ (wZ Y (A2 1) (Q2 1) (hSt (F_go z k p) sz S z 1) ++ (wZ Y (A2 2) (Q2 2) (hSt (F_go z k p) sz S z 2) ++ (wZ Y (A2 3) (Q2 3) (hSt (F_go z k p) sz S z 3) ++ (pV Y (ad 4) (aq 3) ab be al ++ (dV Y (ad 5) (ad 7) (fun _ => 0) 0 an ki fi sd))))))))))) (jLe.pos [0, 1, 2, 3, 4, 5, 6, 7, 8, 9, 10, 11, 12, 13, 14, 15, 16, 17, 18, 57, 58, 59, 60, 61, 62, 63, 64, 65, 19, 20, 21, 22, 23, 24, 25, 26, 27, 28, 29, 30, 31, 32, 33, 34, 35, 36, 37, 38, 39, 40, 41, 42, 43, 44, 45, 46, 47, 48, 49, 50, 51, 52, 53, 54, 55, 56, 66, 67, 68, 69, 70] rfl rfl) ?_
  exact kk (z, A2, Q2, ab, be, al, an, ki, fi, sd)

set_option maxHeartbeats 4000000 in
set_option maxRecDepth 100000 in
theorem jo_fell (G : jG x l D Y cc own Ts nL R0 ret nm) {k : Int} (hdg : decode cc pc = .ok (.invokevirtual index, 3)) (hT : GoodIn Ts (wsV own index RX4 yX4_fell wsX4_fell)) (hR : 5 ≤ R0.frames ∧ 102 ≤ R0.locals) (hW : (st.map fun v => v.category).sum ≤ 8) (hf : kc ≤ R0.cells ∧ nc ≤ R0.slots) (hI : Inv z) (hsz : 0 ≤ sz ∧ sz ≤ 4) (h_k : -2147483648 ≤ k ∧ k < 2147483648) (hr : (F_fell z k) = r0) (kk : ∀ e2 : oE, J x kc nc (oW Y h ad aq e2 (G_fell z k) zs ik (hSz (F_fell z k) sz) (hSt (F_fell z k) sz S z)) (pc + 3) lv (.int (jI r0) :: st)) : J x kc nc (oW Y h ad aq e z zs ik sz S) pc lv (.int (jI k) :: .ref h :: st) := by
  subst hr
  obtain ⟨zb, A, Q, ab, be, al, an, ki, fi, sd⟩ := e
  show J x kc nc (sV Y h (ad 0) (ad 1) (ad 2) (ad 3) (ad 4) (ad 5) ik 0 0 ++ (wZ Y (ad 0) (aq 0) z ++ (wZ Y (ad 1) (aq 1) zb ++ (wZ Y (ad 2) (aq 2) zs ++ (gV Y (ad 3) (ad 6) sz (r4 (A 0) (A 1) (A 2) (A 3)) ++ (wZ Y (A 0) (Q 0) (S 0) ++ (wZ Y (A 1) (Q 1) (S 1) ++ (wZ Y (A 2) (Q 2) (S 2) ++ (wZ Y (A 3) (Q 3) (S 3) ++ (pV Y (ad 4) (aq 3) ab be al ++ (dV Y (ad 5) (ad 7) (fun _ => 0) 0 an ki fi sd))))))))))) pc lv (.int (jI k) :: .ref h :: st)
  refine j_callV (nA := 1) (As := [.int (jI k)]) (st := st) (wc := sV Y h (ad 0) (ad 1) (ad 2) (ad 3) (ad 4) (ad 5) ik 0 0 ++ (wZ Y (ad 0) (aq 0) z ++ (wZ Y (ad 1) (aq 1) zb ++ (gV Y (ad 3) (ad 6) sz (r4 (A 0) (A 1) (A 2) (A 3)) ++ (wZ Y (A 0) (Q 0) (S 0) ++ (wZ Y (A 1) (Q 1) (S 1) ++ (wZ Y (A 2) (Q 2) (S 2) ++ (wZ Y (A 3) (Q 3) (S 3))))))))) (wr := wZ Y (ad 2) (aq 2) zs ++ (pV Y (ad 4) (aq 3) ab be al ++ (dV Y (ad 5) (ad 7) (fun _ => 0) 0 an ki fi sd))) G (c_X4_fell l D Y h (ad 0) (ad 1) (ad 2) (ad 3) (ad 4) (ad 5) ik 0 0 (aq 0) z (aq 1) zb (ad 6) sz k A Q S hI hsz h_k) hdg rfl hT rfl rfl rfl (by decide +kernel) hR rfl 0 rfl rfl rfl (jLe.pos [0, 1, 2, 3, 4, 5, 6, 7, 8, 9, 10, 11, 12, 13, 14, 15, 16, 17, 18, 28, 29, 30, 31, 32, 33, 34, 35, 36, 37, 38, 39, 40, 41, 42, 43, 44, 45, 46, 47, 48, 49, 50, 51, 52, 53, 54, 55, 56, 57, 58, 59, 60, 61, 62, 63, 64, 65, 19, 20, 21, 22, 23, 24, 25, 26, 27, 66, 67, 68, 69, 70] rfl rfl) hW hf (fun v_ w_ hp_ => ?_)
  obtain ⟨A2, Q2, rfl, rfl⟩ := hp_
  refine j_conv (ws' := sV Y h (ad 0) (ad 1) (ad 2) (ad 3) (ad 4) (ad 5) ik 0 0 ++ (wZ Y (ad 0) (aq 0) (G_fell z k) ++ (wZ Y (ad 1) (aq 1) z ++ (wZ Y (ad 2) (aq 2) zs ++ (gV Y (ad 3) (ad 6) (hSz (F_fell z k) sz) (r4 (A2 0) (A2 1) (A2 2) (A2 3)) ++ (wZ Y (A2 0) (Q2 0) (hSt (F_fell z k) sz S z 0) ++ (wZ Y (A2 1) (Q2 1) (hSt (F_fell z k) sz S z 1) ++ (wZ Y (A2 2) (Q2 2) (hSt (F_fell z k) sz S z 2) ++ (wZ Y (A2 3) (Q2 3) (hSt (F_fell z k) sz S z 3) ++ (pV Y (ad 4) (aq 3) ab be al ++ (dV Y (ad 5) (ad 7) (fun _ => 0) 0 an ki fi sd))))))))))) (jLe.pos [0, 1, 2, 3, 4, 5, 6, 7, 8, 9, 10, 11, 12, 13, 14, 15, 16, 17, 18, 57, 58, 59, 60, 61, 62, 63, 64, 65, 19, 20, 21, 22, 23, 24, 25, 26, 27, 28, 29, 30, 31, 32, 33, 34, 35, 36, 37, 38, 39, 40, 41, 42, 43, 44, 45, 46, 47, 48, 49, 50, 51, 52, 53, 54, 55, 56, 66, 67, 68, 69, 70] rfl rfl) ?_
  exact kk (z, A2, Q2, ab, be, al, an, ki, fi, sd)

set_option maxHeartbeats 4000000 in
set_option maxRecDepth 100000 in
theorem jo_hint (G : jG x l D Y cc own Ts nL R0 ret nm) {r : Int} {c : Int} (hdg : decode cc pc = .ok (.invokevirtual index, 3)) (hT : GoodIn Ts (wsV own index RX4 yX4_hint wsX4_hint)) (hR : 5 ≤ R0.frames ∧ 103 ≤ R0.locals) (hW : (st.map fun v => v.category).sum ≤ 8) (hf : kc ≤ R0.cells ∧ nc ≤ R0.slots) (hI : Inv z) (hsz : 0 ≤ sz ∧ sz ≤ 4) (h_r : -2147483648 ≤ r ∧ r < 2147483648) (h_c : -2147483648 ≤ c ∧ c < 2147483648) (hr : (F_hint z r c) = r0) (kk : ∀ e2 : oE, J x kc nc (oW Y h ad aq e2 (G_hint z r c) zs ik (hSz (F_hint z r c) sz) (hSt (F_hint z r c) sz S z)) (pc + 3) lv (.int (jI r0) :: st)) : J x kc nc (oW Y h ad aq e z zs ik sz S) pc lv (.int (jI c) :: .int (jI r) :: .ref h :: st) := by
  subst hr
  obtain ⟨zb, A, Q, ab, be, al, an, ki, fi, sd⟩ := e
  show J x kc nc (sV Y h (ad 0) (ad 1) (ad 2) (ad 3) (ad 4) (ad 5) ik 0 0 ++ (wZ Y (ad 0) (aq 0) z ++ (wZ Y (ad 1) (aq 1) zb ++ (wZ Y (ad 2) (aq 2) zs ++ (gV Y (ad 3) (ad 6) sz (r4 (A 0) (A 1) (A 2) (A 3)) ++ (wZ Y (A 0) (Q 0) (S 0) ++ (wZ Y (A 1) (Q 1) (S 1) ++ (wZ Y (A 2) (Q 2) (S 2) ++ (wZ Y (A 3) (Q 3) (S 3) ++ (pV Y (ad 4) (aq 3) ab be al ++ (dV Y (ad 5) (ad 7) (fun _ => 0) 0 an ki fi sd))))))))))) pc lv (.int (jI c) :: .int (jI r) :: .ref h :: st)
  refine j_callV (nA := 2) (As := [.int (jI r), .int (jI c)]) (st := st) (wc := sV Y h (ad 0) (ad 1) (ad 2) (ad 3) (ad 4) (ad 5) ik 0 0 ++ (wZ Y (ad 0) (aq 0) z ++ (wZ Y (ad 1) (aq 1) zb ++ (gV Y (ad 3) (ad 6) sz (r4 (A 0) (A 1) (A 2) (A 3)) ++ (wZ Y (A 0) (Q 0) (S 0) ++ (wZ Y (A 1) (Q 1) (S 1) ++ (wZ Y (A 2) (Q 2) (S 2) ++ (wZ Y (A 3) (Q 3) (S 3) ++ (pV Y (ad 4) (aq 3) ab be al))))))))) (wr := wZ Y (ad 2) (aq 2) zs ++ (dV Y (ad 5) (ad 7) (fun _ => 0) 0 an ki fi sd)) G (c_X4_hint l D Y h (ad 0) (ad 1) (ad 2) (ad 3) (ad 4) (ad 5) ik 0 0 (aq 0) z (aq 1) zb (ad 6) sz (aq 3) ab be al r c A Q S hI hsz h_r h_c) hdg rfl hT rfl rfl rfl (by decide +kernel) hR rfl 0 rfl rfl rfl (jLe.pos [0, 1, 2, 3, 4, 5, 6, 7, 8, 9, 10, 11, 12, 13, 14, 15, 16, 17, 18, 28, 29, 30, 31, 32, 33, 34, 35, 36, 37, 38, 39, 40, 41, 42, 43, 44, 45, 46, 47, 48, 49, 50, 51, 52, 53, 54, 55, 56, 57, 58, 59, 60, 61, 62, 63, 64, 65, 66, 67, 68, 19, 20, 21, 22, 23, 24, 25, 26, 27, 69, 70] rfl rfl) hW hf (fun v_ w_ hp_ => ?_)
  obtain ⟨A2, Q2, rfl, rfl⟩ := hp_
  refine j_conv (ws' := sV Y h (ad 0) (ad 1) (ad 2) (ad 3) (ad 4) (ad 5) ik 0 0 ++ (wZ Y (ad 0) (aq 0) (G_hint z r c) ++ (wZ Y (ad 1) (aq 1) z ++ (wZ Y (ad 2) (aq 2) zs ++ (gV Y (ad 3) (ad 6) (hSz (F_hint z r c) sz) (r4 (A2 0) (A2 1) (A2 2) (A2 3)) ++ (wZ Y (A2 0) (Q2 0) (hSt (F_hint z r c) sz S z 0) ++ (wZ Y (A2 1) (Q2 1) (hSt (F_hint z r c) sz S z 1) ++ (wZ Y (A2 2) (Q2 2) (hSt (F_hint z r c) sz S z 2) ++ (wZ Y (A2 3) (Q2 3) (hSt (F_hint z r c) sz S z 3) ++ (pT Y (ad 4) (aq 3) (tZ z) ++ (dV Y (ad 5) (ad 7) (fun _ => 0) 0 an ki fi sd))))))))))) (jLe.pos [0, 1, 2, 3, 4, 5, 6, 7, 8, 9, 10, 11, 12, 13, 14, 15, 16, 17, 18, 60, 61, 62, 63, 64, 65, 66, 67, 68, 19, 20, 21, 22, 23, 24, 25, 26, 27, 28, 29, 30, 31, 32, 33, 34, 35, 36, 37, 38, 39, 40, 41, 42, 43, 44, 45, 46, 47, 48, 49, 50, 51, 52, 53, 54, 55, 56, 57, 58, 59, 69, 70] rfl rfl) ?_
  exact kk (z, A2, Q2, pAb (tZ z), pBe (tZ z), pAll (tZ z), an, ki, fi, sd)

set_option maxHeartbeats 4000000 in
set_option maxRecDepth 100000 in
theorem jo_takeBack (G : jG x l D Y cc own Ts nL R0 ret nm) {r : Int} (hdg : decode cc pc = .ok (.invokevirtual index, 3)) (hT : GoodIn Ts (wsV own index RX4 yX4_takeBack wsX4_takeBack)) (hR : 5 ≤ R0.frames ∧ 102 ≤ R0.locals) (hW : (st.map fun v => v.category).sum ≤ 8) (hf : kc ≤ R0.cells ∧ nc ≤ R0.slots) (hI : Inv z) (hsz : 0 ≤ sz ∧ sz ≤ 4) (h_r : -2147483648 ≤ r ∧ r < 2147483648) (hr : (F_back z r) = r0) (kk : ∀ e2 : oE, J x kc nc (oW Y h ad aq e2 (G_back z r) zs ik (hSz (F_back z r) sz) (hSt (F_back z r) sz S z)) (pc + 3) lv (.int (jI r0) :: st)) : J x kc nc (oW Y h ad aq e z zs ik sz S) pc lv (.int (jI r) :: .ref h :: st) := by
  subst hr
  obtain ⟨zb, A, Q, ab, be, al, an, ki, fi, sd⟩ := e
  show J x kc nc (sV Y h (ad 0) (ad 1) (ad 2) (ad 3) (ad 4) (ad 5) ik 0 0 ++ (wZ Y (ad 0) (aq 0) z ++ (wZ Y (ad 1) (aq 1) zb ++ (wZ Y (ad 2) (aq 2) zs ++ (gV Y (ad 3) (ad 6) sz (r4 (A 0) (A 1) (A 2) (A 3)) ++ (wZ Y (A 0) (Q 0) (S 0) ++ (wZ Y (A 1) (Q 1) (S 1) ++ (wZ Y (A 2) (Q 2) (S 2) ++ (wZ Y (A 3) (Q 3) (S 3) ++ (pV Y (ad 4) (aq 3) ab be al ++ (dV Y (ad 5) (ad 7) (fun _ => 0) 0 an ki fi sd))))))))))) pc lv (.int (jI r) :: .ref h :: st)
  refine j_callV (nA := 1) (As := [.int (jI r)]) (st := st) (wc := sV Y h (ad 0) (ad 1) (ad 2) (ad 3) (ad 4) (ad 5) ik 0 0 ++ (wZ Y (ad 0) (aq 0) z ++ (wZ Y (ad 1) (aq 1) zb ++ (gV Y (ad 3) (ad 6) sz (r4 (A 0) (A 1) (A 2) (A 3)) ++ (wZ Y (A 0) (Q 0) (S 0) ++ (wZ Y (A 1) (Q 1) (S 1) ++ (wZ Y (A 2) (Q 2) (S 2) ++ (wZ Y (A 3) (Q 3) (S 3) ++ (pV Y (ad 4) (aq 3) ab be al))))))))) (wr := wZ Y (ad 2) (aq 2) zs ++ (dV Y (ad 5) (ad 7) (fun _ => 0) 0 an ki fi sd)) G (c_X4_takeBack l D Y h (ad 0) (ad 1) (ad 2) (ad 3) (ad 4) (ad 5) ik 0 0 (aq 0) z (aq 1) zb (ad 6) sz (aq 3) ab be al r A Q S hI hsz h_r) hdg rfl hT rfl rfl rfl (by decide +kernel) hR rfl 0 rfl rfl rfl (jLe.pos [0, 1, 2, 3, 4, 5, 6, 7, 8, 9, 10, 11, 12, 13, 14, 15, 16, 17, 18, 28, 29, 30, 31, 32, 33, 34, 35, 36, 37, 38, 39, 40, 41, 42, 43, 44, 45, 46, 47, 48, 49, 50, 51, 52, 53, 54, 55, 56, 57, 58, 59, 60, 61, 62, 63, 64, 65, 66, 67, 68, 19, 20, 21, 22, 23, 24, 25, 26, 27, 69, 70] rfl rfl) hW hf (fun v_ w_ hp_ => ?_)
  obtain ⟨A2, Q2, ab2, be2, al2, rfl, rfl⟩ := hp_
  refine j_conv (ws' := sV Y h (ad 0) (ad 1) (ad 2) (ad 3) (ad 4) (ad 5) ik 0 0 ++ (wZ Y (ad 0) (aq 0) (G_back z r) ++ (wZ Y (ad 1) (aq 1) z ++ (wZ Y (ad 2) (aq 2) zs ++ (gV Y (ad 3) (ad 6) (hSz (F_back z r) sz) (r4 (A2 0) (A2 1) (A2 2) (A2 3)) ++ (wZ Y (A2 0) (Q2 0) (hSt (F_back z r) sz S z 0) ++ (wZ Y (A2 1) (Q2 1) (hSt (F_back z r) sz S z 1) ++ (wZ Y (A2 2) (Q2 2) (hSt (F_back z r) sz S z 2) ++ (wZ Y (A2 3) (Q2 3) (hSt (F_back z r) sz S z 3) ++ (pV Y (ad 4) (aq 3) ab2 be2 al2 ++ (dV Y (ad 5) (ad 7) (fun _ => 0) 0 an ki fi sd))))))))))) (jLe.pos [0, 1, 2, 3, 4, 5, 6, 7, 8, 9, 10, 11, 12, 13, 14, 15, 16, 17, 18, 60, 61, 62, 63, 64, 65, 66, 67, 68, 19, 20, 21, 22, 23, 24, 25, 26, 27, 28, 29, 30, 31, 32, 33, 34, 35, 36, 37, 38, 39, 40, 41, 42, 43, 44, 45, 46, 47, 48, 49, 50, 51, 52, 53, 54, 55, 56, 57, 58, 59, 69, 70] rfl rfl) ?_
  exact kk (z, A2, Q2, ab2, be2, al2, an, ki, fi, sd)

set_option maxHeartbeats 4000000 in
set_option maxRecDepth 100000 in
theorem jo_storm (G : jG x l D Y cc own Ts nL R0 ret nm)  (hdg : decode cc pc = .ok (.invokevirtual index, 3)) (hT : GoodIn Ts (wsV own index RX4 yX4_storm wsX4_storm)) (hR : 7 ≤ R0.frames ∧ 161 ≤ R0.locals) (hW : (st.map fun v => v.category).sum ≤ 8) (hf : kc ≤ R0.cells ∧ nc ≤ R0.slots) (hI : Inv z) (hsz : 0 ≤ sz ∧ sz ≤ 4) (hr : (F_storm z) = r0) (kk : ∀ e2 : oE, J x kc nc (oW Y h ad aq e2 (G_storm z) zs ik (hSz (F_storm z) sz) (hSt (F_storm z) sz S z)) (pc + 3) lv (.int (jI r0) :: st)) : J x kc nc (oW Y h ad aq e z zs ik sz S) pc lv (.ref h :: st) := by
  subst hr
  obtain ⟨zb, A, Q, ab, be, al, an, ki, fi, sd⟩ := e
  show J x kc nc (sV Y h (ad 0) (ad 1) (ad 2) (ad 3) (ad 4) (ad 5) ik 0 0 ++ (wZ Y (ad 0) (aq 0) z ++ (wZ Y (ad 1) (aq 1) zb ++ (wZ Y (ad 2) (aq 2) zs ++ (gV Y (ad 3) (ad 6) sz (r4 (A 0) (A 1) (A 2) (A 3)) ++ (wZ Y (A 0) (Q 0) (S 0) ++ (wZ Y (A 1) (Q 1) (S 1) ++ (wZ Y (A 2) (Q 2) (S 2) ++ (wZ Y (A 3) (Q 3) (S 3) ++ (pV Y (ad 4) (aq 3) ab be al ++ (dV Y (ad 5) (ad 7) (fun _ => 0) 0 an ki fi sd))))))))))) pc lv (.ref h :: st)
  refine j_callV (nA := 0) (As := []) (st := st) (wc := sV Y h (ad 0) (ad 1) (ad 2) (ad 3) (ad 4) (ad 5) ik 0 0 ++ (wZ Y (ad 0) (aq 0) z ++ (wZ Y (ad 1) (aq 1) zb ++ (gV Y (ad 3) (ad 6) sz (r4 (A 0) (A 1) (A 2) (A 3)) ++ (wZ Y (A 0) (Q 0) (S 0) ++ (wZ Y (A 1) (Q 1) (S 1) ++ (wZ Y (A 2) (Q 2) (S 2) ++ (wZ Y (A 3) (Q 3) (S 3) ++ (pV Y (ad 4) (aq 3) ab be al))))))))) (wr := wZ Y (ad 2) (aq 2) zs ++ (dV Y (ad 5) (ad 7) (fun _ => 0) 0 an ki fi sd)) G (c_X4_storm l D Y h (ad 0) (ad 1) (ad 2) (ad 3) (ad 4) (ad 5) ik 0 0 (aq 0) z (aq 1) zb (ad 6) sz (aq 3) ab be al A Q S hI hsz) hdg rfl hT rfl rfl rfl (by decide +kernel) hR rfl 0 rfl rfl rfl (jLe.pos [0, 1, 2, 3, 4, 5, 6, 7, 8, 9, 10, 11, 12, 13, 14, 15, 16, 17, 18, 28, 29, 30, 31, 32, 33, 34, 35, 36, 37, 38, 39, 40, 41, 42, 43, 44, 45, 46, 47, 48, 49, 50, 51, 52, 53, 54, 55, 56, 57, 58, 59, 60, 61, 62, 63, 64, 65, 66, 67, 68, 19, 20, 21, 22, 23, 24, 25, 26, 27, 69, 70] rfl rfl) hW hf (fun v_ w_ hp_ => ?_)
  obtain ⟨A2, Q2, rfl, rfl⟩ := hp_
  refine j_conv (ws' := sV Y h (ad 0) (ad 1) (ad 2) (ad 3) (ad 4) (ad 5) ik 0 0 ++ (wZ Y (ad 0) (aq 0) (G_storm z) ++ (wZ Y (ad 1) (aq 1) z ++ (wZ Y (ad 2) (aq 2) zs ++ (gV Y (ad 3) (ad 6) (hSz (F_storm z) sz) (r4 (A2 0) (A2 1) (A2 2) (A2 3)) ++ (wZ Y (A2 0) (Q2 0) (hSt (F_storm z) sz S z 0) ++ (wZ Y (A2 1) (Q2 1) (hSt (F_storm z) sz S z 1) ++ (wZ Y (A2 2) (Q2 2) (hSt (F_storm z) sz S z 2) ++ (wZ Y (A2 3) (Q2 3) (hSt (F_storm z) sz S z 3) ++ (pT Y (ad 4) (aq 3) (tZ z) ++ (dV Y (ad 5) (ad 7) (fun _ => 0) 0 an ki fi sd))))))))))) (jLe.pos [0, 1, 2, 3, 4, 5, 6, 7, 8, 9, 10, 11, 12, 13, 14, 15, 16, 17, 18, 60, 61, 62, 63, 64, 65, 66, 67, 68, 19, 20, 21, 22, 23, 24, 25, 26, 27, 28, 29, 30, 31, 32, 33, 34, 35, 36, 37, 38, 39, 40, 41, 42, 43, 44, 45, 46, 47, 48, 49, 50, 51, 52, 53, 54, 55, 56, 57, 58, 59, 69, 70] rfl rfl) ?_
  exact kk (z, A2, Q2, pAb (tZ z), pBe (tZ z), pAll (tZ z), an, ki, fi, sd)

set_option maxHeartbeats 4000000 in
set_option maxRecDepth 100000 in
theorem jo_clearText (G : jG x l D Y cc own Ts nL R0 ret nm)  (hdg : decode cc pc = .ok (.invokevirtual index, 3)) (hT : GoodIn Ts (wsV own index RX4 yX4_clearText wsX4_clearText)) (hR : 2 ≤ R0.frames ∧ 41 ≤ R0.locals) (hW : (st.map fun v => v.category).sum ≤ 8) (hf : kc ≤ R0.cells ∧ nc ≤ R0.slots) (hr : 0 = r0) (kk : ∀ e2 : oE, J x kc nc (oW Y h ad aq e2 z zs ik sz S) (pc + 3) lv (.int (jI r0) :: st)) : J x kc nc (oW Y h ad aq e z zs ik sz S) pc lv (.ref h :: st) := by
  subst hr
  obtain ⟨zb, A, Q, ab, be, al, an, ki, fi, sd⟩ := e
  show J x kc nc (sV Y h (ad 0) (ad 1) (ad 2) (ad 3) (ad 4) (ad 5) ik 0 0 ++ (wZ Y (ad 0) (aq 0) z ++ (wZ Y (ad 1) (aq 1) zb ++ (wZ Y (ad 2) (aq 2) zs ++ (gV Y (ad 3) (ad 6) sz (r4 (A 0) (A 1) (A 2) (A 3)) ++ (wZ Y (A 0) (Q 0) (S 0) ++ (wZ Y (A 1) (Q 1) (S 1) ++ (wZ Y (A 2) (Q 2) (S 2) ++ (wZ Y (A 3) (Q 3) (S 3) ++ (pV Y (ad 4) (aq 3) ab be al ++ (dV Y (ad 5) (ad 7) (fun _ => 0) 0 an ki fi sd))))))))))) pc lv (.ref h :: st)
  refine j_callV (nA := 0) (As := []) (st := st) (wc := sV Y h (ad 0) (ad 1) (ad 2) (ad 3) (ad 4) (ad 5) ik 0 0 ++ (dV Y (ad 5) (ad 7) (fun _ => 0) 0 an ki fi sd)) (wr := wZ Y (ad 0) (aq 0) z ++ (wZ Y (ad 1) (aq 1) zb ++ (wZ Y (ad 2) (aq 2) zs ++ (gV Y (ad 3) (ad 6) sz (r4 (A 0) (A 1) (A 2) (A 3)) ++ (wZ Y (A 0) (Q 0) (S 0) ++ (wZ Y (A 1) (Q 1) (S 1) ++ (wZ Y (A 2) (Q 2) (S 2) ++ (wZ Y (A 3) (Q 3) (S 3) ++ (pV Y (ad 4) (aq 3) ab be al))))))))) G (c_X4_clearText l D Y h (ad 0) (ad 1) (ad 2) (ad 3) (ad 4) (ad 5) ik 0 0 (ad 7) (fun _ => 0) 0 an ki fi sd) hdg rfl hT rfl rfl rfl (by decide +kernel) hR rfl 0 rfl rfl rfl (jLe.pos [0, 69, 70, 1, 2, 3, 4, 5, 6, 7, 8, 9, 10, 11, 12, 13, 14, 15, 16, 17, 18, 19, 20, 21, 22, 23, 24, 25, 26, 27, 28, 29, 30, 31, 32, 33, 34, 35, 36, 37, 38, 39, 40, 41, 42, 43, 44, 45, 46, 47, 48, 49, 50, 51, 52, 53, 54, 55, 56, 57, 58, 59, 60, 61, 62, 63, 64, 65, 66, 67, 68] rfl rfl) hW hf (fun v_ w_ hp_ => ?_)
  obtain ⟨rfl, rfl⟩ := hp_
  refine j_conv (ws' := sV Y h (ad 0) (ad 1) (ad 2) (ad 3) (ad 4) (ad 5) ik 0 0 ++ (wZ Y (ad 0) (aq 0) z ++ (wZ Y (ad 1) (aq 1) zb ++ (wZ Y (ad 2) (aq 2) zs ++ (gV Y (ad 3) (ad 6) sz (r4 (A 0) (A 1) (A 2) (A 3)) ++ (wZ Y (A 0) (Q 0) (S 0) ++ (wZ Y (A 1) (Q 1) (S 1) ++ (wZ Y (A 2) (Q 2) (S 2) ++ (wZ Y (A 3) (Q 3) (S 3) ++ (pV Y (ad 4) (aq 3) ab be al ++ (dV Y (ad 5) (ad 7) (fun _ => 0) 0 an ki fi sd))))))))))) (jLe.pos [0, 3, 4, 5, 6, 7, 8, 9, 10, 11, 12, 13, 14, 15, 16, 17, 18, 19, 20, 21, 22, 23, 24, 25, 26, 27, 28, 29, 30, 31, 32, 33, 34, 35, 36, 37, 38, 39, 40, 41, 42, 43, 44, 45, 46, 47, 48, 49, 50, 51, 52, 53, 54, 55, 56, 57, 58, 59, 60, 61, 62, 63, 64, 65, 66, 67, 68, 69, 70, 1, 2] rfl rfl) ?_
  exact kk (zb, A, Q, ab, be, al, an, ki, fi, sd)

set_option maxHeartbeats 4000000 in
set_option maxRecDepth 100000 in
theorem jo_stopped (G : jG x l D Y cc own Ts nL R0 ret nm) {w : Int} (hdg : decode cc pc = .ok (.invokevirtual index, 3)) (hT : GoodIn Ts (wsV own index RX4 yX4_stopped wsX4_stopped)) (hR : 2 ≤ R0.frames ∧ 43 ≤ R0.locals) (hW : (st.map fun v => v.category).sum ≤ 8) (hf : kc ≤ R0.cells ∧ nc ≤ R0.slots) (h_w : -2147483648 ≤ w ∧ w < 2147483648) (hr : (F_stop 0 0 w) = r0) (kk : ∀ e2 : oE, J x kc nc (oW Y h ad aq e2 z zs ik sz S) (pc + 3) lv (.int (jI r0) :: st)) : J x kc nc (oW Y h ad aq e z zs ik sz S) pc lv (.int (jI w) :: .ref h :: st) := by
  subst hr
  obtain ⟨zb, A, Q, ab, be, al, an, ki, fi, sd⟩ := e
  show J x kc nc (sV Y h (ad 0) (ad 1) (ad 2) (ad 3) (ad 4) (ad 5) ik 0 0 ++ (wZ Y (ad 0) (aq 0) z ++ (wZ Y (ad 1) (aq 1) zb ++ (wZ Y (ad 2) (aq 2) zs ++ (gV Y (ad 3) (ad 6) sz (r4 (A 0) (A 1) (A 2) (A 3)) ++ (wZ Y (A 0) (Q 0) (S 0) ++ (wZ Y (A 1) (Q 1) (S 1) ++ (wZ Y (A 2) (Q 2) (S 2) ++ (wZ Y (A 3) (Q 3) (S 3) ++ (pV Y (ad 4) (aq 3) ab be al ++ (dV Y (ad 5) (ad 7) (fun _ => 0) 0 an ki fi sd))))))))))) pc lv (.int (jI w) :: .ref h :: st)
  refine j_callV (nA := 1) (As := [.int (jI w)]) (st := st) (wc := sV Y h (ad 0) (ad 1) (ad 2) (ad 3) (ad 4) (ad 5) ik 0 0) (wr := wZ Y (ad 0) (aq 0) z ++ (wZ Y (ad 1) (aq 1) zb ++ (wZ Y (ad 2) (aq 2) zs ++ (gV Y (ad 3) (ad 6) sz (r4 (A 0) (A 1) (A 2) (A 3)) ++ (wZ Y (A 0) (Q 0) (S 0) ++ (wZ Y (A 1) (Q 1) (S 1) ++ (wZ Y (A 2) (Q 2) (S 2) ++ (wZ Y (A 3) (Q 3) (S 3) ++ (pV Y (ad 4) (aq 3) ab be al ++ (dV Y (ad 5) (ad 7) (fun _ => 0) 0 an ki fi sd)))))))))) G (c_X4_stopped l D Y h (ad 0) (ad 1) (ad 2) (ad 3) (ad 4) (ad 5) ik 0 0 w h_w (by first | decide | (intro j a b; exact ⟨by decide, by decide⟩) | (intro j a b; decide))) hdg rfl hT rfl rfl rfl (by decide +kernel) hR rfl 0 rfl rfl rfl (jLe.pos [0, 1, 2, 3, 4, 5, 6, 7, 8, 9, 10, 11, 12, 13, 14, 15, 16, 17, 18, 19, 20, 21, 22, 23, 24, 25, 26, 27, 28, 29, 30, 31, 32, 33, 34, 35, 36, 37, 38, 39, 40, 41, 42, 43, 44, 45, 46, 47, 48, 49, 50, 51, 52, 53, 54, 55, 56, 57, 58, 59, 60, 61, 62, 63, 64, 65, 66, 67, 68, 69, 70] rfl rfl) hW hf (fun v_ w_ hp_ => ?_)
  obtain ⟨rfl, rfl⟩ := hp_
  refine j_conv (ws' := sV Y h (ad 0) (ad 1) (ad 2) (ad 3) (ad 4) (ad 5) ik 0 0 ++ (wZ Y (ad 0) (aq 0) z ++ (wZ Y (ad 1) (aq 1) zb ++ (wZ Y (ad 2) (aq 2) zs ++ (gV Y (ad 3) (ad 6) sz (r4 (A 0) (A 1) (A 2) (A 3)) ++ (wZ Y (A 0) (Q 0) (S 0) ++ (wZ Y (A 1) (Q 1) (S 1) ++ (wZ Y (A 2) (Q 2) (S 2) ++ (wZ Y (A 3) (Q 3) (S 3) ++ (pV Y (ad 4) (aq 3) ab be al ++ (dV Y (ad 5) (ad 7) (fun _ => 0) 0 an ki fi sd))))))))))) (jLe.pos [0, 1, 2, 3, 4, 5, 6, 7, 8, 9, 10, 11, 12, 13, 14, 15, 16, 17, 18, 19, 20, 21, 22, 23, 24, 25, 26, 27, 28, 29, 30, 31, 32, 33, 34, 35, 36, 37, 38, 39, 40, 41, 42, 43, 44, 45, 46, 47, 48, 49, 50, 51, 52, 53, 54, 55, 56, 57, 58, 59, 60, 61, 62, 63, 64, 65, 66, 67, 68, 69, 70] rfl rfl) ?_
  exact kk (zb, A, Q, ab, be, al, an, ki, fi, sd)

set_option maxHeartbeats 4000000 in
set_option maxRecDepth 100000 in
theorem jo_undo (G : jG x l D Y cc own Ts nL R0 ret nm)  (hdg : decode cc pc = .ok (.invokevirtual index, 3)) (hT : GoodIn Ts (wsV own index RX4 yX4_undo wsX4_undo)) (hR : 4 ≤ R0.frames ∧ 80 ≤ R0.locals) (hW : (st.map fun v => v.category).sum ≤ 8) (hf : kc ≤ R0.cells ∧ nc ≤ R0.slots) (hsz : 0 ≤ sz ∧ sz ≤ 4) (hS : ∀ i : Int, 0 ≤ i → i < sz → Inv (S i.toNat)) (hr : (if sz = 0 then -5 else sz - 1) = r0) (kk : ∀ e2 : oE, J x kc nc (oW Y h ad aq e2 (hTop sz S z) zs ik (hDn sz) S) (pc + 3) lv (.int (jI r0) :: st)) : J x kc nc (oW Y h ad aq e z zs ik sz S) pc lv (.ref h :: st) := by
  subst hr
  obtain ⟨zb, A, Q, ab, be, al, an, ki, fi, sd⟩ := e
  show J x kc nc (sV Y h (ad 0) (ad 1) (ad 2) (ad 3) (ad 4) (ad 5) ik 0 0 ++ (wZ Y (ad 0) (aq 0) z ++ (wZ Y (ad 1) (aq 1) zb ++ (wZ Y (ad 2) (aq 2) zs ++ (gV Y (ad 3) (ad 6) sz (r4 (A 0) (A 1) (A 2) (A 3)) ++ (wZ Y (A 0) (Q 0) (S 0) ++ (wZ Y (A 1) (Q 1) (S 1) ++ (wZ Y (A 2) (Q 2) (S 2) ++ (wZ Y (A 3) (Q 3) (S 3) ++ (pV Y (ad 4) (aq 3) ab be al ++ (dV Y (ad 5) (ad 7) (fun _ => 0) 0 an ki fi sd))))))))))) pc lv (.ref h :: st)
  refine j_callV (nA := 0) (As := []) (st := st) (wc := sV Y h (ad 0) (ad 1) (ad 2) (ad 3) (ad 4) (ad 5) ik 0 0 ++ (wZ Y (ad 0) (aq 0) z ++ (gV Y (ad 3) (ad 6) sz (r4 (A 0) (A 1) (A 2) (A 3)) ++ (wZ Y (A 0) (Q 0) (S 0) ++ (wZ Y (A 1) (Q 1) (S 1) ++ (wZ Y (A 2) (Q 2) (S 2) ++ (wZ Y (A 3) (Q 3) (S 3)))))))) (wr := wZ Y (ad 1) (aq 1) zb ++ (wZ Y (ad 2) (aq 2) zs ++ (pV Y (ad 4) (aq 3) ab be al ++ (dV Y (ad 5) (ad 7) (fun _ => 0) 0 an ki fi sd)))) G (c_X4_undo l D Y h (ad 0) (ad 1) (ad 2) (ad 3) (ad 4) (ad 5) ik 0 0 (aq 0) z (ad 6) sz A Q S hsz hS) hdg rfl hT rfl rfl rfl (by decide +kernel) hR rfl 0 rfl rfl rfl (jLe.pos [0, 1, 2, 3, 4, 5, 6, 7, 8, 9, 28, 29, 30, 31, 32, 33, 34, 35, 36, 37, 38, 39, 40, 41, 42, 43, 44, 45, 46, 47, 48, 49, 50, 51, 52, 53, 54, 55, 56, 57, 58, 59, 60, 61, 62, 63, 64, 65, 10, 11, 12, 13, 14, 15, 16, 17, 18, 19, 20, 21, 22, 23, 24, 25, 26, 27, 66, 67, 68, 69, 70] rfl rfl) hW hf (fun v_ w_ hp_ => ?_)
  obtain ⟨rfl, rfl⟩ := hp_
  refine j_conv (ws' := sV Y h (ad 0) (ad 1) (ad 2) (ad 3) (ad 4) (ad 5) ik 0 0 ++ (wZ Y (ad 0) (aq 0) (hTop sz S z) ++ (wZ Y (ad 1) (aq 1) zb ++ (wZ Y (ad 2) (aq 2) zs ++ (gV Y (ad 3) (ad 6) (hDn sz) (r4 (A 0) (A 1) (A 2) (A 3)) ++ (wZ Y (A 0) (Q 0) (S 0) ++ (wZ Y (A 1) (Q 1) (S 1) ++ (wZ Y (A 2) (Q 2) (S 2) ++ (wZ Y (A 3) (Q 3) (S 3) ++ (pV Y (ad 4) (aq 3) ab be al ++ (dV Y (ad 5) (ad 7) (fun _ => 0) 0 an ki fi sd))))))))))) (jLe.pos [0, 1, 2, 3, 4, 5, 6, 7, 8, 9, 48, 49, 50, 51, 52, 53, 54, 55, 56, 57, 58, 59, 60, 61, 62, 63, 64, 65, 10, 11, 12, 13, 14, 15, 16, 17, 18, 19, 20, 21, 22, 23, 24, 25, 26, 27, 28, 29, 30, 31, 32, 33, 34, 35, 36, 37, 38, 39, 40, 41, 42, 43, 44, 45, 46, 47, 66, 67, 68, 69, 70] rfl rfl) ?_
  exact kk (zb, A, Q, ab, be, al, an, ki, fi, sd)

set_option maxHeartbeats 4000000 in
set_option maxRecDepth 100000 in
theorem jo_keep (G : jG x l D Y cc own Ts nL R0 ret nm)  (hdg : decode cc pc = .ok (.invokevirtual index, 3)) (hT : GoodIn Ts (wsV own index RX4 yX4_keep wsX4_keep)) (hR : 3 ≤ R0.frames ∧ 59 ≤ R0.locals) (hW : (st.map fun v => v.category).sum ≤ 8) (hf : kc ≤ R0.cells ∧ nc ≤ R0.slots) (hI : Inv z) (hr : (z 3) = r0) (kk : ∀ e2 : oE, J x kc nc (oW Y h ad aq e2 z z 1 sz S) (pc + 3) lv (.int (jI r0) :: st)) : J x kc nc (oW Y h ad aq e z zs ik sz S) pc lv (.ref h :: st) := by
  subst hr
  obtain ⟨zb, A, Q, ab, be, al, an, ki, fi, sd⟩ := e
  show J x kc nc (sV Y h (ad 0) (ad 1) (ad 2) (ad 3) (ad 4) (ad 5) ik 0 0 ++ (wZ Y (ad 0) (aq 0) z ++ (wZ Y (ad 1) (aq 1) zb ++ (wZ Y (ad 2) (aq 2) zs ++ (gV Y (ad 3) (ad 6) sz (r4 (A 0) (A 1) (A 2) (A 3)) ++ (wZ Y (A 0) (Q 0) (S 0) ++ (wZ Y (A 1) (Q 1) (S 1) ++ (wZ Y (A 2) (Q 2) (S 2) ++ (wZ Y (A 3) (Q 3) (S 3) ++ (pV Y (ad 4) (aq 3) ab be al ++ (dV Y (ad 5) (ad 7) (fun _ => 0) 0 an ki fi sd))))))))))) pc lv (.ref h :: st)
  refine j_callV (nA := 0) (As := []) (st := st) (wc := sV Y h (ad 0) (ad 1) (ad 2) (ad 3) (ad 4) (ad 5) ik 0 0 ++ (wZ Y (ad 0) (aq 0) z ++ (wZ Y (ad 2) (aq 2) zs))) (wr := wZ Y (ad 1) (aq 1) zb ++ (gV Y (ad 3) (ad 6) sz (r4 (A 0) (A 1) (A 2) (A 3)) ++ (wZ Y (A 0) (Q 0) (S 0) ++ (wZ Y (A 1) (Q 1) (S 1) ++ (wZ Y (A 2) (Q 2) (S 2) ++ (wZ Y (A 3) (Q 3) (S 3) ++ (pV Y (ad 4) (aq 3) ab be al ++ (dV Y (ad 5) (ad 7) (fun _ => 0) 0 an ki fi sd)))))))) G (c_X4_keep l D Y h (ad 0) (ad 1) (ad 2) (ad 3) (ad 4) (ad 5) ik 0 0 (aq 0) z (aq 2) zs hI) hdg rfl hT rfl rfl rfl (by decide +kernel) hR rfl 0 rfl rfl rfl (jLe.pos [0, 1, 2, 3, 4, 5, 6, 7, 8, 9, 19, 20, 21, 22, 23, 24, 25, 26, 27, 10, 11, 12, 13, 14, 15, 16, 17, 18, 28, 29, 30, 31, 32, 33, 34, 35, 36, 37, 38, 39, 40, 41, 42, 43, 44, 45, 46, 47, 48, 49, 50, 51, 52, 53, 54, 55, 56, 57, 58, 59, 60, 61, 62, 63, 64, 65, 66, 67, 68, 69, 70] rfl rfl) hW hf (fun v_ w_ hp_ => ?_)
  obtain ⟨rfl, rfl⟩ := hp_
  refine j_conv (ws' := sV Y h (ad 0) (ad 1) (ad 2) (ad 3) (ad 4) (ad 5) 1 0 0 ++ (wZ Y (ad 0) (aq 0) z ++ (wZ Y (ad 1) (aq 1) zb ++ (wZ Y (ad 2) (aq 2) z ++ (gV Y (ad 3) (ad 6) sz (r4 (A 0) (A 1) (A 2) (A 3)) ++ (wZ Y (A 0) (Q 0) (S 0) ++ (wZ Y (A 1) (Q 1) (S 1) ++ (wZ Y (A 2) (Q 2) (S 2) ++ (wZ Y (A 3) (Q 3) (S 3) ++ (pV Y (ad 4) (aq 3) ab be al ++ (dV Y (ad 5) (ad 7) (fun _ => 0) 0 an ki fi sd))))))))))) (jLe.pos [0, 1, 2, 3, 4, 5, 6, 7, 8, 9, 19, 20, 21, 22, 23, 24, 25, 26, 27, 10, 11, 12, 13, 14, 15, 16, 17, 18, 28, 29, 30, 31, 32, 33, 34, 35, 36, 37, 38, 39, 40, 41, 42, 43, 44, 45, 46, 47, 48, 49, 50, 51, 52, 53, 54, 55, 56, 57, 58, 59, 60, 61, 62, 63, 64, 65, 66, 67, 68, 69, 70] rfl rfl) ?_
  exact kk (zb, A, Q, ab, be, al, an, ki, fi, sd)

set_option maxHeartbeats 4000000 in
set_option maxRecDepth 100000 in
theorem jo_restore (G : jG x l D Y cc own Ts nL R0 ret nm)  (hdg : decode cc pc = .ok (.invokevirtual index, 3)) (hT : GoodIn Ts (wsV own index RX4 yX4_restore wsX4_restore)) (hR : 5 ≤ R0.frames ∧ 101 ≤ R0.locals) (hW : (st.map fun v => v.category).sum ≤ 8) (hf : kc ≤ R0.cells ∧ nc ≤ R0.slots) (hI : Inv z) (hsz : 0 ≤ sz ∧ sz ≤ 4) (hik : ik = 0 ∨ ik = 1) (hIs : ¬ ik = 0 → Inv zs) (hr : (if ik = 0 then -5 else zs 3) = r0) (kk : ∀ e2 : oE, J x kc nc (oW Y h ad aq e2 (if ik = 0 then z else zs) zs ik (hSz (if ik = 0 then -5 else zs 3) sz) (hSt (if ik = 0 then -5 else zs 3) sz S z)) (pc + 3) lv (.int (jI r0) :: st)) : J x kc nc (oW Y h ad aq e z zs ik sz S) pc lv (.ref h :: st) := by
  subst hr
  obtain ⟨zb, A, Q, ab, be, al, an, ki, fi, sd⟩ := e
  show J x kc nc (sV Y h (ad 0) (ad 1) (ad 2) (ad 3) (ad 4) (ad 5) ik 0 0 ++ (wZ Y (ad 0) (aq 0) z ++ (wZ Y (ad 1) (aq 1) zb ++ (wZ Y (ad 2) (aq 2) zs ++ (gV Y (ad 3) (ad 6) sz (r4 (A 0) (A 1) (A 2) (A 3)) ++ (wZ Y (A 0) (Q 0) (S 0) ++ (wZ Y (A 1) (Q 1) (S 1) ++ (wZ Y (A 2) (Q 2) (S 2) ++ (wZ Y (A 3) (Q 3) (S 3) ++ (pV Y (ad 4) (aq 3) ab be al ++ (dV Y (ad 5) (ad 7) (fun _ => 0) 0 an ki fi sd))))))))))) pc lv (.ref h :: st)
  refine j_callV (nA := 0) (As := []) (st := st) (wc := sV Y h (ad 0) (ad 1) (ad 2) (ad 3) (ad 4) (ad 5) ik 0 0 ++ (wZ Y (ad 0) (aq 0) z ++ (wZ Y (ad 1) (aq 1) zb ++ (wZ Y (ad 2) (aq 2) zs ++ (gV Y (ad 3) (ad 6) sz (r4 (A 0) (A 1) (A 2) (A 3)) ++ (wZ Y (A 0) (Q 0) (S 0) ++ (wZ Y (A 1) (Q 1) (S 1) ++ (wZ Y (A 2) (Q 2) (S 2) ++ (wZ Y (A 3) (Q 3) (S 3)))))))))) (wr := pV Y (ad 4) (aq 3) ab be al ++ (dV Y (ad 5) (ad 7) (fun _ => 0) 0 an ki fi sd)) G (c_X4_restore l D Y h (ad 0) (ad 1) (ad 2) (ad 3) (ad 4) (ad 5) ik 0 0 (aq 0) z (aq 1) zb (aq 2) zs (ad 6) sz A Q S hI hsz hik hIs) hdg rfl hT rfl rfl rfl (by decide +kernel) hR rfl 0 rfl rfl rfl (jLe.pos [0, 1, 2, 3, 4, 5, 6, 7, 8, 9, 10, 11, 12, 13, 14, 15, 16, 17, 18, 19, 20, 21, 22, 23, 24, 25, 26, 27, 28, 29, 30, 31, 32, 33, 34, 35, 36, 37, 38, 39, 40, 41, 42, 43, 44, 45, 46, 47, 48, 49, 50, 51, 52, 53, 54, 55, 56, 57, 58, 59, 60, 61, 62, 63, 64, 65, 66, 67, 68, 69, 70] rfl rfl) hW hf (fun v_ w_ hp_ => ?_)
  obtain ⟨A2, Q2, rfl, rfl⟩ := hp_
  refine j_conv (ws' := sV Y h (ad 0) (ad 1) (ad 2) (ad 3) (ad 4) (ad 5) ik 0 0 ++ (wZ Y (ad 0) (aq 0) (if ik = 0 then z else zs) ++ (wZ Y (ad 1) (aq 1) (if ik = 0 then zb else z) ++ (wZ Y (ad 2) (aq 2) zs ++ (gV Y (ad 3) (ad 6) (hSz (if ik = 0 then -5 else zs 3) sz) (r4 (A2 0) (A2 1) (A2 2) (A2 3)) ++ (wZ Y (A2 0) (Q2 0) (hSt (if ik = 0 then -5 else zs 3) sz S z 0) ++ (wZ Y (A2 1) (Q2 1) (hSt (if ik = 0 then -5 else zs 3) sz S z 1) ++ (wZ Y (A2 2) (Q2 2) (hSt (if ik = 0 then -5 else zs 3) sz S z 2) ++ (wZ Y (A2 3) (Q2 3) (hSt (if ik = 0 then -5 else zs 3) sz S z 3) ++ (pV Y (ad 4) (aq 3) ab be al ++ (dV Y (ad 5) (ad 7) (fun _ => 0) 0 an ki fi sd))))))))))) (jLe.pos [0, 1, 2, 3, 4, 5, 6, 7, 8, 9, 10, 11, 12, 13, 14, 15, 16, 17, 18, 19, 20, 21, 22, 23, 24, 25, 26, 27, 28, 29, 30, 31, 32, 33, 34, 35, 36, 37, 38, 39, 40, 41, 42, 43, 44, 45, 46, 47, 48, 49, 50, 51, 52, 53, 54, 55, 56, 57, 58, 59, 60, 61, 62, 63, 64, 65, 66, 67, 68, 69, 70] rfl rfl) ?_
  exact kk (if ik = 0 then zb else z, A2, Q2, ab, be, al, an, ki, fi, sd)

set_option maxHeartbeats 4000000 in
set_option maxRecDepth 100000 in
theorem jo_plot (G : jG x l D Y cc own Ts nL R0 ret nm) {p : Int} {w : Int} (hdg : decode cc pc = .ok (.invokevirtual index, 3)) (hT : GoodIn Ts (wsV own index RX4 yX4_plot wsX4_plot)) (hR : 5 ≤ R0.frames ∧ 114 ≤ R0.locals) (hW : (st.map fun v => v.category).sum ≤ 8) (hf : kc ≤ R0.cells ∧ nc ≤ R0.slots) (hI : Inv z) (h_p : -2147483648 ≤ p ∧ p < 2147483648) (h_w : -2147483648 ≤ w ∧ w < 2147483648) (hr : (F_plot z p w) = r0) (kk : ∀ e2 : oE, J x kc nc (oW Y h ad aq e2 z zs ik sz S) (pc + 3) lv (.int (jI r0) :: st)) : J x kc nc (oW Y h ad aq e z zs ik sz S) pc lv (.int (jI w) :: .int (jI p) :: .ref h :: st) := by
  subst hr
  obtain ⟨zb, A, Q, ab, be, al, an, ki, fi, sd⟩ := e
  show J x kc nc (sV Y h (ad 0) (ad 1) (ad 2) (ad 3) (ad 4) (ad 5) ik 0 0 ++ (wZ Y (ad 0) (aq 0) z ++ (wZ Y (ad 1) (aq 1) zb ++ (wZ Y (ad 2) (aq 2) zs ++ (gV Y (ad 3) (ad 6) sz (r4 (A 0) (A 1) (A 2) (A 3)) ++ (wZ Y (A 0) (Q 0) (S 0) ++ (wZ Y (A 1) (Q 1) (S 1) ++ (wZ Y (A 2) (Q 2) (S 2) ++ (wZ Y (A 3) (Q 3) (S 3) ++ (pV Y (ad 4) (aq 3) ab be al ++ (dV Y (ad 5) (ad 7) (fun _ => 0) 0 an ki fi sd))))))))))) pc lv (.int (jI w) :: .int (jI p) :: .ref h :: st)
  refine j_callV (nA := 2) (As := [.int (jI p), .int (jI w)]) (st := st) (wc := sV Y h (ad 0) (ad 1) (ad 2) (ad 3) (ad 4) (ad 5) ik 0 0 ++ (wZ Y (ad 0) (aq 0) z ++ (pV Y (ad 4) (aq 3) ab be al))) (wr := wZ Y (ad 1) (aq 1) zb ++ (wZ Y (ad 2) (aq 2) zs ++ (gV Y (ad 3) (ad 6) sz (r4 (A 0) (A 1) (A 2) (A 3)) ++ (wZ Y (A 0) (Q 0) (S 0) ++ (wZ Y (A 1) (Q 1) (S 1) ++ (wZ Y (A 2) (Q 2) (S 2) ++ (wZ Y (A 3) (Q 3) (S 3) ++ (dV Y (ad 5) (ad 7) (fun _ => 0) 0 an ki fi sd)))))))) G (c_X4_plot l D Y h (ad 0) (ad 1) (ad 2) (ad 3) (ad 4) (ad 5) ik 0 0 (aq 0) z (aq 3) ab be al p w hI h_p h_w) hdg rfl hT rfl rfl rfl (by decide +kernel) hR rfl 0 rfl rfl rfl (jLe.pos [0, 1, 2, 3, 4, 5, 6, 7, 8, 9, 66, 67, 68, 10, 11, 12, 13, 14, 15, 16, 17, 18, 19, 20, 21, 22, 23, 24, 25, 26, 27, 28, 29, 30, 31, 32, 33, 34, 35, 36, 37, 38, 39, 40, 41, 42, 43, 44, 45, 46, 47, 48, 49, 50, 51, 52, 53, 54, 55, 56, 57, 58, 59, 60, 61, 62, 63, 64, 65, 69, 70] rfl rfl) hW hf (fun v_ w_ hp_ => ?_)
  obtain ⟨ab2, be2, al2, rfl, rfl⟩ := hp_
  refine j_conv (ws' := sV Y h (ad 0) (ad 1) (ad 2) (ad 3) (ad 4) (ad 5) ik 0 0 ++ (wZ Y (ad 0) (aq 0) z ++ (wZ Y (ad 1) (aq 1) zb ++ (wZ Y (ad 2) (aq 2) zs ++ (gV Y (ad 3) (ad 6) sz (r4 (A 0) (A 1) (A 2) (A 3)) ++ (wZ Y (A 0) (Q 0) (S 0) ++ (wZ Y (A 1) (Q 1) (S 1) ++ (wZ Y (A 2) (Q 2) (S 2) ++ (wZ Y (A 3) (Q 3) (S 3) ++ (pV Y (ad 4) (aq 3) ab2 be2 al2 ++ (dV Y (ad 5) (ad 7) (fun _ => 0) 0 an ki fi sd))))))))))) (jLe.pos [0, 1, 2, 3, 4, 5, 6, 7, 8, 9, 13, 14, 15, 16, 17, 18, 19, 20, 21, 22, 23, 24, 25, 26, 27, 28, 29, 30, 31, 32, 33, 34, 35, 36, 37, 38, 39, 40, 41, 42, 43, 44, 45, 46, 47, 48, 49, 50, 51, 52, 53, 54, 55, 56, 57, 58, 59, 60, 61, 62, 63, 64, 65, 66, 67, 68, 10, 11, 12, 69, 70] rfl rfl) ?_
  exact kk (zb, A, Q, ab2, be2, al2, an, ki, fi, sd)

set_option maxHeartbeats 4000000 in
set_option maxRecDepth 100000 in
theorem jo_crew (G : jG x l D Y cc own Ts nL R0 ret nm) {k : Int} {w : Int} (hdg : decode cc pc = .ok (.invokevirtual index, 3)) (hT : GoodIn Ts (wsV own index RX4 yX4_crew wsX4_crew)) (hR : 2 ≤ R0.frames ∧ 44 ≤ R0.locals) (hW : (st.map fun v => v.category).sum ≤ 8) (hf : kc ≤ R0.cells ∧ nc ≤ R0.slots) (hI : Inv z) (h_k : -2147483648 ≤ k ∧ k < 2147483648) (h_w : -2147483648 ≤ w ∧ w < 2147483648) (hr : (F_crew z k w) = r0) (kk : ∀ e2 : oE, J x kc nc (oW Y h ad aq e2 z zs ik sz S) (pc + 3) lv (.int (jI r0) :: st)) : J x kc nc (oW Y h ad aq e z zs ik sz S) pc lv (.int (jI w) :: .int (jI k) :: .ref h :: st) := by
  subst hr
  obtain ⟨zb, A, Q, ab, be, al, an, ki, fi, sd⟩ := e
  show J x kc nc (sV Y h (ad 0) (ad 1) (ad 2) (ad 3) (ad 4) (ad 5) ik 0 0 ++ (wZ Y (ad 0) (aq 0) z ++ (wZ Y (ad 1) (aq 1) zb ++ (wZ Y (ad 2) (aq 2) zs ++ (gV Y (ad 3) (ad 6) sz (r4 (A 0) (A 1) (A 2) (A 3)) ++ (wZ Y (A 0) (Q 0) (S 0) ++ (wZ Y (A 1) (Q 1) (S 1) ++ (wZ Y (A 2) (Q 2) (S 2) ++ (wZ Y (A 3) (Q 3) (S 3) ++ (pV Y (ad 4) (aq 3) ab be al ++ (dV Y (ad 5) (ad 7) (fun _ => 0) 0 an ki fi sd))))))))))) pc lv (.int (jI w) :: .int (jI k) :: .ref h :: st)
  refine j_callV (nA := 2) (As := [.int (jI k), .int (jI w)]) (st := st) (wc := sV Y h (ad 0) (ad 1) (ad 2) (ad 3) (ad 4) (ad 5) ik 0 0 ++ (wZ Y (ad 0) (aq 0) z)) (wr := wZ Y (ad 1) (aq 1) zb ++ (wZ Y (ad 2) (aq 2) zs ++ (gV Y (ad 3) (ad 6) sz (r4 (A 0) (A 1) (A 2) (A 3)) ++ (wZ Y (A 0) (Q 0) (S 0) ++ (wZ Y (A 1) (Q 1) (S 1) ++ (wZ Y (A 2) (Q 2) (S 2) ++ (wZ Y (A 3) (Q 3) (S 3) ++ (pV Y (ad 4) (aq 3) ab be al ++ (dV Y (ad 5) (ad 7) (fun _ => 0) 0 an ki fi sd))))))))) G (c_X4_crew l D Y h (ad 0) (ad 1) (ad 2) (ad 3) (ad 4) (ad 5) ik 0 0 (aq 0) z k w hI h_k h_w) hdg rfl hT rfl rfl rfl (by decide +kernel) hR rfl 0 rfl rfl rfl (jLe.pos [0, 1, 2, 3, 4, 5, 6, 7, 8, 9, 10, 11, 12, 13, 14, 15, 16, 17, 18, 19, 20, 21, 22, 23, 24, 25, 26, 27, 28, 29, 30, 31, 32, 33, 34, 35, 36, 37, 38, 39, 40, 41, 42, 43, 44, 45, 46, 47, 48, 49, 50, 51, 52, 53, 54, 55, 56, 57, 58, 59, 60, 61, 62, 63, 64, 65, 66, 67, 68, 69, 70] rfl rfl) hW hf (fun v_ w_ hp_ => ?_)
  obtain ⟨rfl, rfl⟩ := hp_
  refine j_conv (ws' := sV Y h (ad 0) (ad 1) (ad 2) (ad 3) (ad 4) (ad 5) ik 0 0 ++ (wZ Y (ad 0) (aq 0) z ++ (wZ Y (ad 1) (aq 1) zb ++ (wZ Y (ad 2) (aq 2) zs ++ (gV Y (ad 3) (ad 6) sz (r4 (A 0) (A 1) (A 2) (A 3)) ++ (wZ Y (A 0) (Q 0) (S 0) ++ (wZ Y (A 1) (Q 1) (S 1) ++ (wZ Y (A 2) (Q 2) (S 2) ++ (wZ Y (A 3) (Q 3) (S 3) ++ (pV Y (ad 4) (aq 3) ab be al ++ (dV Y (ad 5) (ad 7) (fun _ => 0) 0 an ki fi sd))))))))))) (jLe.pos [0, 1, 2, 3, 4, 5, 6, 7, 8, 9, 10, 11, 12, 13, 14, 15, 16, 17, 18, 19, 20, 21, 22, 23, 24, 25, 26, 27, 28, 29, 30, 31, 32, 33, 34, 35, 36, 37, 38, 39, 40, 41, 42, 43, 44, 45, 46, 47, 48, 49, 50, 51, 52, 53, 54, 55, 56, 57, 58, 59, 60, 61, 62, 63, 64, 65, 66, 67, 68, 69, 70] rfl rfl) ?_
  exact kk (zb, A, Q, ab, be, al, an, ki, fi, sd)

set_option maxHeartbeats 4000000 in
set_option maxRecDepth 100000 in
theorem jo_row (G : jG x l D Y cc own Ts nL R0 ret nm) {r : Int} {w : Int} (hdg : decode cc pc = .ok (.invokevirtual index, 3)) (hT : GoodIn Ts (wsV own index RX4 yX4_row wsX4_row)) (hR : 4 ≤ R0.frames ∧ 86 ≤ R0.locals) (hW : (st.map fun v => v.category).sum ≤ 8) (hf : kc ≤ R0.cells ∧ nc ≤ R0.slots) (hI : Inv z) (h_r : -2147483648 ≤ r ∧ r < 2147483648) (h_w : -2147483648 ≤ w ∧ w < 2147483648) (hr : (F_row z r w) = r0) (kk : ∀ e2 : oE, J x kc nc (oW Y h ad aq e2 z zs ik sz S) (pc + 3) lv (.int (jI r0) :: st)) : J x kc nc (oW Y h ad aq e z zs ik sz S) pc lv (.int (jI w) :: .int (jI r) :: .ref h :: st) := by
  subst hr
  obtain ⟨zb, A, Q, ab, be, al, an, ki, fi, sd⟩ := e
  show J x kc nc (sV Y h (ad 0) (ad 1) (ad 2) (ad 3) (ad 4) (ad 5) ik 0 0 ++ (wZ Y (ad 0) (aq 0) z ++ (wZ Y (ad 1) (aq 1) zb ++ (wZ Y (ad 2) (aq 2) zs ++ (gV Y (ad 3) (ad 6) sz (r4 (A 0) (A 1) (A 2) (A 3)) ++ (wZ Y (A 0) (Q 0) (S 0) ++ (wZ Y (A 1) (Q 1) (S 1) ++ (wZ Y (A 2) (Q 2) (S 2) ++ (wZ Y (A 3) (Q 3) (S 3) ++ (pV Y (ad 4) (aq 3) ab be al ++ (dV Y (ad 5) (ad 7) (fun _ => 0) 0 an ki fi sd))))))))))) pc lv (.int (jI w) :: .int (jI r) :: .ref h :: st)
  refine j_callV (nA := 2) (As := [.int (jI r), .int (jI w)]) (st := st) (wc := sV Y h (ad 0) (ad 1) (ad 2) (ad 3) (ad 4) (ad 5) ik 0 0 ++ (wZ Y (ad 0) (aq 0) z ++ (pV Y (ad 4) (aq 3) ab be al))) (wr := wZ Y (ad 1) (aq 1) zb ++ (wZ Y (ad 2) (aq 2) zs ++ (gV Y (ad 3) (ad 6) sz (r4 (A 0) (A 1) (A 2) (A 3)) ++ (wZ Y (A 0) (Q 0) (S 0) ++ (wZ Y (A 1) (Q 1) (S 1) ++ (wZ Y (A 2) (Q 2) (S 2) ++ (wZ Y (A 3) (Q 3) (S 3) ++ (dV Y (ad 5) (ad 7) (fun _ => 0) 0 an ki fi sd)))))))) G (c_X4_row l D Y h (ad 0) (ad 1) (ad 2) (ad 3) (ad 4) (ad 5) ik 0 0 (aq 0) z (aq 3) ab be al r w hI h_r h_w) hdg rfl hT rfl rfl rfl (by decide +kernel) hR rfl 0 rfl rfl rfl (jLe.pos [0, 1, 2, 3, 4, 5, 6, 7, 8, 9, 66, 67, 68, 10, 11, 12, 13, 14, 15, 16, 17, 18, 19, 20, 21, 22, 23, 24, 25, 26, 27, 28, 29, 30, 31, 32, 33, 34, 35, 36, 37, 38, 39, 40, 41, 42, 43, 44, 45, 46, 47, 48, 49, 50, 51, 52, 53, 54, 55, 56, 57, 58, 59, 60, 61, 62, 63, 64, 65, 69, 70] rfl rfl) hW hf (fun v_ w_ hp_ => ?_)
  obtain ⟨ab2, be2, al2, rfl, rfl⟩ := hp_
  refine j_conv (ws' := sV Y h (ad 0) (ad 1) (ad 2) (ad 3) (ad 4) (ad 5) ik 0 0 ++ (wZ Y (ad 0) (aq 0) z ++ (wZ Y (ad 1) (aq 1) zb ++ (wZ Y (ad 2) (aq 2) zs ++ (gV Y (ad 3) (ad 6) sz (r4 (A 0) (A 1) (A 2) (A 3)) ++ (wZ Y (A 0) (Q 0) (S 0) ++ (wZ Y (A 1) (Q 1) (S 1) ++ (wZ Y (A 2) (Q 2) (S 2) ++ (wZ Y (A 3) (Q 3) (S 3) ++ (pV Y (ad 4) (aq 3) ab2 be2 al2 ++ (dV Y (ad 5) (ad 7) (fun _ => 0) 0 an ki fi sd))))))))))) (jLe.pos [0, 1, 2, 3, 4, 5, 6, 7, 8, 9, 13, 14, 15, 16, 17, 18, 19, 20, 21, 22, 23, 24, 25, 26, 27, 28, 29, 30, 31, 32, 33, 34, 35, 36, 37, 38, 39, 40, 41, 42, 43, 44, 45, 46, 47, 48, 49, 50, 51, 52, 53, 54, 55, 56, 57, 58, 59, 60, 61, 62, 63, 64, 65, 66, 67, 68, 10, 11, 12, 69, 70] rfl rfl) ?_
  exact kk (zb, A, Q, ab2, be2, al2, an, ki, fi, sd)

set_option maxHeartbeats 4000000 in
set_option maxRecDepth 100000 in
theorem jo_way (G : jG x l D Y cc own Ts nL R0 ret nm) {k : Int} {p : Int} (hdg : decode cc pc = .ok (.invokevirtual index, 3)) (hT : GoodIn Ts (wsV own index RX4 yX4_way wsX4_way)) (hR : 3 ≤ R0.frames ∧ 60 ≤ R0.locals) (hW : (st.map fun v => v.category).sum ≤ 8) (hf : kc ≤ R0.cells ∧ nc ≤ R0.slots) (hI : Inv z) (h_k : -2147483648 ≤ k ∧ k < 2147483648) (h_p : -2147483648 ≤ p ∧ p < 2147483648) (hr : (F_way z k p) = r0) (kk : ∀ e2 : oE, J x kc nc (oW Y h ad aq e2 z zs ik sz S) (pc + 3) lv (.int (jI r0) :: st)) : J x kc nc (oW Y h ad aq e z zs ik sz S) pc lv (.int (jI p) :: .int (jI k) :: .ref h :: st) := by
  subst hr
  obtain ⟨zb, A, Q, ab, be, al, an, ki, fi, sd⟩ := e
  show J x kc nc (sV Y h (ad 0) (ad 1) (ad 2) (ad 3) (ad 4) (ad 5) ik 0 0 ++ (wZ Y (ad 0) (aq 0) z ++ (wZ Y (ad 1) (aq 1) zb ++ (wZ Y (ad 2) (aq 2) zs ++ (gV Y (ad 3) (ad 6) sz (r4 (A 0) (A 1) (A 2) (A 3)) ++ (wZ Y (A 0) (Q 0) (S 0) ++ (wZ Y (A 1) (Q 1) (S 1) ++ (wZ Y (A 2) (Q 2) (S 2) ++ (wZ Y (A 3) (Q 3) (S 3) ++ (pV Y (ad 4) (aq 3) ab be al ++ (dV Y (ad 5) (ad 7) (fun _ => 0) 0 an ki fi sd))))))))))) pc lv (.int (jI p) :: .int (jI k) :: .ref h :: st)
  refine j_callV (nA := 2) (As := [.int (jI k), .int (jI p)]) (st := st) (wc := sV Y h (ad 0) (ad 1) (ad 2) (ad 3) (ad 4) (ad 5) ik 0 0 ++ (wZ Y (ad 0) (aq 0) z)) (wr := wZ Y (ad 1) (aq 1) zb ++ (wZ Y (ad 2) (aq 2) zs ++ (gV Y (ad 3) (ad 6) sz (r4 (A 0) (A 1) (A 2) (A 3)) ++ (wZ Y (A 0) (Q 0) (S 0) ++ (wZ Y (A 1) (Q 1) (S 1) ++ (wZ Y (A 2) (Q 2) (S 2) ++ (wZ Y (A 3) (Q 3) (S 3) ++ (pV Y (ad 4) (aq 3) ab be al ++ (dV Y (ad 5) (ad 7) (fun _ => 0) 0 an ki fi sd))))))))) G (c_X4_way l D Y h (ad 0) (ad 1) (ad 2) (ad 3) (ad 4) (ad 5) ik 0 0 (aq 0) z k p hI h_k h_p) hdg rfl hT rfl rfl rfl (by decide +kernel) hR rfl 0 rfl rfl rfl (jLe.pos [0, 1, 2, 3, 4, 5, 6, 7, 8, 9, 10, 11, 12, 13, 14, 15, 16, 17, 18, 19, 20, 21, 22, 23, 24, 25, 26, 27, 28, 29, 30, 31, 32, 33, 34, 35, 36, 37, 38, 39, 40, 41, 42, 43, 44, 45, 46, 47, 48, 49, 50, 51, 52, 53, 54, 55, 56, 57, 58, 59, 60, 61, 62, 63, 64, 65, 66, 67, 68, 69, 70] rfl rfl) hW hf (fun v_ w_ hp_ => ?_)
  obtain ⟨rfl, rfl⟩ := hp_
  refine j_conv (ws' := sV Y h (ad 0) (ad 1) (ad 2) (ad 3) (ad 4) (ad 5) ik 0 0 ++ (wZ Y (ad 0) (aq 0) z ++ (wZ Y (ad 1) (aq 1) zb ++ (wZ Y (ad 2) (aq 2) zs ++ (gV Y (ad 3) (ad 6) sz (r4 (A 0) (A 1) (A 2) (A 3)) ++ (wZ Y (A 0) (Q 0) (S 0) ++ (wZ Y (A 1) (Q 1) (S 1) ++ (wZ Y (A 2) (Q 2) (S 2) ++ (wZ Y (A 3) (Q 3) (S 3) ++ (pV Y (ad 4) (aq 3) ab be al ++ (dV Y (ad 5) (ad 7) (fun _ => 0) 0 an ki fi sd))))))))))) (jLe.pos [0, 1, 2, 3, 4, 5, 6, 7, 8, 9, 10, 11, 12, 13, 14, 15, 16, 17, 18, 19, 20, 21, 22, 23, 24, 25, 26, 27, 28, 29, 30, 31, 32, 33, 34, 35, 36, 37, 38, 39, 40, 41, 42, 43, 44, 45, 46, 47, 48, 49, 50, 51, 52, 53, 54, 55, 56, 57, 58, 59, 60, 61, 62, 63, 64, 65, 66, 67, 68, 69, 70] rfl rfl) ?_
  exact kk (zb, A, Q, ab, be, al, an, ki, fi, sd)

set_option maxHeartbeats 4000000 in
set_option maxRecDepth 100000 in
theorem jo_reason (G : jG x l D Y cc own Ts nL R0 ret nm) {k : Int} {p : Int} (hdg : decode cc pc = .ok (.invokevirtual index, 3)) (hT : GoodIn Ts (wsV own index RX4 yX4_reason wsX4_reason)) (hR : 4 ≤ R0.frames ∧ 83 ≤ R0.locals) (hW : (st.map fun v => v.category).sum ≤ 8) (hf : kc ≤ R0.cells ∧ nc ≤ R0.slots) (hI : Inv z) (h_k : -2147483648 ≤ k ∧ k < 2147483648) (h_p : -2147483648 ≤ p ∧ p < 2147483648) (hr : (F_reason z k p) = r0) (kk : ∀ e2 : oE, J x kc nc (oW Y h ad aq e2 z zs ik sz S) (pc + 3) lv (.int (jI r0) :: st)) : J x kc nc (oW Y h ad aq e z zs ik sz S) pc lv (.int (jI p) :: .int (jI k) :: .ref h :: st) := by
  subst hr
  obtain ⟨zb, A, Q, ab, be, al, an, ki, fi, sd⟩ := e
  show J x kc nc (sV Y h (ad 0) (ad 1) (ad 2) (ad 3) (ad 4) (ad 5) ik 0 0 ++ (wZ Y (ad 0) (aq 0) z ++ (wZ Y (ad 1) (aq 1) zb ++ (wZ Y (ad 2) (aq 2) zs ++ (gV Y (ad 3) (ad 6) sz (r4 (A 0) (A 1) (A 2) (A 3)) ++ (wZ Y (A 0) (Q 0) (S 0) ++ (wZ Y (A 1) (Q 1) (S 1) ++ (wZ Y (A 2) (Q 2) (S 2) ++ (wZ Y (A 3) (Q 3) (S 3) ++ (pV Y (ad 4) (aq 3) ab be al ++ (dV Y (ad 5) (ad 7) (fun _ => 0) 0 an ki fi sd))))))))))) pc lv (.int (jI p) :: .int (jI k) :: .ref h :: st)
  refine j_callV (nA := 2) (As := [.int (jI k), .int (jI p)]) (st := st) (wc := sV Y h (ad 0) (ad 1) (ad 2) (ad 3) (ad 4) (ad 5) ik 0 0 ++ (wZ Y (ad 0) (aq 0) z)) (wr := wZ Y (ad 1) (aq 1) zb ++ (wZ Y (ad 2) (aq 2) zs ++ (gV Y (ad 3) (ad 6) sz (r4 (A 0) (A 1) (A 2) (A 3)) ++ (wZ Y (A 0) (Q 0) (S 0) ++ (wZ Y (A 1) (Q 1) (S 1) ++ (wZ Y (A 2) (Q 2) (S 2) ++ (wZ Y (A 3) (Q 3) (S 3) ++ (pV Y (ad 4) (aq 3) ab be al ++ (dV Y (ad 5) (ad 7) (fun _ => 0) 0 an ki fi sd))))))))) G (c_X4_reason l D Y h (ad 0) (ad 1) (ad 2) (ad 3) (ad 4) (ad 5) ik 0 0 (aq 0) z k p hI h_k h_p) hdg rfl hT rfl rfl rfl (by decide +kernel) hR rfl 0 rfl rfl rfl (jLe.pos [0, 1, 2, 3, 4, 5, 6, 7, 8, 9, 10, 11, 12, 13, 14, 15, 16, 17, 18, 19, 20, 21, 22, 23, 24, 25, 26, 27, 28, 29, 30, 31, 32, 33, 34, 35, 36, 37, 38, 39, 40, 41, 42, 43, 44, 45, 46, 47, 48, 49, 50, 51, 52, 53, 54, 55, 56, 57, 58, 59, 60, 61, 62, 63, 64, 65, 66, 67, 68, 69, 70] rfl rfl) hW hf (fun v_ w_ hp_ => ?_)
  obtain ⟨rfl, rfl⟩ := hp_
  refine j_conv (ws' := sV Y h (ad 0) (ad 1) (ad 2) (ad 3) (ad 4) (ad 5) ik 0 0 ++ (wZ Y (ad 0) (aq 0) z ++ (wZ Y (ad 1) (aq 1) zb ++ (wZ Y (ad 2) (aq 2) zs ++ (gV Y (ad 3) (ad 6) sz (r4 (A 0) (A 1) (A 2) (A 3)) ++ (wZ Y (A 0) (Q 0) (S 0) ++ (wZ Y (A 1) (Q 1) (S 1) ++ (wZ Y (A 2) (Q 2) (S 2) ++ (wZ Y (A 3) (Q 3) (S 3) ++ (pV Y (ad 4) (aq 3) ab be al ++ (dV Y (ad 5) (ad 7) (fun _ => 0) 0 an ki fi sd))))))))))) (jLe.pos [0, 1, 2, 3, 4, 5, 6, 7, 8, 9, 10, 11, 12, 13, 14, 15, 16, 17, 18, 19, 20, 21, 22, 23, 24, 25, 26, 27, 28, 29, 30, 31, 32, 33, 34, 35, 36, 37, 38, 39, 40, 41, 42, 43, 44, 45, 46, 47, 48, 49, 50, 51, 52, 53, 54, 55, 56, 57, 58, 59, 60, 61, 62, 63, 64, 65, 66, 67, 68, 69, 70] rfl rfl) ?_
  exact kk (zb, A, Q, ab, be, al, an, ki, fi, sd)

set_option maxHeartbeats 4000000 in
set_option maxRecDepth 100000 in
theorem jo_best (G : jG x l D Y cc own Ts nL R0 ret nm) {k : Int} (hdg : decode cc pc = .ok (.invokevirtual index, 3)) (hT : GoodIn Ts (wsV own index RX4 yX4_best wsX4_best)) (hR : 7 ≤ R0.frames ∧ 162 ≤ R0.locals) (hW : (st.map fun v => v.category).sum ≤ 8) (hf : kc ≤ R0.cells ∧ nc ≤ R0.slots) (hI : Inv z) (h_k : -2147483648 ≤ k ∧ k < 2147483648) (hr : (F_best z k) = r0) (kk : ∀ e2 : oE, J x kc nc (oW Y h ad aq e2 z zs ik sz S) (pc + 3) lv (.int (jI r0) :: st)) : J x kc nc (oW Y h ad aq e z zs ik sz S) pc lv (.int (jI k) :: .ref h :: st) := by
  subst hr
  obtain ⟨zb, A, Q, ab, be, al, an, ki, fi, sd⟩ := e
  show J x kc nc (sV Y h (ad 0) (ad 1) (ad 2) (ad 3) (ad 4) (ad 5) ik 0 0 ++ (wZ Y (ad 0) (aq 0) z ++ (wZ Y (ad 1) (aq 1) zb ++ (wZ Y (ad 2) (aq 2) zs ++ (gV Y (ad 3) (ad 6) sz (r4 (A 0) (A 1) (A 2) (A 3)) ++ (wZ Y (A 0) (Q 0) (S 0) ++ (wZ Y (A 1) (Q 1) (S 1) ++ (wZ Y (A 2) (Q 2) (S 2) ++ (wZ Y (A 3) (Q 3) (S 3) ++ (pV Y (ad 4) (aq 3) ab be al ++ (dV Y (ad 5) (ad 7) (fun _ => 0) 0 an ki fi sd))))))))))) pc lv (.int (jI k) :: .ref h :: st)
  refine j_callV (nA := 1) (As := [.int (jI k)]) (st := st) (wc := sV Y h (ad 0) (ad 1) (ad 2) (ad 3) (ad 4) (ad 5) ik 0 0 ++ (wZ Y (ad 0) (aq 0) z ++ (pV Y (ad 4) (aq 3) ab be al))) (wr := wZ Y (ad 1) (aq 1) zb ++ (wZ Y (ad 2) (aq 2) zs ++ (gV Y (ad 3) (ad 6) sz (r4 (A 0) (A 1) (A 2) (A 3)) ++ (wZ Y (A 0) (Q 0) (S 0) ++ (wZ Y (A 1) (Q 1) (S 1) ++ (wZ Y (A 2) (Q 2) (S 2) ++ (wZ Y (A 3) (Q 3) (S 3) ++ (dV Y (ad 5) (ad 7) (fun _ => 0) 0 an ki fi sd)))))))) G (c_X4_best l D Y h (ad 0) (ad 1) (ad 2) (ad 3) (ad 4) (ad 5) ik 0 0 (aq 0) z (aq 3) ab be al k hI h_k) hdg rfl hT rfl rfl rfl (by decide +kernel) hR rfl 0 rfl rfl rfl (jLe.pos [0, 1, 2, 3, 4, 5, 6, 7, 8, 9, 66, 67, 68, 10, 11, 12, 13, 14, 15, 16, 17, 18, 19, 20, 21, 22, 23, 24, 25, 26, 27, 28, 29, 30, 31, 32, 33, 34, 35, 36, 37, 38, 39, 40, 41, 42, 43, 44, 45, 46, 47, 48, 49, 50, 51, 52, 53, 54, 55, 56, 57, 58, 59, 60, 61, 62, 63, 64, 65, 69, 70] rfl rfl) hW hf (fun v_ w_ hp_ => ?_)
  obtain ⟨ab2, be2, al2, rfl, rfl⟩ := hp_
  refine j_conv (ws' := sV Y h (ad 0) (ad 1) (ad 2) (ad 3) (ad 4) (ad 5) ik 0 0 ++ (wZ Y (ad 0) (aq 0) z ++ (wZ Y (ad 1) (aq 1) zb ++ (wZ Y (ad 2) (aq 2) zs ++ (gV Y (ad 3) (ad 6) sz (r4 (A 0) (A 1) (A 2) (A 3)) ++ (wZ Y (A 0) (Q 0) (S 0) ++ (wZ Y (A 1) (Q 1) (S 1) ++ (wZ Y (A 2) (Q 2) (S 2) ++ (wZ Y (A 3) (Q 3) (S 3) ++ (pV Y (ad 4) (aq 3) ab2 be2 al2 ++ (dV Y (ad 5) (ad 7) (fun _ => 0) 0 an ki fi sd))))))))))) (jLe.pos [0, 1, 2, 3, 4, 5, 6, 7, 8, 9, 13, 14, 15, 16, 17, 18, 19, 20, 21, 22, 23, 24, 25, 26, 27, 28, 29, 30, 31, 32, 33, 34, 35, 36, 37, 38, 39, 40, 41, 42, 43, 44, 45, 46, 47, 48, 49, 50, 51, 52, 53, 54, 55, 56, 57, 58, 59, 60, 61, 62, 63, 64, 65, 66, 67, 68, 10, 11, 12, 69, 70] rfl rfl) ?_
  exact kk (zb, A, Q, ab2, be2, al2, an, ki, fi, sd)

set_option maxHeartbeats 4000000 in
set_option maxRecDepth 100000 in
theorem jo_openRow (G : jG x l D Y cc own Ts nL R0 ret nm)  (hdg : decode cc pc = .ok (.invokevirtual index, 3)) (hT : GoodIn Ts (wsV own index RX4 yX4_openRow wsX4_openRow)) (hR : 4 ≤ R0.frames ∧ 86 ≤ R0.locals) (hW : (st.map fun v => v.category).sum ≤ 8) (hf : kc ≤ R0.cells ∧ nc ≤ R0.slots) (hI : Inv z) (hr : (F_open z) = r0) (kk : ∀ e2 : oE, J x kc nc (oW Y h ad aq e2 z zs ik sz S) (pc + 3) lv (.int (jI r0) :: st)) : J x kc nc (oW Y h ad aq e z zs ik sz S) pc lv (.ref h :: st) := by
  subst hr
  obtain ⟨zb, A, Q, ab, be, al, an, ki, fi, sd⟩ := e
  show J x kc nc (sV Y h (ad 0) (ad 1) (ad 2) (ad 3) (ad 4) (ad 5) ik 0 0 ++ (wZ Y (ad 0) (aq 0) z ++ (wZ Y (ad 1) (aq 1) zb ++ (wZ Y (ad 2) (aq 2) zs ++ (gV Y (ad 3) (ad 6) sz (r4 (A 0) (A 1) (A 2) (A 3)) ++ (wZ Y (A 0) (Q 0) (S 0) ++ (wZ Y (A 1) (Q 1) (S 1) ++ (wZ Y (A 2) (Q 2) (S 2) ++ (wZ Y (A 3) (Q 3) (S 3) ++ (pV Y (ad 4) (aq 3) ab be al ++ (dV Y (ad 5) (ad 7) (fun _ => 0) 0 an ki fi sd))))))))))) pc lv (.ref h :: st)
  refine j_callV (nA := 0) (As := []) (st := st) (wc := sV Y h (ad 0) (ad 1) (ad 2) (ad 3) (ad 4) (ad 5) ik 0 0 ++ (wZ Y (ad 0) (aq 0) z ++ (pV Y (ad 4) (aq 3) ab be al))) (wr := wZ Y (ad 1) (aq 1) zb ++ (wZ Y (ad 2) (aq 2) zs ++ (gV Y (ad 3) (ad 6) sz (r4 (A 0) (A 1) (A 2) (A 3)) ++ (wZ Y (A 0) (Q 0) (S 0) ++ (wZ Y (A 1) (Q 1) (S 1) ++ (wZ Y (A 2) (Q 2) (S 2) ++ (wZ Y (A 3) (Q 3) (S 3) ++ (dV Y (ad 5) (ad 7) (fun _ => 0) 0 an ki fi sd)))))))) G (c_X4_openRow l D Y h (ad 0) (ad 1) (ad 2) (ad 3) (ad 4) (ad 5) ik 0 0 (aq 0) z (aq 3) ab be al hI) hdg rfl hT rfl rfl rfl (by decide +kernel) hR rfl 0 rfl rfl rfl (jLe.pos [0, 1, 2, 3, 4, 5, 6, 7, 8, 9, 66, 67, 68, 10, 11, 12, 13, 14, 15, 16, 17, 18, 19, 20, 21, 22, 23, 24, 25, 26, 27, 28, 29, 30, 31, 32, 33, 34, 35, 36, 37, 38, 39, 40, 41, 42, 43, 44, 45, 46, 47, 48, 49, 50, 51, 52, 53, 54, 55, 56, 57, 58, 59, 60, 61, 62, 63, 64, 65, 69, 70] rfl rfl) hW hf (fun v_ w_ hp_ => ?_)
  obtain ⟨ab2, be2, al2, rfl, rfl⟩ := hp_
  refine j_conv (ws' := sV Y h (ad 0) (ad 1) (ad 2) (ad 3) (ad 4) (ad 5) ik 0 0 ++ (wZ Y (ad 0) (aq 0) z ++ (wZ Y (ad 1) (aq 1) zb ++ (wZ Y (ad 2) (aq 2) zs ++ (gV Y (ad 3) (ad 6) sz (r4 (A 0) (A 1) (A 2) (A 3)) ++ (wZ Y (A 0) (Q 0) (S 0) ++ (wZ Y (A 1) (Q 1) (S 1) ++ (wZ Y (A 2) (Q 2) (S 2) ++ (wZ Y (A 3) (Q 3) (S 3) ++ (pV Y (ad 4) (aq 3) ab2 be2 al2 ++ (dV Y (ad 5) (ad 7) (fun _ => 0) 0 an ki fi sd))))))))))) (jLe.pos [0, 1, 2, 3, 4, 5, 6, 7, 8, 9, 13, 14, 15, 16, 17, 18, 19, 20, 21, 22, 23, 24, 25, 26, 27, 28, 29, 30, 31, 32, 33, 34, 35, 36, 37, 38, 39, 40, 41, 42, 43, 44, 45, 46, 47, 48, 49, 50, 51, 52, 53, 54, 55, 56, 57, 58, 59, 60, 61, 62, 63, 64, 65, 66, 67, 68, 10, 11, 12, 69, 70] rfl rfl) ?_
  exact kk (zb, A, Q, ab2, be2, al2, an, ki, fi, sd)

set_option maxHeartbeats 4000000 in
set_option maxRecDepth 100000 in
theorem jo_ifTold (G : jG x l D Y cc own Ts nL R0 ret nm) {r : Int} {c : Int} (hdg : decode cc pc = .ok (.invokevirtual index, 3)) (hT : GoodIn Ts (wsV own index RX4 yX4_ifTold wsX4_ifTold)) (hR : 4 ≤ R0.frames ∧ 86 ≤ R0.locals) (hW : (st.map fun v => v.category).sum ≤ 8) (hf : kc ≤ R0.cells ∧ nc ≤ R0.slots) (hI : Inv z) (h_r : -2147483648 ≤ r ∧ r < 2147483648) (h_c : -2147483648 ≤ c ∧ c < 2147483648) (hr : (F_told z r c) = r0) (kk : ∀ e2 : oE, J x kc nc (oW Y h ad aq e2 z zs ik sz S) (pc + 3) lv (.int (jI r0) :: st)) : J x kc nc (oW Y h ad aq e z zs ik sz S) pc lv (.int (jI c) :: .int (jI r) :: .ref h :: st) := by
  subst hr
  obtain ⟨zb, A, Q, ab, be, al, an, ki, fi, sd⟩ := e
  show J x kc nc (sV Y h (ad 0) (ad 1) (ad 2) (ad 3) (ad 4) (ad 5) ik 0 0 ++ (wZ Y (ad 0) (aq 0) z ++ (wZ Y (ad 1) (aq 1) zb ++ (wZ Y (ad 2) (aq 2) zs ++ (gV Y (ad 3) (ad 6) sz (r4 (A 0) (A 1) (A 2) (A 3)) ++ (wZ Y (A 0) (Q 0) (S 0) ++ (wZ Y (A 1) (Q 1) (S 1) ++ (wZ Y (A 2) (Q 2) (S 2) ++ (wZ Y (A 3) (Q 3) (S 3) ++ (pV Y (ad 4) (aq 3) ab be al ++ (dV Y (ad 5) (ad 7) (fun _ => 0) 0 an ki fi sd))))))))))) pc lv (.int (jI c) :: .int (jI r) :: .ref h :: st)
  refine j_callV (nA := 2) (As := [.int (jI r), .int (jI c)]) (st := st) (wc := sV Y h (ad 0) (ad 1) (ad 2) (ad 3) (ad 4) (ad 5) ik 0 0 ++ (wZ Y (ad 0) (aq 0) z ++ (pV Y (ad 4) (aq 3) ab be al))) (wr := wZ Y (ad 1) (aq 1) zb ++ (wZ Y (ad 2) (aq 2) zs ++ (gV Y (ad 3) (ad 6) sz (r4 (A 0) (A 1) (A 2) (A 3)) ++ (wZ Y (A 0) (Q 0) (S 0) ++ (wZ Y (A 1) (Q 1) (S 1) ++ (wZ Y (A 2) (Q 2) (S 2) ++ (wZ Y (A 3) (Q 3) (S 3) ++ (dV Y (ad 5) (ad 7) (fun _ => 0) 0 an ki fi sd)))))))) G (c_X4_ifTold l D Y h (ad 0) (ad 1) (ad 2) (ad 3) (ad 4) (ad 5) ik 0 0 (aq 0) z (aq 3) ab be al r c hI h_r h_c) hdg rfl hT rfl rfl rfl (by decide +kernel) hR rfl 0 rfl rfl rfl (jLe.pos [0, 1, 2, 3, 4, 5, 6, 7, 8, 9, 66, 67, 68, 10, 11, 12, 13, 14, 15, 16, 17, 18, 19, 20, 21, 22, 23, 24, 25, 26, 27, 28, 29, 30, 31, 32, 33, 34, 35, 36, 37, 38, 39, 40, 41, 42, 43, 44, 45, 46, 47, 48, 49, 50, 51, 52, 53, 54, 55, 56, 57, 58, 59, 60, 61, 62, 63, 64, 65, 69, 70] rfl rfl) hW hf (fun v_ w_ hp_ => ?_)
  obtain ⟨ab2, be2, al2, rfl, rfl⟩ := hp_
  refine j_conv (ws' := sV Y h (ad 0) (ad 1) (ad 2) (ad 3) (ad 4) (ad 5) ik 0 0 ++ (wZ Y (ad 0) (aq 0) z ++ (wZ Y (ad 1) (aq 1) zb ++ (wZ Y (ad 2) (aq 2) zs ++ (gV Y (ad 3) (ad 6) sz (r4 (A 0) (A 1) (A 2) (A 3)) ++ (wZ Y (A 0) (Q 0) (S 0) ++ (wZ Y (A 1) (Q 1) (S 1) ++ (wZ Y (A 2) (Q 2) (S 2) ++ (wZ Y (A 3) (Q 3) (S 3) ++ (pV Y (ad 4) (aq 3) ab2 be2 al2 ++ (dV Y (ad 5) (ad 7) (fun _ => 0) 0 an ki fi sd))))))))))) (jLe.pos [0, 1, 2, 3, 4, 5, 6, 7, 8, 9, 13, 14, 15, 16, 17, 18, 19, 20, 21, 22, 23, 24, 25, 26, 27, 28, 29, 30, 31, 32, 33, 34, 35, 36, 37, 38, 39, 40, 41, 42, 43, 44, 45, 46, 47, 48, 49, 50, 51, 52, 53, 54, 55, 56, 57, 58, 59, 60, 61, 62, 63, 64, 65, 66, 67, 68, 10, 11, 12, 69, 70] rfl rfl) ?_
  exact kk (zb, A, Q, ab2, be2, al2, an, ki, fi, sd)

set_option maxHeartbeats 4000000 in
set_option maxRecDepth 100000 in
theorem jo_count (G : jG x l D Y cc own Ts nL R0 ret nm) {w : Int} (hdg : decode cc pc = .ok (.invokevirtual index, 3)) (hT : GoodIn Ts (wsV own index RX4 yX4_count wsX4_count)) (hR : 6 ≤ R0.frames ∧ 136 ≤ R0.locals) (hW : (st.map fun v => v.category).sum ≤ 8) (hf : kc ≤ R0.cells ∧ nc ≤ R0.slots) (hI : Inv z) (h_w : -2147483648 ≤ w ∧ w < 2147483648) (hr : (F_count z sz 0 w) = r0) (kk : ∀ e2 : oE, J x kc nc (oW Y h ad aq e2 z zs ik sz S) (pc + 3) lv (.int (jI r0) :: st)) : J x kc nc (oW Y h ad aq e z zs ik sz S) pc lv (.int (jI w) :: .ref h :: st) := by
  subst hr
  obtain ⟨zb, A, Q, ab, be, al, an, ki, fi, sd⟩ := e
  show J x kc nc (sV Y h (ad 0) (ad 1) (ad 2) (ad 3) (ad 4) (ad 5) ik 0 0 ++ (wZ Y (ad 0) (aq 0) z ++ (wZ Y (ad 1) (aq 1) zb ++ (wZ Y (ad 2) (aq 2) zs ++ (gV Y (ad 3) (ad 6) sz (r4 (A 0) (A 1) (A 2) (A 3)) ++ (wZ Y (A 0) (Q 0) (S 0) ++ (wZ Y (A 1) (Q 1) (S 1) ++ (wZ Y (A 2) (Q 2) (S 2) ++ (wZ Y (A 3) (Q 3) (S 3) ++ (pV Y (ad 4) (aq 3) ab be al ++ (dV Y (ad 5) (ad 7) (fun _ => 0) 0 an ki fi sd))))))))))) pc lv (.int (jI w) :: .ref h :: st)
  refine j_callV (nA := 1) (As := [.int (jI w)]) (st := st) (wc := sV Y h (ad 0) (ad 1) (ad 2) (ad 3) (ad 4) (ad 5) ik 0 0 ++ (wZ Y (ad 0) (aq 0) z ++ (gV Y (ad 3) (ad 6) sz (r4 (A 0) (A 1) (A 2) (A 3)) ++ (wZ Y (A 0) (Q 0) (S 0) ++ (wZ Y (A 1) (Q 1) (S 1) ++ (wZ Y (A 2) (Q 2) (S 2) ++ (wZ Y (A 3) (Q 3) (S 3) ++ (dV Y (ad 5) (ad 7) (fun _ => 0) 0 an ki fi sd ++ (pV Y (ad 4) (aq 3) ab be al))))))))) (wr := wZ Y (ad 1) (aq 1) zb ++ (wZ Y (ad 2) (aq 2) zs)) G (c_X4_count l D Y h (ad 0) (ad 1) (ad 2) (ad 3) (ad 4) (ad 5) ik 0 0 (aq 0) z (ad 6) sz (ad 7) (fun _ => 0) 0 an ki fi sd (aq 3) ab be al w A Q S hI h_w) hdg rfl hT rfl rfl rfl (by decide +kernel) hR rfl 0 rfl rfl rfl (jLe.pos [0, 1, 2, 3, 4, 5, 6, 7, 8, 9, 28, 29, 30, 31, 32, 33, 34, 35, 36, 37, 38, 39, 40, 41, 42, 43, 44, 45, 46, 47, 48, 49, 50, 51, 52, 53, 54, 55, 56, 57, 58, 59, 60, 61, 62, 63, 64, 65, 69, 70, 66, 67, 68, 10, 11, 12, 13, 14, 15, 16, 17, 18, 19, 20, 21, 22, 23, 24, 25, 26, 27] rfl rfl) hW hf (fun v_ w_ hp_ => ?_)
  obtain ⟨ab2, be2, al2, rfl, rfl⟩ := hp_
  refine j_conv (ws' := sV Y h (ad 0) (ad 1) (ad 2) (ad 3) (ad 4) (ad 5) ik 0 0 ++ (wZ Y (ad 0) (aq 0) z ++ (wZ Y (ad 1) (aq 1) zb ++ (wZ Y (ad 2) (aq 2) zs ++ (gV Y (ad 3) (ad 6) sz (r4 (A 0) (A 1) (A 2) (A 3)) ++ (wZ Y (A 0) (Q 0) (S 0) ++ (wZ Y (A 1) (Q 1) (S 1) ++ (wZ Y (A 2) (Q 2) (S 2) ++ (wZ Y (A 3) (Q 3) (S 3) ++ (pV Y (ad 4) (aq 3) ab2 be2 al2 ++ (dV Y (ad 5) (ad 7) (fun _ => 0) 0 an ki fi sd))))))))))) (jLe.pos [0, 1, 2, 3, 4, 5, 6, 7, 8, 9, 53, 54, 55, 56, 57, 58, 59, 60, 61, 62, 63, 64, 65, 66, 67, 68, 69, 70, 10, 11, 12, 13, 14, 15, 16, 17, 18, 19, 20, 21, 22, 23, 24, 25, 26, 27, 28, 29, 30, 31, 32, 33, 34, 35, 36, 37, 38, 39, 40, 41, 42, 43, 44, 45, 46, 47, 50, 51, 52, 48, 49] rfl rfl) ?_
  exact kk (zb, A, Q, ab2, be2, al2, an, ki, fi, sd)

theorem hSz_no {a sz : Int} (h : a < 0) : hSz a sz = sz := if_neg (by omega)
theorem hSt_no {a sz : Int} {S : Nat → Int → Int} {z : Int → Int} (h : a < 0) : hSt a sz S z = S := if_neg (by omega)
theorem upZ_id (f : Int → Int) (i : Int) : upZ f i (f i) = f := by
  funext j
  unfold upZ
  by_cases e : j = i
  · rw [if_pos e, e]
  · rw [if_neg e]
theorem upZ_id' {f : Int → Int} {i v : Int} (h : f i = v) : upZ f i v = f := h ▸ upZ_id f i
theorem GN_grow {z : Int → Int} (hI : Inv z) {p w : Int} (h : F_grow z p w < 0) : G_grow z p w = z := by
  unfold F_grow at h
  unfold G_grow
  by_cases a : 0 ≤ p ∧ p ≤ 63
  · have := hI.wo p (by omega) (by omega)
    rw [if_pos a] at h
    by_cases b : 0 ≤ w ∧ w ≤ 99
    · rw [if_pos b] at h
      by_cases c : z (28 + p) = w
      · rw [if_pos ⟨a, b⟩]; exact upZ_id' c
      · rw [if_neg c] at h; omega
    · rw [if_neg (fun q => b q.2)]
  · rw [if_neg (fun q => a q.1)]
theorem GN_rain {z : Int → Int} {m : Int} (h : F_rain z m < 0) : G_rain z m = z := by
  unfold F_rain at h
  unfold G_rain
  by_cases a : 1 ≤ m ∧ m ≤ 9
  · rw [if_pos a] at h; split at h <;> omega
  · rw [if_neg a]
theorem GN_endDays {z : Int → Int} (hI : Inv z) {n : Int} (h : F_end z n < 0) : G_end z n = z := by
  have := hI.da
  unfold F_end at h
  unfold G_end
  by_cases a : 1 ≤ n ∧ n ≤ 99
  · rw [if_pos a] at h
    split at h
    · rw [if_neg (by omega)]
    · omega
  · rw [if_neg (fun q => a q.1)]
theorem GN_set {z : Int → Int} (hI : Inv z) {i v : Int} (h : F_set z i v < 0) : G_set z i v = z := by
  have a0 := hI.s0
  have a1 := hI.s1
  have a2 := hI.s2
  unfold F_set at h
  unfold G_set
  by_cases a : 0 ≤ i ∧ i ≤ 2
  · rw [if_pos a] at h
    by_cases b : sLo i ≤ v ∧ v ≤ sHi i
    · rw [if_pos b] at h
      by_cases c : z i = v
      · rw [if_pos ⟨a, b⟩]; exact upZ_id' c
      · rw [if_neg c] at h
        rcases (show i = 0 ∨ i = 1 ∨ i = 2 by omega) with e | e | e <;> subst e <;> omega
    · rw [if_neg (fun q => b q.2)]
  · rw [if_neg (fun q => a q.1)]
theorem GN_go {z : Int → Int} {k p : Int} (h : F_go z k p < 0) : G_go z k p = z := by
  unfold F_go at h
  unfold G_go
  by_cases a : (0 ≤ k ∧ k ≤ 2) ∧ (0 ≤ p ∧ p ≤ 63)
  · rw [if_pos a] at h
    by_cases b : z (16 + 4 * k) < zWay z k p
    · rw [if_neg (by omega)]
    · rw [if_neg b] at h
      by_cases c : z (15 + 4 * k) = p
      · rw [if_pos (by omega)]
        unfold GG
        rw [zWay_0 c, Int.sub_zero, upZ_id, upZ_id' c]
      · rw [if_neg c] at h; omega
  · rw [if_neg (fun q => a q.1)]
theorem GN_fell {z : Int → Int} (hI : Inv z) {k : Int} (h : F_fell z k < 0) : G_fell z k = z := by
  unfold F_fell at h
  unfold G_fell
  by_cases a : 0 ≤ k ∧ k ≤ 2
  · have f := hI.pl k (by omega) (by omega)
    have := hI.wo (z (15 + 4 * k)) (by omega) (by omega)
    rw [if_pos a] at h
    by_cases b : z (16 + 4 * k) < z 2
    · rw [if_neg (by omega)]
    · rw [if_neg b] at h
      by_cases c : z (28 + z (15 + 4 * k)) = 0
      · rw [if_neg (fun q => q.2.2 c)]
      · rw [if_neg c] at h; omega
  · rw [if_neg (fun q => a q.1)]
theorem GN_hint {z : Int → Int} {r c : Int} (h : F_hint z r c < 0) : G_hint z r c = z := by
  unfold F_hint at h
  unfold G_hint
  by_cases a : 0 ≤ r ∧ r ≤ 7
  · rw [if_pos a] at h
    by_cases b : 0 ≤ c ∧ c ≤ 7
    · rw [if_pos b] at h
      have f : 0 ≤ pTh (tZ z) (r * 8 + c) := (pTh_b (tZ z) (p := r * 8 + c) (by omega)).1
      by_cases d : ¬ z (7 + r) = -5 ∨ pTh (tZ z) (r * 8 + c) = 0
      · rw [if_neg (fun q => d.elim (fun y => y q.2.1) (fun y => q.2.2 y))]
      · rw [if_neg d] at h; omega
    · rw [if_neg (fun q => b q.1.2)]
  · rw [if_neg (fun q => a q.1.1)]
theorem GN_takeBack {z : Int → Int} {r : Int} (h : F_back z r < 0) : G_back z r = z := by
  unfold F_back at h
  unfold G_back
  have f := (pAll_b (tZ (upZ z (7 + r) (-5)))).1
  by_cases a : 0 ≤ r ∧ r ≤ 7
  · rw [if_pos a] at h
    by_cases b : z (7 + r) = -5
    · rw [if_neg (fun q => q.2 b)]
    · rw [if_neg b] at h; omega
  · rw [if_neg (fun q => a q.1)]
theorem GN_storm {z : Int → Int} (hI : Inv z) (h : F_storm z < 0) : G_storm z = z := by
  unfold F_storm at h
  unfold G_storm
  by_cases a : 1 < pAll (tZ z)
  · rw [if_pos a]
  · rw [if_neg a] at h
    have := (zLost_b (tZ z) hI).1
    omega

theorem jn_grow (G : jG x l D Y cc own Ts nL R0 ret nm) {p : Int} {w : Int} (hdg : decode cc pc = .ok (.invokevirtual index, 3)) (hT : GoodIn Ts (wsV own index RX4 yX4_grow wsX4_grow)) (hR : 5 ≤ R0.frames ∧ 103 ≤ R0.locals) (hW : (st.map fun v => v.category).sum ≤ 8) (hf : kc ≤ R0.cells ∧ nc ≤ R0.slots) (hI : Inv z) (hsz : 0 ≤ sz ∧ sz ≤ 4) (h_p : -2147483648 ≤ p ∧ p < 2147483648) (h_w : -2147483648 ≤ w ∧ w < 2147483648) (hr : (F_grow z p w) = r0) (h0 : r0 < 0) (kk : ∀ e2 : oE, J x kc nc (oW Y h ad aq e2 z zs ik sz S) (pc + 3) lv (.int (jI r0) :: st)) : J x kc nc (oW Y h ad aq e z zs ik sz S) pc lv (.int (jI w) :: .int (jI p) :: .ref h :: st) := by
  refine jo_grow G hdg hT hR hW hf hI hsz h_p h_w hr (fun e2 => ?_)
  have hneg : F_grow z p w < 0 := by rw [hr]; exact h0
  rw [GN_grow hI hneg, hSz_no hneg, hSt_no hneg]
  exact kk e2

theorem jn_rain (G : jG x l D Y cc own Ts nL R0 ret nm) {m : Int} (hdg : decode cc pc = .ok (.invokevirtual index, 3)) (hT : GoodIn Ts (wsV own index RX4 yX4_rain wsX4_rain)) (hR : 5 ≤ R0.frames ∧ 102 ≤ R0.locals) (hW : (st.map fun v => v.category).sum ≤ 8) (hf : kc ≤ R0.cells ∧ nc ≤ R0.slots) (hI : Inv z) (hsz : 0 ≤ sz ∧ sz ≤ 4) (h_m : -2147483648 ≤ m ∧ m < 2147483648) (hr : (F_rain z m) = r0) (h0 : r0 < 0) (kk : ∀ e2 : oE, J x kc nc (oW Y h ad aq e2 z zs ik sz S) (pc + 3) lv (.int (jI r0) :: st)) : J x kc nc (oW Y h ad aq e z zs ik sz S) pc lv (.int (jI m) :: .ref h :: st) := by
  refine jo_rain G hdg hT hR hW hf hI hsz h_m hr (fun e2 => ?_)
  have hneg : F_rain z m < 0 := by rw [hr]; exact h0
  rw [GN_rain hneg, hSz_no hneg, hSt_no hneg]
  exact kk e2

theorem jn_endDays (G : jG x l D Y cc own Ts nL R0 ret nm) {n : Int} (hdg : decode cc pc = .ok (.invokevirtual index, 3)) (hT : GoodIn Ts (wsV own index RX4 yX4_endDays wsX4_endDays)) (hR : 5 ≤ R0.frames ∧ 102 ≤ R0.locals) (hW : (st.map fun v => v.category).sum ≤ 8) (hf : kc ≤ R0.cells ∧ nc ≤ R0.slots) (hI : Inv z) (hsz : 0 ≤ sz ∧ sz ≤ 4) (h_n : -2147483648 ≤ n ∧ n < 2147483648) (hr : (F_end z n) = r0) (h0 : r0 < 0) (kk : ∀ e2 : oE, J x kc nc (oW Y h ad aq e2 z zs ik sz S) (pc + 3) lv (.int (jI r0) :: st)) : J x kc nc (oW Y h ad aq e z zs ik sz S) pc lv (.int (jI n) :: .ref h :: st) := by
  refine jo_endDays G hdg hT hR hW hf hI hsz h_n hr (fun e2 => ?_)
  have hneg : F_end z n < 0 := by rw [hr]; exact h0
  rw [GN_endDays hI hneg, hSz_no hneg, hSt_no hneg]
  exact kk e2

theorem jn_set (G : jG x l D Y cc own Ts nL R0 ret nm) {i : Int} {v : Int} (hdg : decode cc pc = .ok (.invokevirtual index, 3)) (hT : GoodIn Ts (wsV own index RX4 yX4_set wsX4_set)) (hR : 5 ≤ R0.frames ∧ 103 ≤ R0.locals) (hW : (st.map fun v => v.category).sum ≤ 8) (hf : kc ≤ R0.cells ∧ nc ≤ R0.slots) (hI : Inv z) (hsz : 0 ≤ sz ∧ sz ≤ 4) (h_i : -2147483648 ≤ i ∧ i < 2147483648) (h_v : -2147483648 ≤ v ∧ v < 2147483648) (hr : (F_set z i v) = r0) (h0 : r0 < 0) (kk : ∀ e2 : oE, J x kc nc (oW Y h ad aq e2 z zs ik sz S) (pc + 3) lv (.int (jI r0) :: st)) : J x kc nc (oW Y h ad aq e z zs ik sz S) pc lv (.int (jI v) :: .int (jI i) :: .ref h :: st) := by
  refine jo_set G hdg hT hR hW hf hI hsz h_i h_v hr (fun e2 => ?_)
  have hneg : F_set z i v < 0 := by rw [hr]; exact h0
  rw [GN_set hI hneg, hSz_no hneg, hSt_no hneg]
  exact kk e2

theorem jn_go (G : jG x l D Y cc own Ts nL R0 ret nm) {k : Int} {p : Int} (hdg : decode cc pc = .ok (.invokevirtual index, 3)) (hT : GoodIn Ts (wsV own index RX4 yX4_go wsX4_go)) (hR : 5 ≤ R0.frames ∧ 103 ≤ R0.locals) (hW : (st.map fun v => v.category).sum ≤ 8) (hf : kc ≤ R0.cells ∧ nc ≤ R0.slots) (hI : Inv z) (hsz : 0 ≤ sz ∧ sz ≤ 4) (h_k : -2147483648 ≤ k ∧ k < 2147483648) (h_p : -2147483648 ≤ p ∧ p < 2147483648) (hr : (F_go z k p) = r0) (h0 : r0 < 0) (kk : ∀ e2 : oE, J x kc nc (oW Y h ad aq e2 z zs ik sz S) (pc + 3) lv (.int (jI r0) :: st)) : J x kc nc (oW Y h ad aq e z zs ik sz S) pc lv (.int (jI p) :: .int (jI k) :: .ref h :: st) := by
  refine jo_go G hdg hT hR hW hf hI hsz h_k h_p hr (fun e2 => ?_)
  have hneg : F_go z k p < 0 := by rw [hr]; exact h0
  rw [GN_go hneg, hSz_no hneg, hSt_no hneg]
  exact kk e2

theorem jn_fell (G : jG x l D Y cc own Ts nL R0 ret nm) {k : Int} (hdg : decode cc pc = .ok (.invokevirtual index, 3)) (hT : GoodIn Ts (wsV own index RX4 yX4_fell wsX4_fell)) (hR : 5 ≤ R0.frames ∧ 102 ≤ R0.locals) (hW : (st.map fun v => v.category).sum ≤ 8) (hf : kc ≤ R0.cells ∧ nc ≤ R0.slots) (hI : Inv z) (hsz : 0 ≤ sz ∧ sz ≤ 4) (h_k : -2147483648 ≤ k ∧ k < 2147483648) (hr : (F_fell z k) = r0) (h0 : r0 < 0) (kk : ∀ e2 : oE, J x kc nc (oW Y h ad aq e2 z zs ik sz S) (pc + 3) lv (.int (jI r0) :: st)) : J x kc nc (oW Y h ad aq e z zs ik sz S) pc lv (.int (jI k) :: .ref h :: st) := by
  refine jo_fell G hdg hT hR hW hf hI hsz h_k hr (fun e2 => ?_)
  have hneg : F_fell z k < 0 := by rw [hr]; exact h0
  rw [GN_fell hI hneg, hSz_no hneg, hSt_no hneg]
  exact kk e2

theorem jn_hint (G : jG x l D Y cc own Ts nL R0 ret nm) {r : Int} {c : Int} (hdg : decode cc pc = .ok (.invokevirtual index, 3)) (hT : GoodIn Ts (wsV own index RX4 yX4_hint wsX4_hint)) (hR : 5 ≤ R0.frames ∧ 103 ≤ R0.locals) (hW : (st.map fun v => v.category).sum ≤ 8) (hf : kc ≤ R0.cells ∧ nc ≤ R0.slots) (hI : Inv z) (hsz : 0 ≤ sz ∧ sz ≤ 4) (h_r : -2147483648 ≤ r ∧ r < 2147483648) (h_c : -2147483648 ≤ c ∧ c < 2147483648) (hr : (F_hint z r c) = r0) (h0 : r0 < 0) (kk : ∀ e2 : oE, J x kc nc (oW Y h ad aq e2 z zs ik sz S) (pc + 3) lv (.int (jI r0) :: st)) : J x kc nc (oW Y h ad aq e z zs ik sz S) pc lv (.int (jI c) :: .int (jI r) :: .ref h :: st) := by
  refine jo_hint G hdg hT hR hW hf hI hsz h_r h_c hr (fun e2 => ?_)
  have hneg : F_hint z r c < 0 := by rw [hr]; exact h0
  rw [GN_hint hneg, hSz_no hneg, hSt_no hneg]
  exact kk e2

theorem jn_takeBack (G : jG x l D Y cc own Ts nL R0 ret nm) {r : Int} (hdg : decode cc pc = .ok (.invokevirtual index, 3)) (hT : GoodIn Ts (wsV own index RX4 yX4_takeBack wsX4_takeBack)) (hR : 5 ≤ R0.frames ∧ 102 ≤ R0.locals) (hW : (st.map fun v => v.category).sum ≤ 8) (hf : kc ≤ R0.cells ∧ nc ≤ R0.slots) (hI : Inv z) (hsz : 0 ≤ sz ∧ sz ≤ 4) (h_r : -2147483648 ≤ r ∧ r < 2147483648) (hr : (F_back z r) = r0) (h0 : r0 < 0) (kk : ∀ e2 : oE, J x kc nc (oW Y h ad aq e2 z zs ik sz S) (pc + 3) lv (.int (jI r0) :: st)) : J x kc nc (oW Y h ad aq e z zs ik sz S) pc lv (.int (jI r) :: .ref h :: st) := by
  refine jo_takeBack G hdg hT hR hW hf hI hsz h_r hr (fun e2 => ?_)
  have hneg : F_back z r < 0 := by rw [hr]; exact h0
  rw [GN_takeBack hneg, hSz_no hneg, hSt_no hneg]
  exact kk e2

theorem jn_storm (G : jG x l D Y cc own Ts nL R0 ret nm)  (hdg : decode cc pc = .ok (.invokevirtual index, 3)) (hT : GoodIn Ts (wsV own index RX4 yX4_storm wsX4_storm)) (hR : 7 ≤ R0.frames ∧ 161 ≤ R0.locals) (hW : (st.map fun v => v.category).sum ≤ 8) (hf : kc ≤ R0.cells ∧ nc ≤ R0.slots) (hI : Inv z) (hsz : 0 ≤ sz ∧ sz ≤ 4) (hr : (F_storm z) = r0) (h0 : r0 < 0) (kk : ∀ e2 : oE, J x kc nc (oW Y h ad aq e2 z zs ik sz S) (pc + 3) lv (.int (jI r0) :: st)) : J x kc nc (oW Y h ad aq e z zs ik sz S) pc lv (.ref h :: st) := by
  refine jo_storm G hdg hT hR hW hf hI hsz hr (fun e2 => ?_)
  have hneg : F_storm z < 0 := by rw [hr]; exact h0
  rw [GN_storm hI hneg, hSz_no hneg, hSt_no hneg]
  exact kk e2

theorem jn_restore (G : jG x l D Y cc own Ts nL R0 ret nm) (hdg : decode cc pc = .ok (.invokevirtual index, 3)) (hT : GoodIn Ts (wsV own index RX4 yX4_restore wsX4_restore)) (hR : 5 ≤ R0.frames ∧ 101 ≤ R0.locals) (hW : (st.map fun v => v.category).sum ≤ 8) (hf : kc ≤ R0.cells ∧ nc ≤ R0.slots) (hI : Inv z) (hsz : 0 ≤ sz ∧ sz ≤ 4) (kk : ∀ e2 : oE, J x kc nc (oW Y h ad aq e2 z zs 0 sz S) (pc + 3) lv (.int (jI (-5)) :: st)) : J x kc nc (oW Y h ad aq e z zs 0 sz S) pc lv (.ref h :: st) := by
  refine jo_restore G hdg hT hR hW hf hI hsz (Or.inl rfl) (fun q => absurd rfl q) (r0 := -5) (if_pos rfl) (fun e2 => ?_)
  have e1 : (if (0 : Int) = 0 then (-5 : Int) else zs 3) = -5 := if_pos rfl
  rw [e1, if_pos rfl, hSz_no (show (-5 : Int) < 0 by decide), hSt_no (show (-5 : Int) < 0 by decide)]
  exact kk e2

theorem ja_restore (G : jG x l D Y cc own Ts nL R0 ret nm) (hdg : decode cc pc = .ok (.invokevirtual index, 3)) (hT : GoodIn Ts (wsV own index RX4 yX4_restore wsX4_restore)) (hR : 5 ≤ R0.frames ∧ 101 ≤ R0.locals) (hW : (st.map fun v => v.category).sum ≤ 8) (hf : kc ≤ R0.cells ∧ nc ≤ R0.slots) (hI : Inv z) (hsz : 0 ≤ sz ∧ sz ≤ 4) (hIs : Inv zs) (kk : ∀ e2 : oE, J x kc nc (oW Y h ad aq e2 zs zs 1 (hUp sz) (hPush sz S z)) (pc + 3) lv (.int (jI (zs 3)) :: st)) : J x kc nc (oW Y h ad aq e z zs 1 sz S) pc lv (.ref h :: st) := by
  have h3 := hIs.da
  refine jo_restore G hdg hT hR hW hf hI hsz (Or.inr rfl) (fun _ => hIs) (r0 := zs 3) (if_neg (by decide)) (fun e2 => ?_)
  rw [if_neg (by decide), if_neg (by decide), show hSz (zs 3) sz = hUp sz from if_pos h3.1, show hSt (zs 3) sz S z = hPush sz S z from if_pos h3.1]
  exact kk e2

theorem F_text_0 : F_text (fun _ => 0) 0 = -100 := by decide +kernel
theorem F_perf_0 (z : Int → Int) : F_perf (fun _ => 0) 0 z = -100 := by
  unfold F_perf
  rw [if_pos (by rw [F_text_0]; decide), F_text_0]
theorem G_perf_0 (z : Int → Int) : G_perf (fun _ => 0) 0 z = z := by
  unfold G_perf
  rw [if_pos (by rw [F_text_0]; decide)]
theorem N_perf_0 (z : Int → Int) : N_perf (fun _ => 0) 0 z 0 = 0 := by
  unfold N_perf
  rw [if_pos (Or.inl (by rw [F_text_0]; decide))]
theorem E_perf_0 (z : Int → Int) : E_perf (fun _ => 0) 0 z 0 = 0 := by
  unfold E_perf
  rw [if_pos (Or.inl (by rw [F_text_0]; decide))]
set_option maxHeartbeats 4000000 in
set_option maxRecDepth 100000 in
theorem jn_perform (G : jG x l D Y cc own Ts nL R0 ret nm) (hdg : decode cc pc = .ok (.invokevirtual index, 3)) (hT : GoodIn Ts (wsV own index RX4 yX4_perform wsX4_perform)) (hR : 6 ≤ R0.frames ∧ 132 ≤ R0.locals) (hW : (st.map fun v => v.category).sum ≤ 8) (hf : kc ≤ R0.cells ∧ nc ≤ R0.slots) (hI : Inv z) (hsz : 0 ≤ sz ∧ sz ≤ 4) (kk : ∀ e2 : oE, J x kc nc (oW Y h ad aq e2 z zs ik sz S) (pc + 3) lv (.int (jI (-100)) :: st)) : J x kc nc (oW Y h ad aq e z zs ik sz S) pc lv (.ref h :: st) := by
  obtain ⟨zb, A, Q, ab, be, al, an, ki, fi, sd⟩ := e
  show J x kc nc (sV Y h (ad 0) (ad 1) (ad 2) (ad 3) (ad 4) (ad 5) ik 0 0 ++ (wZ Y (ad 0) (aq 0) z ++ (wZ Y (ad 1) (aq 1) zb ++ (wZ Y (ad 2) (aq 2) zs ++ (gV Y (ad 3) (ad 6) sz (r4 (A 0) (A 1) (A 2) (A 3)) ++ (wZ Y (A 0) (Q 0) (S 0) ++ (wZ Y (A 1) (Q 1) (S 1) ++ (wZ Y (A 2) (Q 2) (S 2) ++ (wZ Y (A 3) (Q 3) (S 3) ++ (pV Y (ad 4) (aq 3) ab be al ++ (dV Y (ad 5) (ad 7) (fun _ => 0) 0 an ki fi sd))))))))))) pc lv (.ref h :: st)
  refine j_callV (nA := 0) (As := []) (st := st) (wc := sV Y h (ad 0) (ad 1) (ad 2) (ad 3) (ad 4) (ad 5) ik 0 0 ++ (wZ Y (ad 0) (aq 0) z ++ (wZ Y (ad 1) (aq 1) zb ++ (gV Y (ad 3) (ad 6) sz (r4 (A 0) (A 1) (A 2) (A 3)) ++ (wZ Y (A 0) (Q 0) (S 0) ++ (wZ Y (A 1) (Q 1) (S 1) ++ (wZ Y (A 2) (Q 2) (S 2) ++ (wZ Y (A 3) (Q 3) (S 3) ++ (pV Y (ad 4) (aq 3) ab be al ++ (dV Y (ad 5) (ad 7) (fun _ => 0) 0 an ki fi sd)))))))))) (wr := wZ Y (ad 2) (aq 2) zs) G (c_X4_perform l D Y h (ad 0) (ad 1) (ad 2) (ad 3) (ad 4) (ad 5) ik 0 0 (aq 0) z (aq 1) zb (ad 6) sz (aq 3) ab be al (ad 7) (fun _ => 0) 0 an ki fi sd A Q S hI hsz (by intro j a b; decide) (by decide)) hdg rfl hT rfl rfl rfl (by decide +kernel) hR rfl 0 rfl rfl rfl (jLe.pos [0, 1, 2, 3, 4, 5, 6, 7, 8, 9, 10, 11, 12, 13, 14, 15, 16, 17, 18, 28, 29, 30, 31, 32, 33, 34, 35, 36, 37, 38, 39, 40, 41, 42, 43, 44, 45, 46, 47, 48, 49, 50, 51, 52, 53, 54, 55, 56, 57, 58, 59, 60, 61, 62, 63, 64, 65, 66, 67, 68, 69, 70, 19, 20, 21, 22, 23, 24, 25, 26, 27] rfl rfl) hW hf (fun v_ w_ hp_ => ?_)
  obtain ⟨A2, Q2, ab2, be2, al2, an2, ki2, fi2, sd2, rfl, rfl⟩ := hp_
  rw [F_perf_0, G_perf_0, N_perf_0, E_perf_0, if_pos (show F_text (fun _ => 0) 0 < 0 by rw [F_text_0]; decide), hSz_no (show (-100 : Int) < 0 by decide), hSt_no (show (-100 : Int) < 0 by decide)]
  refine j_conv (ws' := sV Y h (ad 0) (ad 1) (ad 2) (ad 3) (ad 4) (ad 5) ik 0 0 ++ (wZ Y (ad 0) (aq 0) z ++ (wZ Y (ad 1) (aq 1) zb ++ (wZ Y (ad 2) (aq 2) zs ++ (gV Y (ad 3) (ad 6) sz (r4 (A2 0) (A2 1) (A2 2) (A2 3)) ++ (wZ Y (A2 0) (Q2 0) (S 0) ++ (wZ Y (A2 1) (Q2 1) (S 1) ++ (wZ Y (A2 2) (Q2 2) (S 2) ++ (wZ Y (A2 3) (Q2 3) (S 3) ++ (pV Y (ad 4) (aq 3) ab2 be2 al2 ++ (dV Y (ad 5) (ad 7) (fun _ => 0) 0 an2 ki2 fi2 sd2))))))))))) (jLe.pos [0, 1, 2, 3, 4, 5, 6, 7, 8, 9, 10, 11, 12, 13, 14, 15, 16, 17, 18, 62, 63, 64, 65, 66, 67, 68, 69, 70, 19, 20, 21, 22, 23, 24, 25, 26, 27, 28, 29, 30, 31, 32, 33, 34, 35, 36, 37, 38, 39, 40, 41, 42, 43, 44, 45, 46, 47, 48, 49, 50, 51, 52, 53, 54, 55, 56, 57, 58, 59, 60, 61] rfl rfl) ?_
  exact kk (zb, A2, Q2, ab2, be2, al2, an2, ki2, fi2, sd2)

end JO