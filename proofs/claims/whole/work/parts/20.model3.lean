/-! ===== texts, as the reference reads them ===== -/
def n5 (v : Int) : Int := if v = -1 then -5 else v
theorem n5_c (v : Int) : (v = -1 ∧ n5 v = -5) ∨ (¬ v = -1 ∧ n5 v = v) := by
  unfold n5
  split <;> omega
theorem dg_c (tx : Int → Int) (ln a : Int) : ((a < ln ∧ 48 ≤ tx a ∧ tx a ≤ 57) ∧ dg tx ln a = tx a - 48) ∨ (¬ (a < ln ∧ 48 ≤ tx a ∧ tx a ≤ 57) ∧ dg tx ln a = -1) := by
  unfold dg
  by_cases h : a < ln ∧ 48 ≤ tx a ∧ tx a ≤ 57
  · rw [if_pos h]; exact Or.inl ⟨h, rfl⟩
  · rw [if_neg h]; exact Or.inr ⟨h, rfl⟩
theorem mV_so {Y : Nat → ClassId} {h : Nat} {q : Nat → Nat} {z sp pa : Int → Int} {st : Int} {ke : Int → Int} {ik : Int} {tx : Int → Int} {ln sn se : Int} {dn up fa lo to : Int → Int} {tm so so' : Int} (e : so = so') : jLe (mV Y h q z sp pa st ke ik tx ln sn se dn up fa lo to tm so) (mV Y h q z sp pa st ke ik tx ln sn se dn up fa lo to tm so') := e ▸ jLe.rf _
theorem mV_tl {Y : Nat → ClassId} {h : Nat} {q : Nat → Nat} {z sp pa : Int → Int} {st : Int} {ke : Int → Int} {ik : Int} {tx tx' : Int → Int} {ln ln' sn se : Int} {dn up fa lo to : Int → Int} {tm so : Int} (e : tx = tx') (e2 : ln = ln') : jLe (mV Y h q z sp pa st ke ik tx ln sn se dn up fa lo to tm so) (mV Y h q z sp pa st ke ik tx' ln' sn se dn up fa lo to tm so) := e ▸ e2 ▸ jLe.rf _
/-- the things told, m of them -/
def Told (tx : Int → Int) (ln : Int) (t : Int → Int) (m : Int) : Prop := ∀ i : Int, 0 ≤ i → i < m → t (3 * i) = tK tx ln (aP tx ln i.toNat) ∧ t (3 * i + 1) = tFi tx ln (aP tx ln i.toNat) ∧ (¬ sg (tK tx ln (aP tx ln i.toNat)) = 0 → t (3 * i + 2) = tSe tx ln (aP tx ln i.toNat))
theorem Told.more {tx : Int → Int} {ln : Int} {t t' : Int → Int} {m : Int} (hm : 0 ≤ m) (h : Told tx ln t m) (h1 : ∀ j : Int, 0 ≤ j → j < 3 * m → t' j = t j) (h2 : t' (3 * m) = tK tx ln (aP tx ln m.toNat)) (h3 : t' (3 * m + 1) = tFi tx ln (aP tx ln m.toNat)) (h4 : ¬ sg (tK tx ln (aP tx ln m.toNat)) = 0 → t' (3 * m + 2) = tSe tx ln (aP tx ln m.toNat)) : Told tx ln t' (m + 1) := by
  intro i a b
  by_cases e : i = m
  · subst e
    exact ⟨h2, h3, h4⟩
  · have k := h i a (by omega)
    rw [h1 (3 * i) (by omega) (by omega), h1 (3 * i + 1) (by omega) (by omega), h1 (3 * i + 2) (by omega) (by omega)]
    exact k
/-- what a thing of a good text may say -/
def tB (K a b : Int) : Prop := (K = 116 → (0 ≤ a ∧ a ≤ 63) ∧ 0 ≤ b ∧ b ≤ 99) ∧ (K = 114 → 1 ≤ a ∧ a ≤ 9) ∧ (K = 104 → (0 ≤ a ∧ a ≤ 7) ∧ 0 ≤ b ∧ b ≤ 7) ∧ (K = 103 → (0 ≤ a ∧ a ≤ 2) ∧ 0 ≤ b ∧ b ≤ 63) ∧ (K = 102 → 0 ≤ a ∧ a ≤ 2) ∧ (K = 46 → 1 ≤ a ∧ a ≤ 99)
theorem tB_of {tx : Int → Int} {ln p : Int} (h : tOk tx ln p) : tB (tK tx ln p) (tFi tx ln p) (tSe tx ln p) := by
  have l1 : 0 ≤ lo1 (tK tx ln p) := by unfold lo1; split <;> omega
  have l2 : lo1 (tK tx ln p) ≤ 1 := by unfold lo1; split <;> omega
  have m1 : hi1 (tK tx ln p) ≤ 99 := by unfold hi1; (repeat' split) <;> omega
  have m2 : hi2 (tK tx ln p) ≤ 99 := by unfold hi2; (repeat' split) <;> omega
  have f : tFi tx ln p = -1 ∨ (lo1 (tK tx ln p) ≤ tFi tx ln p ∧ tFi tx ln p ≤ hi1 (tK tx ln p)) := nV_b l1 l2 m1
  have s : tSe tx ln p = -1 ∨ (0 ≤ tSe tx ln p ∧ tSe tx ln p ≤ hi2 (tK tx ln p)) := nV_b (Int.le_refl 0) (by omega) m2
  obtain ⟨_, hf, hs⟩ := h
  generalize tK tx ln p = K at *
  refine ⟨fun e => ?_, fun e => ?_, fun e => ?_, fun e => ?_, fun e => ?_, fun e => ?_⟩
  · subst e
    have a1 : lo1 116 = 0 := rfl
    have a2 : hi1 116 = 63 := rfl
    have a3 : hi2 116 = 99 := rfl
    have a4 : sg 116 = 61 := rfl
    omega
  · subst e
    have a1 : lo1 114 = 1 := rfl
    have a2 : hi1 114 = 9 := rfl
    omega
  · subst e
    have a1 : lo1 104 = 0 := rfl
    have a2 : hi1 104 = 7 := rfl
    have a3 : hi2 104 = 7 := rfl
    have a4 : sg 104 = 58 := rfl
    omega
  · subst e
    have a1 : lo1 103 = 0 := rfl
    have a2 : hi1 103 = 2 := rfl
    have a3 : hi2 103 = 63 := rfl
    have a4 : sg 103 = 62 := rfl
    omega
  · subst e
    have a1 : lo1 102 = 0 := rfl
    have a2 : hi1 102 = 2 := rfl
    omega
  · subst e
    have a1 : lo1 46 = 1 := rfl
    have a2 : hi1 46 = 99 := rfl
    omega
/-- a thing that is done without a fault -/
theorem dG_ok {z : Int → Int} {K a b : Int} (hI : Inv z) (hb : tB K a b) (hne : ¬ isE (dF z K a b)) : (K = 116 → dG z K a b = upZ z (28 + a) b) ∧ (K = 114 → dG z K a b = GR z a) ∧ (K = 104 → dG z K a b = upZ z (7 + a) b) ∧ (K = 103 → dG z K a b = GG z a b) ∧ (K = 102 → dG z K a b = if 0 < z (28 + z (15 + 4 * a)) then GF z a else z) ∧ (K = 46 → dG z K a b = GE z a) := by
  refine ⟨fun e => ?_, fun e => ?_, fun e => ?_, fun e => ?_, fun e => ?_, fun e => ?_⟩
  · have h := hb.1 e
    subst e
    show G_grow z a b = _
    exact if_pos (by omega)
  · have h := hb.2.1 e
    subst e
    show G_rain z a = _
    exact if_pos (by omega)
  · have h := hb.2.2.1 e
    subst e
    have hn : ¬ isE (F_hint z a b) := hne
    show G_hint z a b = _
    refine if_pos ⟨by omega, ?_⟩
    by_cases y : ¬ z (7 + a) = -5 ∨ pTh (tZ z) (a * 8 + b) = 0
    · refine absurd ?_ hn
      unfold F_hint
      rw [if_pos (by omega), if_pos (by omega), if_pos y]
      omega
    · omega
  · have h := hb.2.2.2.1 e
    subst e
    have hn : ¬ isE (F_go z a b) := hne
    show G_go z a b = _
    refine if_pos ⟨by omega, ?_⟩
    by_cases y : z (16 + 4 * a) < zWay z a b
    · refine absurd ?_ hn
      unfold F_go
      rw [if_pos (by omega), if_pos y]
      omega
    · omega
  · have h := hb.2.2.2.2.1 e
    subst e
    have hn : ¬ isE (F_fell z a) := hne
    have p := hI.pl a (by omega) (by omega)
    have w := hI.wo (z (15 + 4 * a)) (by omega) (by omega)
    show G_fell z a = _
    by_cases y : z (16 + 4 * a) < z 2
    · refine absurd ?_ hn
      unfold F_fell
      rw [if_pos (by omega), if_pos y]
      omega
    · unfold G_fell
      by_cases v : 0 < z (28 + z (15 + 4 * a))
      · rw [if_pos v, if_pos (by omega)]
      · rw [if_neg v, if_neg (by omega)]
  · have h := hb.2.2.2.2.2 e
    subst e
    have hn : ¬ isE (F_end z a) := hne
    show G_end z a = _
    refine if_pos ⟨by omega, ?_⟩
    by_cases y : 9999 < z 3 + a
    · refine absurd ?_ hn
      unfold F_end
      rw [if_pos (by omega), if_pos y]
      omega
    · omega
set_option maxHeartbeats 4000000 in
set_option maxRecDepth 100000 in
theorem c_X5_type (l : Launch) (D : va_G) (Y : Nat → ClassId) (h : Nat) (q : Nat → Nat) (z : Int → Int) (sp : Int → Int) (pa : Int → Int) (st : Int) (ke : Int → Int) (ik : Int) (tx : Int → Int) (ln : Int) (sn : Int) (se : Int) (dn : Int → Int) (up : Int → Int) (fa : Int → Int) (lo : Int → Int) (to : Int → Int) (tm : Int) (so : Int) (c : Int) (hln : 0 ≤ ln ∧ ln ≤ 60) (hc : 0 ≤ c ∧ c < 65536) : jM l yX5_type wsX5_type { frames := 0, cells := 0, slots := 0, locals := 0 } D Y [.ref h, .int (jI c)] (mV Y h q z sp pa st ke ik tx ln sn se dn up fa lo to tm so) (fun v_ w_ => v_ = some (.int (jI (if ln < 60 then ln + 1 else -3))) ∧ w_ = (mV Y h q z sp pa st ke ik (if ln < 60 then upZ tx ln c else tx) (if ln < 60 then ln + 1 else ln) sn se dn up fa lo to tm so)) 0 0 := by
  refine jM_of (cc := cX5_type) (maxL := 2) (ret := (some .int)) (by decide) rfl (Nat.le_of_ble_eq_true rfl) (fun v w' h => Or.inr (Or.inl ⟨_, _, rfl, h.1, rfl⟩)) ?_
  intro x G kr0
  have kr := kr0 _ _ ⟨rfl, rfl⟩
  have G : jG x l D Y cX5_type RX5 wsX5_type 2 ({ frames := 0, cells := 0, slots := 0, locals := 0 } : Room) (some .int) "type" := G
  have hinX5 : ∀ w ∈ wsX50, w ∈ wsX5_type := fun _ h => List.mem_cons_of_mem _ (List.mem_append_right _ h)
  show J x 0 0 (mV Y h q z sp pa st ke ik tx ln sn se dn up fa lo to tm so) 0 [(0, .ref h), (1, .int (jI c))] []
  refine j_aload_n G 0 dX5_type_0 rfl ?_
  refine j_get (q := 7) (C := RX5) (T := TX5) (N := 17) (v := .int (jI ln)) G 0 hinX5 dX5_type_1 rfl rfl (by decide) (by decide +kernel) rfl ?_
  refine j_bipush G dX5_type_4 (v := 60) rfl ?_
  refine j_icmp_ne (tgt := 12) G dX5_type_6 (by decide) (by omega) (by omega) (fun c6 => ?_) (fun c6 => ?_)
  · refine j_aload_n G 0 dX5_type_12 rfl ?_
    refine j_get (q := 6) (C := RX5) (T := TX5) (N := 17) (v := .ref (q 4)) G 0 hinX5 dX5_type_13 rfl rfl (by decide) (by decide +kernel) rfl ?_
    refine j_aload_n G 0 dX5_type_16 rfl ?_
    refine j_get (q := 7) (C := RX5) (T := TX5) (N := 17) (v := .int (jI ln)) G 0 hinX5 dX5_type_17 rfl rfl (by decide) (by decide +kernel) rfl ?_
    refine j_iload_n G 1 dX5_type_20 rfl ?_
    refine j_iast (ws' := mV Y h q z sp pa st ke ik (upZ tx ln c) ln sn se dn up fa lo to tm so) G 5 dX5_type_21 rfl (by omega) rfl ?_
    refine j_aload_n G 0 dX5_type_22 rfl ?_
    refine j_dup G dX5_type_23 rfl ?_
    refine j_get (q := 7) (C := RX5) (T := TX5) (N := 17) (v := .int (jI ln)) G 0 hinX5 dX5_type_24 rfl rfl (by decide) (by decide +kernel) rfl ?_
    refine j_iconst G dX5_type_27 (v := 1) rfl ?_
    refine j_iadd G dX5_type_28 ?_
    refine j_put (q := 7) (C := RX5) (T := TX5) (N := 17) (ws' := mV Y h q z sp pa st ke ik (upZ tx ln c) (ln + 1) sn se dn up fa lo to tm so) G 0 hinX5 tyX5 tyX5_ok nmX5 dX5_type_29 rfl rfl (by decide) (by decide +kernel) rfl rfl rfl rfl (Nat.le_of_ble_eq_true rfl) rfl ?_
    refine j_aload_n G 0 dX5_type_32 rfl ?_
    refine j_get (q := 7) (C := RX5) (T := TX5) (N := 17) (v := .int (jI (ln + 1))) G 0 hinX5 dX5_type_33 rfl rfl (by decide) (by decide +kernel) rfl ?_
    exact j_reti G dX5_type_36 (by (repeat' split) <;> omega) (by first | exact mV_tl (if_pos (by omega)).symm (if_pos (by omega)).symm | exact mV_tl (if_neg (by omega)).symm (if_neg (by omega)).symm) kr
  · refine j_bipush G dX5_type_9 (v := (-3)) rfl ?_
    exact j_reti G dX5_type_11 (by (repeat' split) <;> omega) (by first | exact mV_tl (if_pos (by omega)).symm (if_pos (by omega)).symm | exact mV_tl (if_neg (by omega)).symm (if_neg (by omega)).symm) kr

set_option maxHeartbeats 4000000 in
set_option maxRecDepth 100000 in
theorem c_X5_clearText (l : Launch) (D : va_G) (Y : Nat → ClassId) (h : Nat) (q : Nat → Nat) (z : Int → Int) (sp : Int → Int) (pa : Int → Int) (st : Int) (ke : Int → Int) (ik : Int) (tx : Int → Int) (ln : Int) (sn : Int) (se : Int) (dn : Int → Int) (up : Int → Int) (fa : Int → Int) (lo : Int → Int) (to : Int → Int) (tm : Int) (so : Int)  : jM l yX5_clearText wsX5_clearText { frames := 0, cells := 0, slots := 0, locals := 0 } D Y [.ref h] (mV Y h q z sp pa st ke ik tx ln sn se dn up fa lo to tm so) (fun v_ w_ => v_ = some (.int (jI ln)) ∧ w_ = (mV Y h q z sp pa st ke ik tx 0 sn se dn up fa lo to tm so)) 0 0 := by
  refine jM_of (cc := cX5_clearText) (maxL := 2) (ret := (some .int)) (by decide) rfl (Nat.le_of_ble_eq_true rfl) (fun v w' h => Or.inr (Or.inl ⟨_, _, rfl, h.1, rfl⟩)) ?_
  intro x G kr0
  have kr := kr0 _ _ ⟨rfl, rfl⟩
  have G : jG x l D Y cX5_clearText RX5 wsX5_clearText 2 ({ frames := 0, cells := 0, slots := 0, locals := 0 } : Room) (some .int) "clearText" := G
  have hinX5 : ∀ w ∈ wsX50, w ∈ wsX5_clearText := fun _ h => List.mem_cons_of_mem _ (List.mem_append_right _ h)
  show J x 0 0 (mV Y h q z sp pa st ke ik tx ln sn se dn up fa lo to tm so) 0 [(0, .ref h)] []
  refine j_aload_n G 0 dX5_clearText_0 rfl ?_
  refine j_get (q := 7) (C := RX5) (T := TX5) (N := 17) (v := .int (jI ln)) G 0 hinX5 dX5_clearText_1 rfl rfl (by decide) (by decide +kernel) rfl ?_
  refine j_istore_n (lv' := [(1, .int (jI ln)), (0, .ref h)]) G dX5_clearText_4 (by decide) rfl ?_
  refine j_aload_n G 1 dX5_clearText_5 rfl ?_
  refine j_iconst G dX5_clearText_6 (v := 0) rfl ?_
  refine j_put (q := 7) (C := RX5) (T := TX5) (N := 17) (ws' := mV Y h q z sp pa st ke ik tx 0 sn se dn up fa lo to tm so) G 0 hinX5 tyX5 tyX5_ok nmX5 dX5_clearText_7 rfl rfl (by decide) (by decide +kernel) rfl rfl rfl rfl (Nat.le_of_ble_eq_true rfl) rfl ?_
  refine j_iload_n G 0 dX5_clearText_10 rfl ?_
  exact j_reti G dX5_clearText_11 (by first | rfl | omega | exact ite_T (by omega) | exact ite_F (by omega)) (jLe.rf _) kr

set_option maxHeartbeats 4000000 in
set_option maxRecDepth 100000 in
theorem c_X5_sees (l : Launch) (D : va_G) (Y : Nat → ClassId) (h : Nat) (q : Nat → Nat) (z : Int → Int) (sp : Int → Int) (pa : Int → Int) (st : Int) (ke : Int → Int) (ik : Int) (tx : Int → Int) (ln : Int) (sn : Int) (se : Int) (dn : Int → Int) (up : Int → Int) (fa : Int → Int) (lo : Int → Int) (to : Int → Int) (tm : Int) (so : Int) (a : Int) (b : Int) (htx : ∀ j : Int, 0 ≤ j → j < 60 → 0 ≤ tx j ∧ tx j < 65536) (hln : 0 ≤ ln ∧ ln ≤ 60) (hso : 0 ≤ so ∧ so ≤ ln) (h_a : -2147483648 ≤ a ∧ a < 2147483648) (h_b : -2147483648 ≤ b ∧ b < 2147483648) : jM l yX5_sees wsX5_sees { frames := 1, cells := 0, slots := 0, locals := 22 } D Y [.ref h, .int (jI a), .int (jI b)] (mV Y h q z sp pa st ke ik tx ln sn se dn up fa lo to tm so) (fun v_ w_ => v_ = some (.int (jI (if so < ln ∧ (a ≤ tx so ∧ tx so ≤ b) then 1 else 0))) ∧ w_ = (mV Y h q z sp pa st ke ik tx ln sn se dn up fa lo to tm so)) 0 0 := by
  refine jM_of (cc := cX5_sees) (maxL := 3) (ret := (some .boolean)) (by decide) rfl (Nat.le_of_ble_eq_true rfl) (fun v w' h => Or.inr (Or.inl ⟨_, _, rfl, h.1, jI_z (ite_01 _)⟩)) ?_
  intro x G kr0
  have kr := kr0 _ _ ⟨rfl, rfl⟩
  have G : jG x l D Y cX5_sees RX5 wsX5_sees 3 ({ frames := 1, cells := 0, slots := 0, locals := 22 } : Room) (some .boolean) "sees" := G
  have hinX5 : ∀ w ∈ wsX50, w ∈ wsX5_sees := fun _ h => List.mem_cons_of_mem _ (List.mem_append_right _ h)
  show J x 0 0 (mV Y h q z sp pa st ke ik tx ln sn se dn up fa lo to tm so) 0 [(0, .ref h), (1, .int (jI a)), (2, .int (jI b))] []
  refine j_aload_n G 0 dX5_sees_0 rfl ?_
  refine j_get (q := 16) (C := RX5) (T := TX5) (N := 17) (v := .int (jI so)) G 0 hinX5 dX5_sees_1 rfl rfl (by decide) (by decide +kernel) rfl ?_
  refine j_aload_n G 0 dX5_sees_4 rfl ?_
  refine j_get (q := 7) (C := RX5) (T := TX5) (N := 17) (v := .int (jI ln)) G 0 hinX5 dX5_sees_5 rfl rfl (by decide) (by decide +kernel) rfl ?_
  refine j_icmp_ge (tgt := 32) G dX5_sees_8 (by decide) (by omega) (by omega) (fun c8 => ?_) (fun c8 => ?_)
  · refine j_iconst G dX5_sees_32 (v := 0) rfl ?_
    exact j_reti G dX5_sees_33 (by first | rfl | omega | exact ite_T (by omega) | exact ite_F (by omega)) (jLe.rf _) kr
  · refine j_aload_n G 0 dX5_sees_11 rfl ?_
    refine j_get (q := 6) (C := RX5) (T := TX5) (N := 17) (v := .ref (q 4)) G 0 hinX5 dX5_sees_12 rfl rfl (by decide) (by decide +kernel) rfl ?_
    refine j_aload_n G 0 dX5_sees_15 rfl ?_
    refine j_get (q := 16) (C := RX5) (T := TX5) (N := 17) (v := .int (jI so)) G 0 hinX5 dX5_sees_16 rfl rfl (by decide) (by decide +kernel) rfl ?_
    refine j_iald (v := tx so) G 5 dX5_sees_19 rfl (by omega) rfl ?_
    have f20 := htx so (by omega) (by omega)
    refine j_iload_n G 1 dX5_sees_20 rfl ?_
    refine j_iload_n G 2 dX5_sees_21 rfl ?_
    refine j_callS (nA := 3) (As := [.int (jI (tx so)), .int (jI a), .int (jI b)]) (st := []) (wc := []) (wr := (mV Y h q z sp pa st ke ik tx ln sn se dn up fa lo to tm so)) G (c_X5_in l D Y (tx so) a b (by first | assumption | omega) (by first | assumption | omega) (by first | assumption | omega)) dX5_sees_22 rfl gX5_sees_X5_in rfl rfl rfl (by decide +kernel) ⟨by decide, by decide⟩ rfl (jLe.rf _) (Nat.le_of_ble_eq_true rfl) ⟨Nat.zero_le _, Nat.zero_le _⟩ (fun v_ w_ hp_ => ?_)
    obtain ⟨rfl, rfl⟩ := hp_
    show J x 0 0 (mV Y h q z sp pa st ke ik tx ln sn se dn up fa lo to tm so) 25 [(0, .ref h), (1, .int (jI a)), (2, .int (jI b))] [.int (jI (if a ≤ (tx so) ∧ (tx so) ≤ b then 1 else 0))]
    refine j_ifz_eq (tgt := 32) G dX5_sees_25 (by decide) (fun c25 => ?_) (fun c25 => ?_)
    · refine j_iconst G dX5_sees_32 (v := 0) rfl ?_
      exact j_reti G dX5_sees_33 (by first | rfl | omega | exact ite_T (by omega) | exact ite_F (by omega)) (jLe.rf _) kr
    · refine j_iconst G dX5_sees_28 (v := 1) rfl ?_
      refine j_goto (tgt := 33) G dX5_sees_29 (by decide) ?_
      exact j_reti G dX5_sees_33 (by first | rfl | omega | exact ite_T (by omega) | exact ite_F (by omega)) (jLe.rf _) kr

set_option maxHeartbeats 4000000 in
set_option maxRecDepth 100000 in
theorem c_X5_takes (l : Launch) (D : va_G) (Y : Nat → ClassId) (h : Nat) (q : Nat → Nat) (z : Int → Int) (sp : Int → Int) (pa : Int → Int) (st : Int) (ke : Int → Int) (ik : Int) (tx : Int → Int) (ln : Int) (sn : Int) (se : Int) (dn : Int → Int) (up : Int → Int) (fa : Int → Int) (lo : Int → Int) (to : Int → Int) (tm : Int) (so : Int) (c : Int) (htx : ∀ j : Int, 0 ≤ j → j < 60 → 0 ≤ tx j ∧ tx j < 65536) (hln : 0 ≤ ln ∧ ln ≤ 60) (hso : 0 ≤ so ∧ so ≤ ln) (hc : 0 ≤ c ∧ c < 65536) : jM l yX5_takes wsX5_takes { frames := 2, cells := 0, slots := 0, locals := 44 } D Y [.ref h, .int (jI c)] (mV Y h q z sp pa st ke ik tx ln sn se dn up fa lo to tm so) (fun v_ w_ => v_ = some (.int (jI (if so < ln ∧ tx so = c then 1 else 0))) ∧ w_ = (mV Y h q z sp pa st ke ik tx ln sn se dn up fa lo to tm (if so < ln ∧ tx so = c then so + 1 else so))) 0 0 := by
  refine jM_of (cc := cX5_takes) (maxL := 3) (ret := (some .boolean)) (by decide) rfl (Nat.le_of_ble_eq_true rfl) (fun v w' h => Or.inr (Or.inl ⟨_, _, rfl, h.1, jI_z (ite_01 _)⟩)) ?_
  intro x G kr0
  have kr := kr0 _ _ ⟨rfl, rfl⟩
  have G : jG x l D Y cX5_takes RX5 wsX5_takes 3 ({ frames := 2, cells := 0, slots := 0, locals := 44 } : Room) (some .boolean) "takes" := G
  have hinX5 : ∀ w ∈ wsX50, w ∈ wsX5_takes := fun _ h => List.mem_cons_of_mem _ (List.mem_append_right _ h)
  show J x 0 0 (mV Y h q z sp pa st ke ik tx ln sn se dn up fa lo to tm so) 0 [(0, .ref h), (1, .int (jI c))] []
  refine j_aload_n G 0 dX5_takes_0 rfl ?_
  refine j_iload_n G 1 dX5_takes_1 rfl ?_
  refine j_iload_n G 1 dX5_takes_2 rfl ?_
  refine j_callV (nA := 2) (As := [.int (jI c), .int (jI c)]) (st := []) (wc := (mV Y h q z sp pa st ke ik tx ln sn se dn up fa lo to tm so)) (wr := []) G (c_X5_sees l D Y h q z sp pa st ke ik tx ln sn se dn up fa lo to tm so c c (by first | assumption | omega) (by first | assumption | omega) (by first | assumption | omega) (by first | assumption | omega) (by first | assumption | omega)) dX5_takes_3 rfl gX5_takes_X5_sees rfl rfl rfl (by decide +kernel) ⟨by decide, by decide⟩ rfl 0 rfl rfl rfl (jLe.nil (jLe.rf _)) (Nat.le_of_ble_eq_true rfl) ⟨Nat.zero_le _, Nat.zero_le _⟩ (fun v_ w_ hp_ => ?_)
  obtain ⟨rfl, rfl⟩ := hp_
  show J x 0 0 (mV Y h q z sp pa st ke ik tx ln sn se dn up fa lo to tm so) 6 [(0, .ref h), (1, .int (jI c))] [.int (jI (if so < ln ∧ (c ≤ tx so ∧ tx so ≤ c) then 1 else 0))]
  refine j_istore_n (lv' := [(2, .int (jI (if so < ln ∧ (c ≤ tx so ∧ tx so ≤ c) then 1 else 0))), (0, .ref h), (1, .int (jI c))]) G dX5_takes_6 (by decide) rfl ?_
  refine j_aload_n G 1 dX5_takes_7 rfl ?_
  refine j_dup G dX5_takes_8 rfl ?_
  refine j_get (q := 16) (C := RX5) (T := TX5) (N := 17) (v := .int (jI so)) G 0 hinX5 dX5_takes_9 rfl rfl (by decide) (by decide +kernel) rfl ?_
  refine j_iload_n G 0 dX5_takes_12 rfl ?_
  refine j_ifz_eq (tgt := 20) G dX5_takes_13 (by decide) (fun c13 => ?_) (fun c13 => ?_)
  · refine j_iconst G dX5_takes_20 (v := 0) rfl ?_
    refine j_iadd G dX5_takes_21 ?_
    refine j_put (q := 16) (C := RX5) (T := TX5) (N := 17) (ws' := mV Y h q z sp pa st ke ik tx ln sn se dn up fa lo to tm (so + 0)) G 0 hinX5 tyX5 tyX5_ok nmX5 dX5_takes_22 rfl rfl (by decide) (by decide +kernel) rfl rfl rfl rfl (Nat.le_of_ble_eq_true rfl) rfl ?_
    refine j_iload_n G 0 dX5_takes_25 rfl ?_
    exact j_reti G dX5_takes_26 (by (repeat' split) <;> omega) (by exact mV_so (by split <;> omega)) kr
  · refine j_iconst G dX5_takes_16 (v := 1) rfl ?_
    refine j_goto (tgt := 21) G dX5_takes_17 (by decide) ?_
    refine j_iadd G dX5_takes_21 ?_
    refine j_put (q := 16) (C := RX5) (T := TX5) (N := 17) (ws' := mV Y h q z sp pa st ke ik tx ln sn se dn up fa lo to tm (so + 1)) G 0 hinX5 tyX5 tyX5_ok nmX5 dX5_takes_22 rfl rfl (by decide) (by decide +kernel) rfl rfl rfl rfl (Nat.le_of_ble_eq_true rfl) rfl ?_
    refine j_iload_n G 0 dX5_takes_25 rfl ?_
    exact j_reti G dX5_takes_26 (by (repeat' split) <;> omega) (by exact mV_so (by split <;> omega)) kr

set_option maxHeartbeats 4000000 in
set_option maxRecDepth 100000 in
theorem c_X5_number (l : Launch) (D : va_G) (Y : Nat → ClassId) (h : Nat) (q : Nat → Nat) (z : Int → Int) (sp : Int → Int) (pa : Int → Int) (st : Int) (ke : Int → Int) (ik : Int) (tx : Int → Int) (ln : Int) (sn : Int) (se : Int) (dn : Int → Int) (up : Int → Int) (fa : Int → Int) (lo : Int → Int) (to : Int → Int) (tm : Int) (so : Int) (lw : Int) (hg : Int) (htx : ∀ j : Int, 0 ≤ j → j < 60 → 0 ≤ tx j ∧ tx j < 65536) (hln : 0 ≤ ln ∧ ln ≤ 60) (hso : 0 ≤ so ∧ so ≤ ln) (hlo : 0 ≤ lw ∧ lw ≤ 1) (hhi : 2 ≤ hg ∧ hg ≤ 99) : jM l yX5_number wsX5_number { frames := 2, cells := 0, slots := 0, locals := 44 } D Y [.ref h, .int (jI lw), .int (jI hg)] (mV Y h q z sp pa st ke ik tx ln sn se dn up fa lo to tm so) (fun v_ w_ => v_ = some (.int (jI (n5 (nV tx ln lw hg so)))) ∧ w_ = (mV Y h q z sp pa st ke ik tx ln sn se dn up fa lo to tm (nP tx ln lw hg so))) 0 0 := by
  refine jM_of (cc := cX5_number) (maxL := 4) (ret := (some .int)) (by decide) rfl (Nat.le_of_ble_eq_true rfl) (fun v w' h => Or.inr (Or.inl ⟨_, _, rfl, h.1, rfl⟩)) ?_
  intro x G kr0
  have kr := kr0 _ _ ⟨rfl, rfl⟩
  have G : jG x l D Y cX5_number RX5 wsX5_number 4 ({ frames := 2, cells := 0, slots := 0, locals := 44 } : Room) (some .int) "number" := G
  have hinX5 : ∀ w ∈ wsX50, w ∈ wsX5_number := fun _ h => List.mem_cons_of_mem _ (List.mem_append_right _ h)
  have e1 := dg_c tx ln so
  have e2 := dg_c tx ln (so + 1)
  show J x 0 0 (mV Y h q z sp pa st ke ik tx ln sn se dn up fa lo to tm so) 0 [(0, .ref h), (1, .int (jI lw)), (2, .int (jI hg))] []
  refine j_aload_n G 0 dX5_number_0 rfl ?_
  refine j_bipush G dX5_number_1 (v := 48) rfl ?_
  refine j_iload_n G 1 dX5_number_3 rfl ?_
  refine j_iadd G dX5_number_4 ?_
  refine j_iload_n G 2 dX5_number_5 rfl ?_
  refine j_bipush G dX5_number_6 (v := 9) rfl ?_
  refine j_icmp_ge (tgt := 18) G dX5_number_8 (by decide) (by omega) (by omega) (fun c8 => ?_) (fun c8 => ?_)
  · refine j_bipush G dX5_number_18 (v := 57) rfl ?_
    refine j_callV (nA := 2) (As := [.int (jI (48 + lw)), .int (jI 57)]) (st := []) (wc := (mV Y h q z sp pa st ke ik tx ln sn se dn up fa lo to tm so)) (wr := []) G (c_X5_sees l D Y h q z sp pa st ke ik tx ln sn se dn up fa lo to tm so (48 + lw) 57 (by first | assumption | omega) (by first | assumption | omega) (by first | assumption | omega) (by first | assumption | omega) (by first | assumption | omega)) dX5_number_20 rfl gX5_number_X5_sees rfl rfl rfl (by decide +kernel) ⟨by decide, by decide⟩ rfl 0 rfl rfl rfl (jLe.nil (jLe.rf _)) (Nat.le_of_ble_eq_true rfl) ⟨Nat.zero_le _, Nat.zero_le _⟩ (fun v_ w_ hp_ => ?_)
    obtain ⟨rfl, rfl⟩ := hp_
    show J x 0 0 (mV Y h q z sp pa st ke ik tx ln sn se dn up fa lo to tm so) 23 [(0, .ref h), (1, .int (jI lw)), (2, .int (jI hg))] [.int (jI (if so < ln ∧ ((48 + lw) ≤ tx so ∧ tx so ≤ 57) then 1 else 0))]
    refine j_ifz_ne (tgt := 29) G dX5_number_23 (by decide) (fun c23 => ?_) (fun c23 => ?_)
    · refine j_aload_n G 0 dX5_number_29 rfl ?_
      refine j_get (q := 6) (C := RX5) (T := TX5) (N := 17) (v := .ref (q 4)) G 0 hinX5 dX5_number_30 rfl rfl (by decide) (by decide +kernel) rfl ?_
      refine j_aload_n G 0 dX5_number_33 rfl ?_
      refine j_get (q := 16) (C := RX5) (T := TX5) (N := 17) (v := .int (jI so)) G 0 hinX5 dX5_number_34 rfl rfl (by decide) (by decide +kernel) rfl ?_
      refine j_iald (v := tx so) G 5 dX5_number_37 rfl (by omega) rfl ?_
      have f38 := htx so (by omega) (by omega)
      refine j_bipush G dX5_number_38 (v := 48) rfl ?_
      refine j_isub G dX5_number_40 ?_
      refine j_istore_n (lv' := [(3, .int (jI ((tx so) - 48))), (0, .ref h), (1, .int (jI lw)), (2, .int (jI hg))]) G dX5_number_41 (by decide) rfl ?_
      refine j_aload_n G 1 dX5_number_42 rfl ?_
      refine j_dup G dX5_number_43 rfl ?_
      refine j_get (q := 16) (C := RX5) (T := TX5) (N := 17) (v := .int (jI so)) G 0 hinX5 dX5_number_44 rfl rfl (by decide) (by decide +kernel) rfl ?_
      refine j_iconst G dX5_number_47 (v := 1) rfl ?_
      refine j_iadd G dX5_number_48 ?_
      refine j_put (q := 16) (C := RX5) (T := TX5) (N := 17) (ws' := mV Y h q z sp pa st ke ik tx ln sn se dn up fa lo to tm (so + 1)) G 0 hinX5 tyX5 tyX5_ok nmX5 dX5_number_49 rfl rfl (by decide) (by decide +kernel) rfl rfl rfl rfl (Nat.le_of_ble_eq_true rfl) rfl ?_
      have lp52 : ∀ (n_ : Nat) (d : Int) (o : Int), (so + 1 ≤ o ∧ o ≤ ln) → (lw ≤ dg tx ln so ∧ dg tx ln so ≤ hg) → ((o = so + 1 ∧ d = dg tx ln so) ∨ (o = so + 2 ∧ 1 ≤ dg tx ln so ∧ 0 ≤ dg tx ln (so + 1) ∧ d = dg tx ln so * 10 + dg tx ln (so + 1) ∧ d ≤ hg)) → (o = so + 1 → tx o = tx (so + 1)) → (ln - o) < (n_ : Int) → J x 0 0 (mV Y h q z sp pa st ke ik tx ln sn se dn up fa lo to tm o) 52 [(0, .ref h), (1, .int (jI lw)), (2, .int (jI hg)), (3, .int (jI d))] [] := by
        intro n_
        induction n_ with
        | zero =>
          intro d o ho hr hd he hm_
          exact absurd hm_ (by omega)
        | succ n_ ih52 =>
          intro d o ho hr hd he hm_
          refine j_iload_n G 3 dX5_number_52 rfl ?_
          refine j_if_le (tgt := 119) G dX5_number_53 (by decide) (by omega) (fun c53 => ?_) (fun c53 => ?_)
          · refine j_iload_n G 3 dX5_number_119 rfl ?_
            exact j_reti G dX5_number_120 (by unfold n5 nV; (repeat' split) <;> omega) (by exact mV_so (by unfold nP; (repeat' split) <;> omega)) kr
          · refine j_aload_n G 0 dX5_number_56 rfl ?_
            refine j_bipush G dX5_number_57 (v := 48) rfl ?_
            refine j_bipush G dX5_number_59 (v := 57) rfl ?_
            refine j_callV (nA := 2) (As := [.int (jI 48), .int (jI 57)]) (st := []) (wc := (mV Y h q z sp pa st ke ik tx ln sn se dn up fa lo to tm o)) (wr := []) G (c_X5_sees l D Y h q z sp pa st ke ik tx ln sn se dn up fa lo to tm o 48 57 (by first | assumption | omega) (by first | assumption | omega) (by first | assumption | omega) (by first | assumption | omega) (by first | assumption | omega)) dX5_number_61 rfl gX5_number_X5_sees rfl rfl rfl (by decide +kernel) ⟨by decide, by decide⟩ rfl 0 rfl rfl rfl (jLe.nil (jLe.rf _)) (Nat.le_of_ble_eq_true rfl) ⟨Nat.zero_le _, Nat.zero_le _⟩ (fun v_ w_ hp_ => ?_)
            obtain ⟨rfl, rfl⟩ := hp_
            show J x 0 0 (mV Y h q z sp pa st ke ik tx ln sn se dn up fa lo to tm o) 64 [(0, .ref h), (1, .int (jI lw)), (2, .int (jI hg)), (3, .int (jI d))] [.int (jI (if o < ln ∧ (48 ≤ tx o ∧ tx o ≤ 57) then 1 else 0))]
            refine j_ifz_eq (tgt := 119) G dX5_number_64 (by decide) (fun c64 => ?_) (fun c64 => ?_)
            · refine j_iload_n G 3 dX5_number_119 rfl ?_
              exact j_reti G dX5_number_120 (by unfold n5 nV; (repeat' split) <;> omega) (by exact mV_so (by unfold nP; (repeat' split) <;> omega)) kr
            · refine j_bipush G dX5_number_67 (v := 10) rfl ?_
              refine j_iload_n G 3 dX5_number_69 rfl ?_
              refine j_imul G dX5_number_70 ?_
              refine j_aload_n G 0 dX5_number_71 rfl ?_
              refine j_get (q := 6) (C := RX5) (T := TX5) (N := 17) (v := .ref (q 4)) G 0 hinX5 dX5_number_72 rfl rfl (by decide) (by decide +kernel) rfl ?_
              refine j_aload_n G 0 dX5_number_75 rfl ?_
              refine j_get (q := 16) (C := RX5) (T := TX5) (N := 17) (v := .int (jI o)) G 0 hinX5 dX5_number_76 rfl rfl (by decide) (by decide +kernel) rfl ?_
              refine j_iald (v := tx o) G 5 dX5_number_79 rfl (by omega) rfl ?_
              have f80 := htx o (by omega) (by omega)
              refine j_iadd G dX5_number_80 ?_
              refine j_bipush G dX5_number_81 (v := 48) rfl ?_
              refine j_isub G dX5_number_83 ?_
              refine j_iload_n G 2 dX5_number_84 rfl ?_
              refine j_icmp_gt (tgt := 119) G dX5_number_85 (by decide) (by omega) (by omega) (fun c85 => ?_) (fun c85 => ?_)
              · refine j_iload_n G 3 dX5_number_119 rfl ?_
                exact j_reti G dX5_number_120 (by unfold n5 nV; (repeat' split) <;> omega) (by exact mV_so (by unfold nP; (repeat' split) <;> omega)) kr
              · refine j_bipush G dX5_number_88 (v := 10) rfl ?_
                refine j_iload_n G 3 dX5_number_90 rfl ?_
                refine j_imul G dX5_number_91 ?_
                refine j_aload_n G 0 dX5_number_92 rfl ?_
                refine j_get (q := 6) (C := RX5) (T := TX5) (N := 17) (v := .ref (q 4)) G 0 hinX5 dX5_number_93 rfl rfl (by decide) (by decide +kernel) rfl ?_
                refine j_aload_n G 0 dX5_number_96 rfl ?_
                refine j_get (q := 16) (C := RX5) (T := TX5) (N := 17) (v := .int (jI o)) G 0 hinX5 dX5_number_97 rfl rfl (by decide) (by decide +kernel) rfl ?_
                refine j_iald (v := tx o) G 5 dX5_number_100 rfl (by omega) rfl ?_
                have f80 := htx o (by omega) (by omega)
                refine j_iadd G dX5_number_101 ?_
                refine j_bipush G dX5_number_102 (v := 48) rfl ?_
                refine j_isub G dX5_number_104 ?_
                refine j_istore_n (lv' := [(3, .int (jI (((10 * d) + (tx o)) - 48))), (0, .ref h), (1, .int (jI lw)), (2, .int (jI hg))]) G dX5_number_105 (by decide) rfl ?_
                refine j_aload_n G 1 dX5_number_106 rfl ?_
                refine j_dup G dX5_number_107 rfl ?_
                refine j_get (q := 16) (C := RX5) (T := TX5) (N := 17) (v := .int (jI o)) G 0 hinX5 dX5_number_108 rfl rfl (by decide) (by decide +kernel) rfl ?_
                refine j_iconst G dX5_number_111 (v := 1) rfl ?_
                refine j_iadd G dX5_number_112 ?_
                refine j_put (q := 16) (C := RX5) (T := TX5) (N := 17) (ws' := mV Y h q z sp pa st ke ik tx ln sn se dn up fa lo to tm (o + 1)) G 0 hinX5 tyX5 tyX5_ok nmX5 dX5_number_113 rfl rfl (by decide) (by decide +kernel) rfl rfl rfl rfl (Nat.le_of_ble_eq_true rfl) rfl ?_
                refine j_goto (tgt := 52) G dX5_number_116 (by decide) ?_
                refine j_lv [1, 2, 3, 0] (lv' := [(0, .ref h), (1, .int (jI lw)), (2, .int (jI hg)), (3, .int (jI (((10 * d) + (tx o)) - 48)))]) rfl ?_
                exact ih52 (((10 * d) + (tx o)) - 48) (o + 1) (by omega) (by exact hr) (by omega) (by intro z; omega) (by omega)
      refine j_lv [1, 2, 3, 0] (lv' := [(0, .ref h), (1, .int (jI lw)), (2, .int (jI hg)), (3, .int (jI ((tx so) - 48)))]) rfl ?_
      exact lp52 (Int.toNat ((ln - (so + 1)) + 1)) ((tx so) - 48) (so + 1) (by omega) (by omega) (by omega) (by intro _; rfl) (by omega)
    · refine j_bipush G dX5_number_26 (v := (-5)) rfl ?_
      exact j_reti G dX5_number_28 (by unfold n5 nV; (repeat' split) <;> omega) (by exact mV_so (by unfold nP; (repeat' split) <;> omega)) kr
  · refine j_bipush G dX5_number_11 (v := 48) rfl ?_
    refine j_iload_n G 2 dX5_number_13 rfl ?_
    refine j_iadd G dX5_number_14 ?_
    refine j_goto (tgt := 20) G dX5_number_15 (by decide) ?_
    refine j_callV (nA := 2) (As := [.int (jI (48 + lw)), .int (jI (48 + hg))]) (st := []) (wc := (mV Y h q z sp pa st ke ik tx ln sn se dn up fa lo to tm so)) (wr := []) G (c_X5_sees l D Y h q z sp pa st ke ik tx ln sn se dn up fa lo to tm so (48 + lw) (48 + hg) (by first | assumption | omega) (by first | assumption | omega) (by first | assumption | omega) (by first | assumption | omega) (by first | assumption | omega)) dX5_number_20 rfl gX5_number_X5_sees rfl rfl rfl (by decide +kernel) ⟨by decide, by decide⟩ rfl 0 rfl rfl rfl (jLe.nil (jLe.rf _)) (Nat.le_of_ble_eq_true rfl) ⟨Nat.zero_le _, Nat.zero_le _⟩ (fun v_ w_ hp_ => ?_)
    obtain ⟨rfl, rfl⟩ := hp_
    show J x 0 0 (mV Y h q z sp pa st ke ik tx ln sn se dn up fa lo to tm so) 23 [(0, .ref h), (1, .int (jI lw)), (2, .int (jI hg))] [.int (jI (if so < ln ∧ ((48 + lw) ≤ tx so ∧ tx so ≤ (48 + hg)) then 1 else 0))]
    refine j_ifz_ne (tgt := 29) G dX5_number_23 (by decide) (fun c23 => ?_) (fun c23 => ?_)
    · refine j_aload_n G 0 dX5_number_29 rfl ?_
      refine j_get (q := 6) (C := RX5) (T := TX5) (N := 17) (v := .ref (q 4)) G 0 hinX5 dX5_number_30 rfl rfl (by decide) (by decide +kernel) rfl ?_
      refine j_aload_n G 0 dX5_number_33 rfl ?_
      refine j_get (q := 16) (C := RX5) (T := TX5) (N := 17) (v := .int (jI so)) G 0 hinX5 dX5_number_34 rfl rfl (by decide) (by decide +kernel) rfl ?_
      refine j_iald (v := tx so) G 5 dX5_number_37 rfl (by omega) rfl ?_
      have f38 := htx so (by omega) (by omega)
      refine j_bipush G dX5_number_38 (v := 48) rfl ?_
      refine j_isub G dX5_number_40 ?_
      refine j_istore_n (lv' := [(3, .int (jI ((tx so) - 48))), (0, .ref h), (1, .int (jI lw)), (2, .int (jI hg))]) G dX5_number_41 (by decide) rfl ?_
      refine j_aload_n G 1 dX5_number_42 rfl ?_
      refine j_dup G dX5_number_43 rfl ?_
      refine j_get (q := 16) (C := RX5) (T := TX5) (N := 17) (v := .int (jI so)) G 0 hinX5 dX5_number_44 rfl rfl (by decide) (by decide +kernel) rfl ?_
      refine j_iconst G dX5_number_47 (v := 1) rfl ?_
      refine j_iadd G dX5_number_48 ?_
      refine j_put (q := 16) (C := RX5) (T := TX5) (N := 17) (ws' := mV Y h q z sp pa st ke ik tx ln sn se dn up fa lo to tm (so + 1)) G 0 hinX5 tyX5 tyX5_ok nmX5 dX5_number_49 rfl rfl (by decide) (by decide +kernel) rfl rfl rfl rfl (Nat.le_of_ble_eq_true rfl) rfl ?_
      have lp52 : ∀ (n_ : Nat) (d : Int) (o : Int), (so + 1 ≤ o ∧ o ≤ ln) → (lw ≤ dg tx ln so ∧ dg tx ln so ≤ hg) → ((o = so + 1 ∧ d = dg tx ln so) ∨ (o = so + 2 ∧ 1 ≤ dg tx ln so ∧ 0 ≤ dg tx ln (so + 1) ∧ d = dg tx ln so * 10 + dg tx ln (so + 1) ∧ d ≤ hg)) → (o = so + 1 → tx o = tx (so + 1)) → (ln - o) < (n_ : Int) → J x 0 0 (mV Y h q z sp pa st ke ik tx ln sn se dn up fa lo to tm o) 52 [(0, .ref h), (1, .int (jI lw)), (2, .int (jI hg)), (3, .int (jI d))] [] := by
        intro n_
        induction n_ with
        | zero =>
          intro d o ho hr hd he hm_
          exact absurd hm_ (by omega)
        | succ n_ ih52 =>
          intro d o ho hr hd he hm_
          refine j_iload_n G 3 dX5_number_52 rfl ?_
          refine j_if_le (tgt := 119) G dX5_number_53 (by decide) (by omega) (fun c53 => ?_) (fun c53 => ?_)
          · refine j_iload_n G 3 dX5_number_119 rfl ?_
            exact j_reti G dX5_number_120 (by unfold n5 nV; (repeat' split) <;> omega) (by exact mV_so (by unfold nP; (repeat' split) <;> omega)) kr
          · refine j_aload_n G 0 dX5_number_56 rfl ?_
            refine j_bipush G dX5_number_57 (v := 48) rfl ?_
            refine j_bipush G dX5_number_59 (v := 57) rfl ?_
            refine j_callV (nA := 2) (As := [.int (jI 48), .int (jI 57)]) (st := []) (wc := (mV Y h q z sp pa st ke ik tx ln sn se dn up fa lo to tm o)) (wr := []) G (c_X5_sees l D Y h q z sp pa st ke ik tx ln sn se dn up fa lo to tm o 48 57 (by first | assumption | omega) (by first | assumption | omega) (by first | assumption | omega) (by first | assumption | omega) (by first | assumption | omega)) dX5_number_61 rfl gX5_number_X5_sees rfl rfl rfl (by decide +kernel) ⟨by decide, by decide⟩ rfl 0 rfl rfl rfl (jLe.nil (jLe.rf _)) (Nat.le_of_ble_eq_true rfl) ⟨Nat.zero_le _, Nat.zero_le _⟩ (fun v_ w_ hp_ => ?_)
            obtain ⟨rfl, rfl⟩ := hp_
            show J x 0 0 (mV Y h q z sp pa st ke ik tx ln sn se dn up fa lo to tm o) 64 [(0, .ref h), (1, .int (jI lw)), (2, .int (jI hg)), (3, .int (jI d))] [.int (jI (if o < ln ∧ (48 ≤ tx o ∧ tx o ≤ 57) then 1 else 0))]
            refine j_ifz_eq (tgt := 119) G dX5_number_64 (by decide) (fun c64 => ?_) (fun c64 => ?_)
            · refine j_iload_n G 3 dX5_number_119 rfl ?_
              exact j_reti G dX5_number_120 (by unfold n5 nV; (repeat' split) <;> omega) (by exact mV_so (by unfold nP; (repeat' split) <;> omega)) kr
            · refine j_bipush G dX5_number_67 (v := 10) rfl ?_
              refine j_iload_n G 3 dX5_number_69 rfl ?_
              refine j_imul G dX5_number_70 ?_
              refine j_aload_n G 0 dX5_number_71 rfl ?_
              refine j_get (q := 6) (C := RX5) (T := TX5) (N := 17) (v := .ref (q 4)) G 0 hinX5 dX5_number_72 rfl rfl (by decide) (by decide +kernel) rfl ?_
              refine j_aload_n G 0 dX5_number_75 rfl ?_
              refine j_get (q := 16) (C := RX5) (T := TX5) (N := 17) (v := .int (jI o)) G 0 hinX5 dX5_number_76 rfl rfl (by decide) (by decide +kernel) rfl ?_
              refine j_iald (v := tx o) G 5 dX5_number_79 rfl (by omega) rfl ?_
              have f80 := htx o (by omega) (by omega)
              refine j_iadd G dX5_number_80 ?_
              refine j_bipush G dX5_number_81 (v := 48) rfl ?_
              refine j_isub G dX5_number_83 ?_
              refine j_iload_n G 2 dX5_number_84 rfl ?_
              refine j_icmp_gt (tgt := 119) G dX5_number_85 (by decide) (by omega) (by omega) (fun c85 => ?_) (fun c85 => ?_)
              · refine j_iload_n G 3 dX5_number_119 rfl ?_
                exact j_reti G dX5_number_120 (by unfold n5 nV; (repeat' split) <;> omega) (by exact mV_so (by unfold nP; (repeat' split) <;> omega)) kr
              · refine j_bipush G dX5_number_88 (v := 10) rfl ?_
                refine j_iload_n G 3 dX5_number_90 rfl ?_
                refine j_imul G dX5_number_91 ?_
                refine j_aload_n G 0 dX5_number_92 rfl ?_
                refine j_get (q := 6) (C := RX5) (T := TX5) (N := 17) (v := .ref (q 4)) G 0 hinX5 dX5_number_93 rfl rfl (by decide) (by decide +kernel) rfl ?_
                refine j_aload_n G 0 dX5_number_96 rfl ?_
                refine j_get (q := 16) (C := RX5) (T := TX5) (N := 17) (v := .int (jI o)) G 0 hinX5 dX5_number_97 rfl rfl (by decide) (by decide +kernel) rfl ?_
                refine j_iald (v := tx o) G 5 dX5_number_100 rfl (by omega) rfl ?_
                have f80 := htx o (by omega) (by omega)
                refine j_iadd G dX5_number_101 ?_
                refine j_bipush G dX5_number_102 (v := 48) rfl ?_
                refine j_isub G dX5_number_104 ?_
                refine j_istore_n (lv' := [(3, .int (jI (((10 * d) + (tx o)) - 48))), (0, .ref h), (1, .int (jI lw)), (2, .int (jI hg))]) G dX5_number_105 (by decide) rfl ?_
                refine j_aload_n G 1 dX5_number_106 rfl ?_
                refine j_dup G dX5_number_107 rfl ?_
                refine j_get (q := 16) (C := RX5) (T := TX5) (N := 17) (v := .int (jI o)) G 0 hinX5 dX5_number_108 rfl rfl (by decide) (by decide +kernel) rfl ?_
                refine j_iconst G dX5_number_111 (v := 1) rfl ?_
                refine j_iadd G dX5_number_112 ?_
                refine j_put (q := 16) (C := RX5) (T := TX5) (N := 17) (ws' := mV Y h q z sp pa st ke ik tx ln sn se dn up fa lo to tm (o + 1)) G 0 hinX5 tyX5 tyX5_ok nmX5 dX5_number_113 rfl rfl (by decide) (by decide +kernel) rfl rfl rfl rfl (Nat.le_of_ble_eq_true rfl) rfl ?_
                refine j_goto (tgt := 52) G dX5_number_116 (by decide) ?_
                refine j_lv [1, 2, 3, 0] (lv' := [(0, .ref h), (1, .int (jI lw)), (2, .int (jI hg)), (3, .int (jI (((10 * d) + (tx o)) - 48)))]) rfl ?_
                exact ih52 (((10 * d) + (tx o)) - 48) (o + 1) (by omega) (by exact hr) (by omega) (by intro z; omega) (by omega)
      refine j_lv [1, 2, 3, 0] (lv' := [(0, .ref h), (1, .int (jI lw)), (2, .int (jI hg)), (3, .int (jI ((tx so) - 48)))]) rfl ?_
      exact lp52 (Int.toNat ((ln - (so + 1)) + 1)) ((tx so) - 48) (so + 1) (by omega) (by omega) (by omega) (by intro _; rfl) (by omega)
    · refine j_bipush G dX5_number_26 (v := (-5)) rfl ?_
      exact j_reti G dX5_number_28 (by unfold n5 nV; (repeat' split) <;> omega) (by exact mV_so (by unfold nP; (repeat' split) <;> omega)) kr

set_option maxHeartbeats 4000000 in
set_option maxRecDepth 100000 in
theorem c_X5_second (l : Launch) (D : va_G) (Y : Nat → ClassId) (h : Nat) (q : Nat → Nat) (z : Int → Int) (sp : Int → Int) (pa : Int → Int) (st : Int) (ke : Int → Int) (ik : Int) (tx : Int → Int) (ln : Int) (sn : Int) (se : Int) (dn : Int → Int) (up : Int → Int) (fa : Int → Int) (lo : Int → Int) (to : Int → Int) (tm : Int) (so : Int) (v : Int) (sn2 : Int) (hg : Int) (htx : ∀ j : Int, 0 ≤ j → j < 60 → 0 ≤ tx j ∧ tx j < 65536) (hln : 0 ≤ ln ∧ ln ≤ 60) (hso : 0 ≤ so ∧ so ≤ ln) (hhi : 2 ≤ hg ∧ hg ≤ 99) (hsg : 0 ≤ sn2 ∧ sn2 < 65536) (h_v : -2147483648 ≤ v ∧ v < 2147483648) : jM l yX5_second wsX5_second { frames := 3, cells := 0, slots := 0, locals := 67 } D Y [.ref h, .int (jI v), .int (jI sn2), .int (jI hg)] (mV Y h q z sp pa st ke ik tx ln sn se dn up fa lo to tm so) (fun v_ w_ => v_ = some (.int (jI (if ¬ v = -5 ∧ (so < ln ∧ tx so = sn2) then n5 (nV tx ln 0 hg (so + 1)) else -5))) ∧ w_ = (mV Y h q z sp pa st ke ik tx ln sn se dn up fa lo to tm (if ¬ v = -5 ∧ (so < ln ∧ tx so = sn2) then nP tx ln 0 hg (so + 1) else so))) 0 0 := by
  refine jM_of (cc := cX5_second) (maxL := 4) (ret := (some .int)) (by decide) rfl (Nat.le_of_ble_eq_true rfl) (fun v w' h => Or.inr (Or.inl ⟨_, _, rfl, h.1, rfl⟩)) ?_
  intro x G kr0
  have kr := kr0 _ _ ⟨rfl, rfl⟩
  have G : jG x l D Y cX5_second RX5 wsX5_second 4 ({ frames := 3, cells := 0, slots := 0, locals := 67 } : Room) (some .int) "second" := G
  show J x 0 0 (mV Y h q z sp pa st ke ik tx ln sn se dn up fa lo to tm so) 0 [(0, .ref h), (1, .int (jI v)), (2, .int (jI sn2)), (3, .int (jI hg))] []
  refine j_iload_n G 1 dX5_second_0 rfl ?_
  refine j_bipush G dX5_second_1 (v := (-5)) rfl ?_
  refine j_icmp_eq (tgt := 23) G dX5_second_3 (by decide) (by omega) (by omega) (fun c3 => ?_) (fun c3 => ?_)
  · refine j_bipush G dX5_second_23 (v := (-5)) rfl ?_
    exact j_reti G dX5_second_25 (by first | exact (if_pos ⟨c3, c11⟩).symm | exact (if_neg (fun z => c11 z.2)).symm | exact (if_neg (fun z => z.1 c3)).symm) (by exact mV_so (by first | exact (if_pos ⟨c3, c11⟩).symm | (rw [if_neg c11]; exact (if_neg (fun z => c11 z.2)).symm) | exact (if_neg (fun z => z.1 c3)).symm)) kr
  · refine j_aload_n G 0 dX5_second_6 rfl ?_
    refine j_iload_n G 2 dX5_second_7 rfl ?_
    refine j_callV (nA := 1) (As := [.int (jI sn2)]) (st := []) (wc := (mV Y h q z sp pa st ke ik tx ln sn se dn up fa lo to tm so)) (wr := []) G (c_X5_takes l D Y h q z sp pa st ke ik tx ln sn se dn up fa lo to tm so sn2 (by first | assumption | omega) (by first | assumption | omega) (by first | assumption | omega) (by first | assumption | omega)) dX5_second_8 rfl gX5_second_X5_takes rfl rfl rfl (by decide +kernel) ⟨by decide, by decide⟩ rfl 0 rfl rfl rfl (jLe.nil (jLe.rf _)) (Nat.le_of_ble_eq_true rfl) ⟨Nat.zero_le _, Nat.zero_le _⟩ (fun v_ w_ hp_ => ?_)
    obtain ⟨rfl, rfl⟩ := hp_
    show J x 0 0 (mV Y h q z sp pa st ke ik tx ln sn se dn up fa lo to tm (if so < ln ∧ tx so = sn2 then so + 1 else so)) 11 [(0, .ref h), (1, .int (jI v)), (2, .int (jI sn2)), (3, .int (jI hg))] [.int (jI (if so < ln ∧ tx so = sn2 then 1 else 0))]
    refine j_ifz_eq (tgt := 23) G dX5_second_11 (by decide) (fun c11 => ?_) (fun c11 => ?_)
    · refine j_bipush G dX5_second_23 (v := (-5)) rfl ?_
      exact j_reti G dX5_second_25 (by first | exact (if_pos ⟨c3, c11⟩).symm | exact (if_neg (fun z => c11 z.2)).symm | exact (if_neg (fun z => z.1 c3)).symm) (by exact mV_so (by first | exact (if_pos ⟨c3, c11⟩).symm | (rw [if_neg c11]; exact (if_neg (fun z => c11 z.2)).symm) | exact (if_neg (fun z => z.1 c3)).symm)) kr
    · rw [if_pos c11]
      refine j_aload_n G 0 dX5_second_14 rfl ?_
      refine j_iconst G dX5_second_15 (v := 0) rfl ?_
      refine j_iload_n G 3 dX5_second_16 rfl ?_
      refine j_callV (nA := 2) (As := [.int (jI 0), .int (jI hg)]) (st := []) (wc := (mV Y h q z sp pa st ke ik tx ln sn se dn up fa lo to tm (so + 1))) (wr := []) G (c_X5_number l D Y h q z sp pa st ke ik tx ln sn se dn up fa lo to tm (so + 1) 0 hg (by first | assumption | omega) (by first | assumption | omega) (by first | assumption | omega) (by first | assumption | omega) (by first | assumption | omega)) dX5_second_17 rfl gX5_second_X5_number rfl rfl rfl (by decide +kernel) ⟨by decide, by decide⟩ rfl 0 rfl rfl rfl (jLe.nil (jLe.rf _)) (Nat.le_of_ble_eq_true rfl) ⟨Nat.zero_le _, Nat.zero_le _⟩ (fun v_ w_ hp_ => ?_)
      obtain ⟨rfl, rfl⟩ := hp_
      show J x 0 0 (mV Y h q z sp pa st ke ik tx ln sn se dn up fa lo to tm (nP tx ln 0 hg (so + 1))) 20 [(0, .ref h), (1, .int (jI v)), (2, .int (jI sn2)), (3, .int (jI hg))] [.int (jI (n5 (nV tx ln 0 hg (so + 1))))]
      refine j_goto (tgt := 25) G dX5_second_20 (by decide) ?_
      exact j_reti G dX5_second_25 (by first | exact (if_pos ⟨c3, c11⟩).symm | exact (if_neg (fun z => c11 z.2)).symm | exact (if_neg (fun z => z.1 c3)).symm) (by exact mV_so (by first | exact (if_pos ⟨c3, c11⟩).symm | (rw [if_neg c11]; exact (if_neg (fun z => c11 z.2)).symm) | exact (if_neg (fun z => z.1 c3)).symm)) kr

set_option maxHeartbeats 4000000 in
set_option maxRecDepth 100000 in
theorem c_X5_readThing (l : Launch) (D : va_G) (Y : Nat → ClassId) (h : Nat) (q : Nat → Nat) (z : Int → Int) (sp : Int → Int) (pa : Int → Int) (st : Int) (ke : Int → Int) (ik : Int) (tx : Int → Int) (ln : Int) (sn : Int) (se : Int) (dn : Int → Int) (up : Int → Int) (fa : Int → Int) (lo : Int → Int) (to : Int → Int) (tm : Int) (so : Int) (htx : ∀ j : Int, 0 ≤ j → j < 60 → 0 ≤ tx j ∧ tx j < 65536) (hln : 0 ≤ ln ∧ ln ≤ 60) (hso : 0 ≤ so ∧ so ≤ ln) (htm : 0 ≤ tm ∧ tm ≤ 30) : jM l yX5_readThing wsX5_readThing { frames := 4, cells := 0, slots := 0, locals := 90 } D Y [.ref h] (mV Y h q z sp pa st ke ik tx ln sn se dn up fa lo to tm so) (fun v_ w_ => ∃ (t2 : Int → Int) (m2 : Int), v_ = some (.int (jI (if tOk tx ln so then 1 else 0))) ∧ w_ = (mV Y h q z sp pa st ke ik tx ln sn se dn up fa lo t2 m2 (tEnd tx ln so)) ∧ ((tOk tx ln so → m2 = tm + 1 ∧ (∀ j : Int, 0 ≤ j → j < 3 * tm → t2 j = to j) ∧ t2 (3 * tm) = tK tx ln so ∧ t2 (3 * tm + 1) = tFi tx ln so ∧ (¬ sg (tK tx ln so) = 0 → t2 (3 * tm + 2) = tSe tx ln so)) ∧ (tm ≤ m2 ∧ m2 ≤ tm + 1))) 0 0 := by
  refine jM_of (cc := cX5_readThing) (maxL := 4) (ret := (some .boolean)) (by decide) rfl (Nat.le_of_ble_eq_true rfl) (fun v w' h => by obtain ⟨_, _, h⟩ := h; exact Or.inr (Or.inl ⟨_, _, rfl, h.1, jI_z (ite_01 _)⟩)) ?_
  intro x G kr0
  have G : jG x l D Y cX5_readThing RX5 wsX5_readThing 4 ({ frames := 4, cells := 0, slots := 0, locals := 90 } : Room) (some .boolean) "readThing" := G
  have hinX5 : ∀ w ∈ wsX50, w ∈ wsX5_readThing := fun _ h => List.mem_cons_of_mem _ (List.mem_append_right _ h)
  show J x 0 0 (mV Y h q z sp pa st ke ik tx ln sn se dn up fa lo to tm so) 0 [(0, .ref h)] []
  refine j_aload_n G 0 dX5_readThing_0 rfl ?_
  refine j_get (q := 16) (C := RX5) (T := TX5) (N := 17) (v := .int (jI so)) G 0 hinX5 dX5_readThing_1 rfl rfl (by decide) (by decide +kernel) rfl ?_
  refine j_aload_n G 0 dX5_readThing_4 rfl ?_
  refine j_get (q := 7) (C := RX5) (T := TX5) (N := 17) (v := .int (jI ln)) G 0 hinX5 dX5_readThing_5 rfl rfl (by decide) (by decide +kernel) rfl ?_
  refine j_icmp_ge (tgt := 23) G dX5_readThing_8 (by decide) (by omega) (by omega) (fun c8 => ?_) (fun c8 => ?_)
  · refine j_iconst G dX5_readThing_23 (v := 0) rfl ?_
    refine j_istore_n (lv' := [(1, .int (jI 0)), (0, .ref h)]) G dX5_readThing_24 (by decide) rfl ?_
    refine j_iload_n G 0 dX5_readThing_25 rfl ?_
    refine j_bipush G dX5_readThing_26 (v := 116) rfl ?_
    refine j_icmp_eq (tgt := 63) G dX5_readThing_28 (by decide) (by omega) (by omega) (fun c28 => absurd c28 (by omega)) (fun c28 => ?_)
    refine j_iload_n G 0 dX5_readThing_31 rfl ?_
    refine j_bipush G dX5_readThing_32 (v := 114) rfl ?_
    refine j_icmp_eq (tgt := 63) G dX5_readThing_34 (by decide) (by omega) (by omega) (fun c34 => absurd c34 (by omega)) (fun c34 => ?_)
    refine j_iload_n G 0 dX5_readThing_37 rfl ?_
    refine j_bipush G dX5_readThing_38 (v := 104) rfl ?_
    refine j_icmp_eq (tgt := 63) G dX5_readThing_40 (by decide) (by omega) (by omega) (fun c40 => absurd c40 (by omega)) (fun c40 => ?_)
    refine j_iload_n G 0 dX5_readThing_43 rfl ?_
    refine j_bipush G dX5_readThing_44 (v := 103) rfl ?_
    refine j_icmp_eq (tgt := 63) G dX5_readThing_46 (by decide) (by omega) (by omega) (fun c46 => absurd c46 (by omega)) (fun c46 => ?_)
    refine j_iload_n G 0 dX5_readThing_49 rfl ?_
    refine j_bipush G dX5_readThing_50 (v := 102) rfl ?_
    refine j_icmp_eq (tgt := 63) G dX5_readThing_52 (by decide) (by omega) (by omega) (fun c52 => absurd c52 (by omega)) (fun c52 => ?_)
    refine j_iload_n G 0 dX5_readThing_55 rfl ?_
    refine j_bipush G dX5_readThing_56 (v := 46) rfl ?_
    refine j_icmp_eq (tgt := 63) G dX5_readThing_58 (by decide) (by omega) (by omega) (fun c58 => absurd c58 (by omega)) (fun c58 => ?_)
    refine j_iconst G dX5_readThing_61 (v := 0) rfl ?_
    exact j_reti G dX5_readThing_62 (by exact (if_neg (fun y => by have z1 := y.1; first | (rw [← h_kk] at z1; omega) | (unfold tK at z1; rw [if_neg (by omega)] at z1; omega))).symm) (by exact mV_so (by unfold tEnd; exact (if_neg (fun z1 => by first | (rw [← h_kk] at z1; omega) | (unfold tK at z1; rw [if_neg (by omega)] at z1; omega))).symm)) (kr0 _ _ ⟨to, tm, rfl, rfl, ⟨fun y => absurd y (fun y => by have z1 := y.1; first | (rw [← h_kk] at z1; omega) | (unfold tK at z1; rw [if_neg (by omega)] at z1; omega)), by omega⟩⟩)
  · refine j_aload_n G 0 dX5_readThing_11 rfl ?_
    refine j_get (q := 6) (C := RX5) (T := TX5) (N := 17) (v := .ref (q 4)) G 0 hinX5 dX5_readThing_12 rfl rfl (by decide) (by decide +kernel) rfl ?_
    refine j_aload_n G 0 dX5_readThing_15 rfl ?_
    refine j_get (q := 16) (C := RX5) (T := TX5) (N := 17) (v := .int (jI so)) G 0 hinX5 dX5_readThing_16 rfl rfl (by decide) (by decide +kernel) rfl ?_
    refine j_iald (v := tx so) G 5 dX5_readThing_19 rfl (by omega) rfl ?_
    have f20 := htx so (by omega) (by omega)
    refine j_goto (tgt := 24) G dX5_readThing_20 (by decide) ?_
    obtain ⟨kk, e_kk, h_kk⟩ : ∃ y : Int, y = (tx so) ∧ (y = tK tx ln so) := ⟨_, rfl, by unfold tK; rw [if_pos (by omega)]⟩
    rw [← e_kk]
    refine j_istore_n (lv' := [(1, .int (jI kk)), (0, .ref h)]) G dX5_readThing_24 (by decide) rfl ?_
    refine j_iload_n G 0 dX5_readThing_25 rfl ?_
    refine j_bipush G dX5_readThing_26 (v := 116) rfl ?_
    refine j_icmp_eq (tgt := 63) G dX5_readThing_28 (by decide) (by omega) (by omega) (fun c28 => ?_) (fun c28 => ?_)
    · subst c28
      refine j_aload_n G 1 dX5_readThing_63 rfl ?_
      refine j_dup G dX5_readThing_64 rfl ?_
      refine j_get (q := 16) (C := RX5) (T := TX5) (N := 17) (v := .int (jI so)) G 0 hinX5 dX5_readThing_65 rfl rfl (by decide) (by decide +kernel) rfl ?_
      refine j_iconst G dX5_readThing_68 (v := 1) rfl ?_
      refine j_iadd G dX5_readThing_69 ?_
      refine j_put (q := 16) (C := RX5) (T := TX5) (N := 17) (ws' := mV Y h q z sp pa st ke ik tx ln sn se dn up fa lo to tm (so + 1)) G 0 hinX5 tyX5 tyX5_ok nmX5 dX5_readThing_70 rfl rfl (by decide) (by decide +kernel) rfl rfl rfl rfl (Nat.le_of_ble_eq_true rfl) rfl ?_
      refine j_iconst G dX5_readThing_73 (v := 0) rfl ?_
      refine j_istore_n (lv' := [(3, .int (jI 0)), (1, .int (jI 116)), (0, .ref h)]) G dX5_readThing_74 (by decide) rfl ?_
      refine j_iload_n G 1 dX5_readThing_75 rfl ?_
      refine j_tblIn (tgt := 152) G 14 dX5_readThing_76 (by omega) (by omega) (by omega) rfl (by decide) ?_
      have T := tOk_2 (tx := tx) (ln := ln) (a := so) (K := 116) (lo := 0) (hi := 63) (s := 61) (m := 99) h_kk.symm rfl rfl rfl rfl (by omega) (by omega)
      have E := tEnd_2 (tx := tx) (ln := ln) (a := so) (K := 116) (lo := 0) (hi := 63) (s := 61) (m := 99) h_kk.symm rfl rfl rfl rfl (by omega) (by omega)
      have p0 := nP_b (tx := tx) (ln := ln) (lo := 0) (hi := 63) (a := so + 1) (by omega) (by omega)
      have b1 := nV_b (tx := tx) (ln := ln) (lo := 0) (hi := 63) (a := so + 1) (by omega) (by omega) (by omega)
      have b2 := nV_b (tx := tx) (ln := ln) (lo := 0) (hi := 99) (a := nP tx ln 0 63 (so + 1) + 1) (by omega) (by omega) (by omega)
      have q1 : tFi tx ln so = nV tx ln 0 63 (so + 1) := by unfold tFi; rw [← h_kk]; rfl
      have q2 : tSe tx ln so = nV tx ln 0 99 (nP tx ln 0 63 (so + 1) + 1) := by unfold tSe tP1; rw [← h_kk]; rfl
      refine j_aload_n G 2 dX5_readThing_152 rfl ?_
      refine j_iconst G dX5_readThing_153 (v := 0) rfl ?_
      refine j_bipush G dX5_readThing_154 (v := 63) rfl ?_
      refine j_callV (nA := 2) (As := [.int (jI 0), .int (jI 63)]) (st := []) (wc := (mV Y h q z sp pa st ke ik tx ln sn se dn up fa lo to tm (so + 1))) (wr := []) G (c_X5_number l D Y h q z sp pa st ke ik tx ln sn se dn up fa lo to tm (so + 1) 0 63 (by first | assumption | omega) (by first | assumption | omega) (by first | assumption | omega) (by first | assumption | omega) (by first | assumption | omega)) dX5_readThing_156 rfl gX5_readThing_X5_number rfl rfl rfl (by decide +kernel) ⟨by decide, by decide⟩ rfl 0 rfl rfl rfl (jLe.nil (jLe.rf _)) (Nat.le_of_ble_eq_true rfl) ⟨Nat.zero_le _, Nat.zero_le _⟩ (fun v_ w_ hp_ => ?_)
      obtain ⟨rfl, rfl⟩ := hp_
      show J x 0 0 (mV Y h q z sp pa st ke ik tx ln sn se dn up fa lo to tm (nP tx ln 0 63 (so + 1))) 159 [(3, .int (jI 0)), (1, .int (jI 116)), (0, .ref h)] [.int (jI (n5 (nV tx ln 0 63 (so + 1))))]
      obtain ⟨v1, e_v1, h_v1⟩ : ∃ y : Int, y = (n5 (nV tx ln 0 63 (so + 1))) ∧ ((¬ nV tx ln 0 63 (so + 1) = -1 ∧ y = nV tx ln 0 63 (so + 1)) ∨ (nV tx ln 0 63 (so + 1) = -1 ∧ y = -5)) := ⟨_, rfl, by unfold n5; split <;> omega⟩
      rw [← e_v1]
      refine j_istore_n (lv' := [(2, .int (jI v1)), (3, .int (jI 0)), (1, .int (jI 116)), (0, .ref h)]) G dX5_readThing_159 (by decide) rfl ?_
      refine j_aload_n G 3 dX5_readThing_160 rfl ?_
      refine j_iload_n G 0 dX5_readThing_161 rfl ?_
      refine j_bipush G dX5_readThing_162 (v := 61) rfl ?_
      refine j_bipush G dX5_readThing_164 (v := 99) rfl ?_
      refine j_callV (nA := 3) (As := [.int (jI v1), .int (jI 61), .int (jI 99)]) (st := []) (wc := (mV Y h q z sp pa st ke ik tx ln sn se dn up fa lo to tm (nP tx ln 0 63 (so + 1)))) (wr := []) G (c_X5_second l D Y h q z sp pa st ke ik tx ln sn se dn up fa lo to tm (nP tx ln 0 63 (so + 1)) v1 61 99 (by first | assumption | omega) (by first | assumption | omega) (by first | assumption | omega) (by first | assumption | omega) (by first | assumption | omega) (by first | assumption | omega)) dX5_readThing_166 rfl gX5_readThing_X5_second rfl rfl rfl (by decide +kernel) ⟨by decide, by decide⟩ rfl 0 rfl rfl rfl (jLe.nil (jLe.rf _)) (Nat.le_of_ble_eq_true rfl) ⟨Nat.zero_le _, Nat.zero_le _⟩ (fun v_ w_ hp_ => ?_)
      obtain ⟨rfl, rfl⟩ := hp_
      show J x 0 0 (mV Y h q z sp pa st ke ik tx ln sn se dn up fa lo to tm (if ¬ v1 = -5 ∧ ((nP tx ln 0 63 (so + 1)) < ln ∧ tx (nP tx ln 0 63 (so + 1)) = 61) then nP tx ln 0 99 ((nP tx ln 0 63 (so + 1)) + 1) else (nP tx ln 0 63 (so + 1)))) 169 [(2, .int (jI v1)), (3, .int (jI 0)), (1, .int (jI 116)), (0, .ref h)] [.int (jI (if ¬ v1 = -5 ∧ ((nP tx ln 0 63 (so + 1)) < ln ∧ tx (nP tx ln 0 63 (so + 1)) = 61) then n5 (nV tx ln 0 99 ((nP tx ln 0 63 (so + 1)) + 1)) else -5))]
      obtain ⟨w2, e_w2, h_w2⟩ : ∃ y : Int, y = (if ¬ v1 = -5 ∧ ((nP tx ln 0 63 (so + 1)) < ln ∧ tx (nP tx ln 0 63 (so + 1)) = 61) then n5 (nV tx ln 0 99 ((nP tx ln 0 63 (so + 1)) + 1)) else -5) ∧ ((¬ nV tx ln 0 63 (so + 1) = -1 ∧ nP tx ln 0 63 (so + 1) < ln ∧ tx (nP tx ln 0 63 (so + 1)) = 61 ∧ ¬ nV tx ln 0 99 (nP tx ln 0 63 (so + 1) + 1) = -1 ∧ y = nV tx ln 0 99 (nP tx ln 0 63 (so + 1) + 1)) ∨ (y = -5 ∧ (nV tx ln 0 63 (so + 1) = -1 ∨ ¬ (nP tx ln 0 63 (so + 1) < ln ∧ tx (nP tx ln 0 63 (so + 1)) = 61) ∨ nV tx ln 0 99 (nP tx ln 0 63 (so + 1) + 1) = -1))) := ⟨_, rfl, by unfold n5; (repeat' split) <;> omega⟩
      rw [← e_w2]
      refine j_istore_n (lv' := [(3, .int (jI w2)), (2, .int (jI v1)), (1, .int (jI 116)), (0, .ref h)]) G dX5_readThing_169 (by decide) rfl ?_
      refine j_goto (tgt := 243) G dX5_readThing_170 (by decide) ?_
      refine j_aload_n G 3 dX5_readThing_243 rfl ?_
      refine j_get (q := 14) (C := RX5) (T := TX5) (N := 17) (v := .ref (q 9)) G 0 hinX5 dX5_readThing_244 rfl rfl (by decide) (by decide +kernel) rfl ?_
      refine j_iconst G dX5_readThing_247 (v := 3) rfl ?_
      refine j_aload_n G 3 dX5_readThing_248 rfl ?_
      refine j_get (q := 15) (C := RX5) (T := TX5) (N := 17) (v := .int (jI tm)) G 0 hinX5 dX5_readThing_249 rfl rfl (by decide) (by decide +kernel) rfl ?_
      refine j_imul G dX5_readThing_252 ?_
      refine j_iload_n G 2 dX5_readThing_253 rfl ?_
      refine j_iast (ws' := mV Y h q z sp pa st ke ik tx ln sn se dn up fa lo (upZ to (3 * tm) 116) tm (if ¬ v1 = -5 ∧ ((nP tx ln 0 63 (so + 1)) < ln ∧ tx (nP tx ln 0 63 (so + 1)) = 61) then nP tx ln 0 99 ((nP tx ln 0 63 (so + 1)) + 1) else (nP tx ln 0 63 (so + 1)))) G 10 dX5_readThing_254 rfl (by omega) rfl ?_
      refine j_aload_n G 3 dX5_readThing_255 rfl ?_
      refine j_get (q := 14) (C := RX5) (T := TX5) (N := 17) (v := .ref (q 9)) G 0 hinX5 dX5_readThing_256 rfl rfl (by decide) (by decide +kernel) rfl ?_
      refine j_iconst G dX5_readThing_259 (v := 3) rfl ?_
      refine j_aload_n G 3 dX5_readThing_260 rfl ?_
      refine j_get (q := 15) (C := RX5) (T := TX5) (N := 17) (v := .int (jI tm)) G 0 hinX5 dX5_readThing_261 rfl rfl (by decide) (by decide +kernel) rfl ?_
      refine j_imul G dX5_readThing_264 ?_
      refine j_iconst G dX5_readThing_265 (v := 1) rfl ?_
      refine j_iadd G dX5_readThing_266 ?_
      refine j_iload_n G 1 dX5_readThing_267 rfl ?_
      refine j_iast (ws' := mV Y h q z sp pa st ke ik tx ln sn se dn up fa lo (upZ (upZ to (3 * tm) 116) ((3 * tm) + 1) v1) tm (if ¬ v1 = -5 ∧ ((nP tx ln 0 63 (so + 1)) < ln ∧ tx (nP tx ln 0 63 (so + 1)) = 61) then nP tx ln 0 99 ((nP tx ln 0 63 (so + 1)) + 1) else (nP tx ln 0 63 (so + 1)))) G 10 dX5_readThing_268 rfl (by omega) rfl ?_
      refine j_aload_n G 3 dX5_readThing_269 rfl ?_
      refine j_get (q := 14) (C := RX5) (T := TX5) (N := 17) (v := .ref (q 9)) G 0 hinX5 dX5_readThing_270 rfl rfl (by decide) (by decide +kernel) rfl ?_
      refine j_iconst G dX5_readThing_273 (v := 3) rfl ?_
      refine j_aload_n G 3 dX5_readThing_274 rfl ?_
      refine j_get (q := 15) (C := RX5) (T := TX5) (N := 17) (v := .int (jI tm)) G 0 hinX5 dX5_readThing_275 rfl rfl (by decide) (by decide +kernel) rfl ?_
      refine j_imul G dX5_readThing_278 ?_
      refine j_iconst G dX5_readThing_279 (v := 2) rfl ?_
      refine j_iadd G dX5_readThing_280 ?_
      refine j_iload_n G 0 dX5_readThing_281 rfl ?_
      refine j_iast (ws' := mV Y h q z sp pa st ke ik tx ln sn se dn up fa lo (upZ (upZ (upZ to (3 * tm) 116) ((3 * tm) + 1) v1) ((3 * tm) + 2) w2) tm (if ¬ v1 = -5 ∧ ((nP tx ln 0 63 (so + 1)) < ln ∧ tx (nP tx ln 0 63 (so + 1)) = 61) then nP tx ln 0 99 ((nP tx ln 0 63 (so + 1)) + 1) else (nP tx ln 0 63 (so + 1)))) G 10 dX5_readThing_282 rfl (by omega) rfl ?_
      refine j_aload_n G 3 dX5_readThing_283 rfl ?_
      refine j_dup G dX5_readThing_284 rfl ?_
      refine j_get (q := 15) (C := RX5) (T := TX5) (N := 17) (v := .int (jI tm)) G 0 hinX5 dX5_readThing_285 rfl rfl (by decide) (by decide +kernel) rfl ?_
      refine j_iconst G dX5_readThing_288 (v := 1) rfl ?_
      refine j_iadd G dX5_readThing_289 ?_
      refine j_put (q := 15) (C := RX5) (T := TX5) (N := 17) (ws' := mV Y h q z sp pa st ke ik tx ln sn se dn up fa lo (upZ (upZ (upZ to (3 * tm) 116) ((3 * tm) + 1) v1) ((3 * tm) + 2) w2) (tm + 1) (if ¬ v1 = -5 ∧ ((nP tx ln 0 63 (so + 1)) < ln ∧ tx (nP tx ln 0 63 (so + 1)) = 61) then nP tx ln 0 99 ((nP tx ln 0 63 (so + 1)) + 1) else (nP tx ln 0 63 (so + 1)))) G 0 hinX5 tyX5 tyX5_ok nmX5 dX5_readThing_290 rfl rfl (by decide) (by decide +kernel) rfl rfl rfl rfl (Nat.le_of_ble_eq_true rfl) rfl ?_
      refine j_iload_n G 1 dX5_readThing_293 rfl ?_
      refine j_bipush G dX5_readThing_294 (v := (-5)) rfl ?_
      refine j_icmp_eq (tgt := 309) G dX5_readThing_296 (by decide) (by omega) (by omega) (fun c296 => ?_) (fun c296 => ?_)
      · refine j_iconst G dX5_readThing_309 (v := 0) rfl ?_
        exact j_reti G dX5_readThing_310 (by first | exact (if_pos (T.mpr (by omega))).symm | exact (if_neg (fun y => by have := T.mp y; omega)).symm) (by exact mV_so (by first | (rw [E]; done) | (rw [E]; (repeat' split) <;> omega))) (kr0 _ _ ⟨(upZ (upZ (upZ to (3 * tm) 116) ((3 * tm) + 1) v1) ((3 * tm) + 2) w2), (tm + 1), rfl, rfl, ⟨fun y => ⟨rfl, fun j a b => by rw [upZ_ne _ _ _ (by omega), upZ_ne _ _ _ (by omega), upZ_ne _ _ _ (by omega)], by rw [upZ_ne _ _ _ (by omega), upZ_ne _ _ _ (by omega), upZ_eq _ _ _ rfl]; exact h_kk, by have := T.mp y; rw [upZ_ne _ _ _ (by omega), upZ_eq _ _ _ rfl]; omega, fun w => by first | exact absurd (by rw [← h_kk]; rfl) w | (have := T.mp y; rw [upZ_eq _ _ _ rfl]; omega)⟩, by omega⟩⟩)
      · refine j_iload_n G 0 dX5_readThing_299 rfl ?_
        refine j_bipush G dX5_readThing_300 (v := (-5)) rfl ?_
        refine j_icmp_eq (tgt := 309) G dX5_readThing_302 (by decide) (by omega) (by omega) (fun c302 => ?_) (fun c302 => ?_)
        · refine j_iconst G dX5_readThing_309 (v := 0) rfl ?_
          exact j_reti G dX5_readThing_310 (by first | exact (if_pos (T.mpr (by omega))).symm | exact (if_neg (fun y => by have := T.mp y; omega)).symm) (by exact mV_so (by first | (rw [E]; done) | (rw [E]; (repeat' split) <;> omega))) (kr0 _ _ ⟨(upZ (upZ (upZ to (3 * tm) 116) ((3 * tm) + 1) v1) ((3 * tm) + 2) w2), (tm + 1), rfl, rfl, ⟨fun y => ⟨rfl, fun j a b => by rw [upZ_ne _ _ _ (by omega), upZ_ne _ _ _ (by omega), upZ_ne _ _ _ (by omega)], by rw [upZ_ne _ _ _ (by omega), upZ_ne _ _ _ (by omega), upZ_eq _ _ _ rfl]; exact h_kk, by have := T.mp y; rw [upZ_ne _ _ _ (by omega), upZ_eq _ _ _ rfl]; omega, fun w => by first | exact absurd (by rw [← h_kk]; rfl) w | (have := T.mp y; rw [upZ_eq _ _ _ rfl]; omega)⟩, by omega⟩⟩)
        · refine j_iconst G dX5_readThing_305 (v := 1) rfl ?_
          refine j_goto (tgt := 310) G dX5_readThing_306 (by decide) ?_
          exact j_reti G dX5_readThing_310 (by first | exact (if_pos (T.mpr (by omega))).symm | exact (if_neg (fun y => by have := T.mp y; omega)).symm) (by exact mV_so (by first | (rw [E]; done) | (rw [E]; (repeat' split) <;> omega))) (kr0 _ _ ⟨(upZ (upZ (upZ to (3 * tm) 116) ((3 * tm) + 1) v1) ((3 * tm) + 2) w2), (tm + 1), rfl, rfl, ⟨fun y => ⟨rfl, fun j a b => by rw [upZ_ne _ _ _ (by omega), upZ_ne _ _ _ (by omega), upZ_ne _ _ _ (by omega)], by rw [upZ_ne _ _ _ (by omega), upZ_ne _ _ _ (by omega), upZ_eq _ _ _ rfl]; exact h_kk, by have := T.mp y; rw [upZ_ne _ _ _ (by omega), upZ_eq _ _ _ rfl]; omega, fun w => by first | exact absurd (by rw [← h_kk]; rfl) w | (have := T.mp y; rw [upZ_eq _ _ _ rfl]; omega)⟩, by omega⟩⟩)
    · refine j_iload_n G 0 dX5_readThing_31 rfl ?_
      refine j_bipush G dX5_readThing_32 (v := 114) rfl ?_
      refine j_icmp_eq (tgt := 63) G dX5_readThing_34 (by decide) (by omega) (by omega) (fun c34 => ?_) (fun c34 => ?_)
      · subst c34
        refine j_aload_n G 1 dX5_readThing_63 rfl ?_
        refine j_dup G dX5_readThing_64 rfl ?_
        refine j_get (q := 16) (C := RX5) (T := TX5) (N := 17) (v := .int (jI so)) G 0 hinX5 dX5_readThing_65 rfl rfl (by decide) (by decide +kernel) rfl ?_
        refine j_iconst G dX5_readThing_68 (v := 1) rfl ?_
        refine j_iadd G dX5_readThing_69 ?_
        refine j_put (q := 16) (C := RX5) (T := TX5) (N := 17) (ws' := mV Y h q z sp pa st ke ik tx ln sn se dn up fa lo to tm (so + 1)) G 0 hinX5 tyX5 tyX5_ok nmX5 dX5_readThing_70 rfl rfl (by decide) (by decide +kernel) rfl rfl rfl rfl (Nat.le_of_ble_eq_true rfl) rfl ?_
        refine j_iconst G dX5_readThing_73 (v := 0) rfl ?_
        refine j_istore_n (lv' := [(3, .int (jI 0)), (1, .int (jI 114)), (0, .ref h)]) G dX5_readThing_74 (by decide) rfl ?_
        refine j_iload_n G 1 dX5_readThing_75 rfl ?_
        refine j_tblIn (tgt := 173) G 12 dX5_readThing_76 (by omega) (by omega) (by omega) rfl (by decide) ?_
        have T := tOk_1 (tx := tx) (ln := ln) (a := so) (K := 114) (lo := 1) (hi := 9) h_kk.symm rfl rfl rfl (by omega)
        have E := tEnd_1 (tx := tx) (ln := ln) (a := so) (K := 114) (lo := 1) (hi := 9) h_kk.symm rfl rfl rfl (by omega) (by omega) (by omega)
        have p0 := nP_b (tx := tx) (ln := ln) (lo := 1) (hi := 9) (a := so + 1) (by omega) (by omega)
        have b1 := nV_b (tx := tx) (ln := ln) (lo := 1) (hi := 9) (a := so + 1) (by omega) (by omega) (by omega)
        have q1 : tFi tx ln so = nV tx ln 1 9 (so + 1) := by unfold tFi; rw [← h_kk]; rfl
        refine j_aload_n G 2 dX5_readThing_173 rfl ?_
        refine j_iconst G dX5_readThing_174 (v := 1) rfl ?_
        refine j_bipush G dX5_readThing_175 (v := 9) rfl ?_
        refine j_callV (nA := 2) (As := [.int (jI 1), .int (jI 9)]) (st := []) (wc := (mV Y h q z sp pa st ke ik tx ln sn se dn up fa lo to tm (so + 1))) (wr := []) G (c_X5_number l D Y h q z sp pa st ke ik tx ln sn se dn up fa lo to tm (so + 1) 1 9 (by first | assumption | omega) (by first | assumption | omega) (by first | assumption | omega) (by first | assumption | omega) (by first | assumption | omega)) dX5_readThing_177 rfl gX5_readThing_X5_number rfl rfl rfl (by decide +kernel) ⟨by decide, by decide⟩ rfl 0 rfl rfl rfl (jLe.nil (jLe.rf _)) (Nat.le_of_ble_eq_true rfl) ⟨Nat.zero_le _, Nat.zero_le _⟩ (fun v_ w_ hp_ => ?_)
        obtain ⟨rfl, rfl⟩ := hp_
        show J x 0 0 (mV Y h q z sp pa st ke ik tx ln sn se dn up fa lo to tm (nP tx ln 1 9 (so + 1))) 180 [(3, .int (jI 0)), (1, .int (jI 114)), (0, .ref h)] [.int (jI (n5 (nV tx ln 1 9 (so + 1))))]
        obtain ⟨v1, e_v1, h_v1⟩ : ∃ y : Int, y = (n5 (nV tx ln 1 9 (so + 1))) ∧ ((¬ nV tx ln 1 9 (so + 1) = -1 ∧ y = nV tx ln 1 9 (so + 1)) ∨ (nV tx ln 1 9 (so + 1) = -1 ∧ y = -5)) := ⟨_, rfl, by unfold n5; split <;> omega⟩
        rw [← e_v1]
        refine j_istore_n (lv' := [(2, .int (jI v1)), (3, .int (jI 0)), (1, .int (jI 114)), (0, .ref h)]) G dX5_readThing_180 (by decide) rfl ?_
        refine j_goto (tgt := 243) G dX5_readThing_181 (by decide) ?_
        refine j_aload_n G 3 dX5_readThing_243 rfl ?_
        refine j_get (q := 14) (C := RX5) (T := TX5) (N := 17) (v := .ref (q 9)) G 0 hinX5 dX5_readThing_244 rfl rfl (by decide) (by decide +kernel) rfl ?_
        refine j_iconst G dX5_readThing_247 (v := 3) rfl ?_
        refine j_aload_n G 3 dX5_readThing_248 rfl ?_
        refine j_get (q := 15) (C := RX5) (T := TX5) (N := 17) (v := .int (jI tm)) G 0 hinX5 dX5_readThing_249 rfl rfl (by decide) (by decide +kernel) rfl ?_
        refine j_imul G dX5_readThing_252 ?_
        refine j_iload_n G 2 dX5_readThing_253 rfl ?_
        refine j_iast (ws' := mV Y h q z sp pa st ke ik tx ln sn se dn up fa lo (upZ to (3 * tm) 114) tm (nP tx ln 1 9 (so + 1))) G 10 dX5_readThing_254 rfl (by omega) rfl ?_
        refine j_aload_n G 3 dX5_readThing_255 rfl ?_
        refine j_get (q := 14) (C := RX5) (T := TX5) (N := 17) (v := .ref (q 9)) G 0 hinX5 dX5_readThing_256 rfl rfl (by decide) (by decide +kernel) rfl ?_
        refine j_iconst G dX5_readThing_259 (v := 3) rfl ?_
        refine j_aload_n G 3 dX5_readThing_260 rfl ?_
        refine j_get (q := 15) (C := RX5) (T := TX5) (N := 17) (v := .int (jI tm)) G 0 hinX5 dX5_readThing_261 rfl rfl (by decide) (by decide +kernel) rfl ?_
        refine j_imul G dX5_readThing_264 ?_
        refine j_iconst G dX5_readThing_265 (v := 1) rfl ?_
        refine j_iadd G dX5_readThing_266 ?_
        refine j_iload_n G 0 dX5_readThing_267 rfl ?_
        refine j_iast (ws' := mV Y h q z sp pa st ke ik tx ln sn se dn up fa lo (upZ (upZ to (3 * tm) 114) ((3 * tm) + 1) v1) tm (nP tx ln 1 9 (so + 1))) G 10 dX5_readThing_268 rfl (by omega) rfl ?_
        refine j_aload_n G 3 dX5_readThing_269 rfl ?_
        refine j_get (q := 14) (C := RX5) (T := TX5) (N := 17) (v := .ref (q 9)) G 0 hinX5 dX5_readThing_270 rfl rfl (by decide) (by decide +kernel) rfl ?_
        refine j_iconst G dX5_readThing_273 (v := 3) rfl ?_
        refine j_aload_n G 3 dX5_readThing_274 rfl ?_
        refine j_get (q := 15) (C := RX5) (T := TX5) (N := 17) (v := .int (jI tm)) G 0 hinX5 dX5_readThing_275 rfl rfl (by decide) (by decide +kernel) rfl ?_
        refine j_imul G dX5_readThing_278 ?_
        refine j_iconst G dX5_readThing_279 (v := 2) rfl ?_
        refine j_iadd G dX5_readThing_280 ?_
        refine j_iload_n G 1 dX5_readThing_281 rfl ?_
        refine j_iast (ws' := mV Y h q z sp pa st ke ik tx ln sn se dn up fa lo (upZ (upZ (upZ to (3 * tm) 114) ((3 * tm) + 1) v1) ((3 * tm) + 2) 0) tm (nP tx ln 1 9 (so + 1))) G 10 dX5_readThing_282 rfl (by omega) rfl ?_
        refine j_aload_n G 3 dX5_readThing_283 rfl ?_
        refine j_dup G dX5_readThing_284 rfl ?_
        refine j_get (q := 15) (C := RX5) (T := TX5) (N := 17) (v := .int (jI tm)) G 0 hinX5 dX5_readThing_285 rfl rfl (by decide) (by decide +kernel) rfl ?_
        refine j_iconst G dX5_readThing_288 (v := 1) rfl ?_
        refine j_iadd G dX5_readThing_289 ?_
        refine j_put (q := 15) (C := RX5) (T := TX5) (N := 17) (ws' := mV Y h q z sp pa st ke ik tx ln sn se dn up fa lo (upZ (upZ (upZ to (3 * tm) 114) ((3 * tm) + 1) v1) ((3 * tm) + 2) 0) (tm + 1) (nP tx ln 1 9 (so + 1))) G 0 hinX5 tyX5 tyX5_ok nmX5 dX5_readThing_290 rfl rfl (by decide) (by decide +kernel) rfl rfl rfl rfl (Nat.le_of_ble_eq_true rfl) rfl ?_
        refine j_iload_n G 0 dX5_readThing_293 rfl ?_
        refine j_bipush G dX5_readThing_294 (v := (-5)) rfl ?_
        refine j_icmp_eq (tgt := 309) G dX5_readThing_296 (by decide) (by omega) (by omega) (fun c296 => ?_) (fun c296 => ?_)
        · refine j_iconst G dX5_readThing_309 (v := 0) rfl ?_
          exact j_reti G dX5_readThing_310 (by first | exact (if_pos (T.mpr (by omega))).symm | exact (if_neg (fun y => by have := T.mp y; omega)).symm) (by exact mV_so (by first | (rw [E]; done) | (rw [E]; (repeat' split) <;> omega))) (kr0 _ _ ⟨(upZ (upZ (upZ to (3 * tm) 114) ((3 * tm) + 1) v1) ((3 * tm) + 2) 0), (tm + 1), rfl, rfl, ⟨fun y => ⟨rfl, fun j a b => by rw [upZ_ne _ _ _ (by omega), upZ_ne _ _ _ (by omega), upZ_ne _ _ _ (by omega)], by rw [upZ_ne _ _ _ (by omega), upZ_ne _ _ _ (by omega), upZ_eq _ _ _ rfl]; exact h_kk, by have := T.mp y; rw [upZ_ne _ _ _ (by omega), upZ_eq _ _ _ rfl]; omega, fun w => by first | exact absurd (by rw [← h_kk]; rfl) w | (have := T.mp y; rw [upZ_eq _ _ _ rfl]; omega)⟩, by omega⟩⟩)
        · refine j_iload_n G 1 dX5_readThing_299 rfl ?_
          refine j_bipush G dX5_readThing_300 (v := (-5)) rfl ?_
          refine j_icmp_eq (tgt := 309) G dX5_readThing_302 (by decide) (by omega) (by omega) (fun c302 => absurd c302 (by omega)) (fun c302 => ?_)
          refine j_iconst G dX5_readThing_305 (v := 1) rfl ?_
          refine j_goto (tgt := 310) G dX5_readThing_306 (by decide) ?_
          exact j_reti G dX5_readThing_310 (by first | exact (if_pos (T.mpr (by omega))).symm | exact (if_neg (fun y => by have := T.mp y; omega)).symm) (by exact mV_so (by first | (rw [E]; done) | (rw [E]; (repeat' split) <;> omega))) (kr0 _ _ ⟨(upZ (upZ (upZ to (3 * tm) 114) ((3 * tm) + 1) v1) ((3 * tm) + 2) 0), (tm + 1), rfl, rfl, ⟨fun y => ⟨rfl, fun j a b => by rw [upZ_ne _ _ _ (by omega), upZ_ne _ _ _ (by omega), upZ_ne _ _ _ (by omega)], by rw [upZ_ne _ _ _ (by omega), upZ_ne _ _ _ (by omega), upZ_eq _ _ _ rfl]; exact h_kk, by have := T.mp y; rw [upZ_ne _ _ _ (by omega), upZ_eq _ _ _ rfl]; omega, fun w => by first | exact absurd (by rw [← h_kk]; rfl) w | (have := T.mp y; rw [upZ_eq _ _ _ rfl]; omega)⟩, by omega⟩⟩)
      · refine j_iload_n G 0 dX5_readThing_37 rfl ?_
        refine j_bipush G dX5_readThing_38 (v := 104) rfl ?_
        refine j_icmp_eq (tgt := 63) G dX5_readThing_40 (by decide) (by omega) (by omega) (fun c40 => ?_) (fun c40 => ?_)
        · subst c40
          refine j_aload_n G 1 dX5_readThing_63 rfl ?_
          refine j_dup G dX5_readThing_64 rfl ?_
          refine j_get (q := 16) (C := RX5) (T := TX5) (N := 17) (v := .int (jI so)) G 0 hinX5 dX5_readThing_65 rfl rfl (by decide) (by decide +kernel) rfl ?_
          refine j_iconst G dX5_readThing_68 (v := 1) rfl ?_
          refine j_iadd G dX5_readThing_69 ?_
          refine j_put (q := 16) (C := RX5) (T := TX5) (N := 17) (ws' := mV Y h q z sp pa st ke ik tx ln sn se dn up fa lo to tm (so + 1)) G 0 hinX5 tyX5 tyX5_ok nmX5 dX5_readThing_70 rfl rfl (by decide) (by decide +kernel) rfl rfl rfl rfl (Nat.le_of_ble_eq_true rfl) rfl ?_
          refine j_iconst G dX5_readThing_73 (v := 0) rfl ?_
          refine j_istore_n (lv' := [(3, .int (jI 0)), (1, .int (jI 104)), (0, .ref h)]) G dX5_readThing_74 (by decide) rfl ?_
          refine j_iload_n G 1 dX5_readThing_75 rfl ?_
          refine j_tblIn (tgt := 184) G 2 dX5_readThing_76 (by omega) (by omega) (by omega) rfl (by decide) ?_
          have T := tOk_2 (tx := tx) (ln := ln) (a := so) (K := 104) (lo := 0) (hi := 7) (s := 58) (m := 7) h_kk.symm rfl rfl rfl rfl (by omega) (by omega)
          have E := tEnd_2 (tx := tx) (ln := ln) (a := so) (K := 104) (lo := 0) (hi := 7) (s := 58) (m := 7) h_kk.symm rfl rfl rfl rfl (by omega) (by omega)
          have p0 := nP_b (tx := tx) (ln := ln) (lo := 0) (hi := 7) (a := so + 1) (by omega) (by omega)
          have b1 := nV_b (tx := tx) (ln := ln) (lo := 0) (hi := 7) (a := so + 1) (by omega) (by omega) (by omega)
          have b2 := nV_b (tx := tx) (ln := ln) (lo := 0) (hi := 7) (a := nP tx ln 0 7 (so + 1) + 1) (by omega) (by omega) (by omega)
          have q1 : tFi tx ln so = nV tx ln 0 7 (so + 1) := by unfold tFi; rw [← h_kk]; rfl
          have q2 : tSe tx ln so = nV tx ln 0 7 (nP tx ln 0 7 (so + 1) + 1) := by unfold tSe tP1; rw [← h_kk]; rfl
          refine j_aload_n G 2 dX5_readThing_184 rfl ?_
          refine j_iconst G dX5_readThing_185 (v := 0) rfl ?_
          refine j_bipush G dX5_readThing_186 (v := 7) rfl ?_
          refine j_callV (nA := 2) (As := [.int (jI 0), .int (jI 7)]) (st := []) (wc := (mV Y h q z sp pa st ke ik tx ln sn se dn up fa lo to tm (so + 1))) (wr := []) G (c_X5_number l D Y h q z sp pa st ke ik tx ln sn se dn up fa lo to tm (so + 1) 0 7 (by first | assumption | omega) (by first | assumption | omega) (by first | assumption | omega) (by first | assumption | omega) (by first | assumption | omega)) dX5_readThing_188 rfl gX5_readThing_X5_number rfl rfl rfl (by decide +kernel) ⟨by decide, by decide⟩ rfl 0 rfl rfl rfl (jLe.nil (jLe.rf _)) (Nat.le_of_ble_eq_true rfl) ⟨Nat.zero_le _, Nat.zero_le _⟩ (fun v_ w_ hp_ => ?_)
          obtain ⟨rfl, rfl⟩ := hp_
          show J x 0 0 (mV Y h q z sp pa st ke ik tx ln sn se dn up fa lo to tm (nP tx ln 0 7 (so + 1))) 191 [(3, .int (jI 0)), (1, .int (jI 104)), (0, .ref h)] [.int (jI (n5 (nV tx ln 0 7 (so + 1))))]
          obtain ⟨v1, e_v1, h_v1⟩ : ∃ y : Int, y = (n5 (nV tx ln 0 7 (so + 1))) ∧ ((¬ nV tx ln 0 7 (so + 1) = -1 ∧ y = nV tx ln 0 7 (so + 1)) ∨ (nV tx ln 0 7 (so + 1) = -1 ∧ y = -5)) := ⟨_, rfl, by unfold n5; split <;> omega⟩
          rw [← e_v1]
          refine j_istore_n (lv' := [(2, .int (jI v1)), (3, .int (jI 0)), (1, .int (jI 104)), (0, .ref h)]) G dX5_readThing_191 (by decide) rfl ?_
          refine j_aload_n G 3 dX5_readThing_192 rfl ?_
          refine j_iload_n G 0 dX5_readThing_193 rfl ?_
          refine j_bipush G dX5_readThing_194 (v := 58) rfl ?_
          refine j_bipush G dX5_readThing_196 (v := 7) rfl ?_
          refine j_callV (nA := 3) (As := [.int (jI v1), .int (jI 58), .int (jI 7)]) (st := []) (wc := (mV Y h q z sp pa st ke ik tx ln sn se dn up fa lo to tm (nP tx ln 0 7 (so + 1)))) (wr := []) G (c_X5_second l D Y h q z sp pa st ke ik tx ln sn se dn up fa lo to tm (nP tx ln 0 7 (so + 1)) v1 58 7 (by first | assumption | omega) (by first | assumption | omega) (by first | assumption | omega) (by first | assumption | omega) (by first | assumption | omega) (by first | assumption | omega)) dX5_readThing_198 rfl gX5_readThing_X5_second rfl rfl rfl (by decide +kernel) ⟨by decide, by decide⟩ rfl 0 rfl rfl rfl (jLe.nil (jLe.rf _)) (Nat.le_of_ble_eq_true rfl) ⟨Nat.zero_le _, Nat.zero_le _⟩ (fun v_ w_ hp_ => ?_)
          obtain ⟨rfl, rfl⟩ := hp_
          show J x 0 0 (mV Y h q z sp pa st ke ik tx ln sn se dn up fa lo to tm (if ¬ v1 = -5 ∧ ((nP tx ln 0 7 (so + 1)) < ln ∧ tx (nP tx ln 0 7 (so + 1)) = 58) then nP tx ln 0 7 ((nP tx ln 0 7 (so + 1)) + 1) else (nP tx ln 0 7 (so + 1)))) 201 [(2, .int (jI v1)), (3, .int (jI 0)), (1, .int (jI 104)), (0, .ref h)] [.int (jI (if ¬ v1 = -5 ∧ ((nP tx ln 0 7 (so + 1)) < ln ∧ tx (nP tx ln 0 7 (so + 1)) = 58) then n5 (nV tx ln 0 7 ((nP tx ln 0 7 (so + 1)) + 1)) else -5))]
          obtain ⟨w2, e_w2, h_w2⟩ : ∃ y : Int, y = (if ¬ v1 = -5 ∧ ((nP tx ln 0 7 (so + 1)) < ln ∧ tx (nP tx ln 0 7 (so + 1)) = 58) then n5 (nV tx ln 0 7 ((nP tx ln 0 7 (so + 1)) + 1)) else -5) ∧ ((¬ nV tx ln 0 7 (so + 1) = -1 ∧ nP tx ln 0 7 (so + 1) < ln ∧ tx (nP tx ln 0 7 (so + 1)) = 58 ∧ ¬ nV tx ln 0 7 (nP tx ln 0 7 (so + 1) + 1) = -1 ∧ y = nV tx ln 0 7 (nP tx ln 0 7 (so + 1) + 1)) ∨ (y = -5 ∧ (nV tx ln 0 7 (so + 1) = -1 ∨ ¬ (nP tx ln 0 7 (so + 1) < ln ∧ tx (nP tx ln 0 7 (so + 1)) = 58) ∨ nV tx ln 0 7 (nP tx ln 0 7 (so + 1) + 1) = -1))) := ⟨_, rfl, by unfold n5; (repeat' split) <;> omega⟩
          rw [← e_w2]
          refine j_istore_n (lv' := [(3, .int (jI w2)), (2, .int (jI v1)), (1, .int (jI 104)), (0, .ref h)]) G dX5_readThing_201 (by decide) rfl ?_
          refine j_goto (tgt := 243) G dX5_readThing_202 (by decide) ?_
          refine j_aload_n G 3 dX5_readThing_243 rfl ?_
          refine j_get (q := 14) (C := RX5) (T := TX5) (N := 17) (v := .ref (q 9)) G 0 hinX5 dX5_readThing_244 rfl rfl (by decide) (by decide +kernel) rfl ?_
          refine j_iconst G dX5_readThing_247 (v := 3) rfl ?_
          refine j_aload_n G 3 dX5_readThing_248 rfl ?_
          refine j_get (q := 15) (C := RX5) (T := TX5) (N := 17) (v := .int (jI tm)) G 0 hinX5 dX5_readThing_249 rfl rfl (by decide) (by decide +kernel) rfl ?_
          refine j_imul G dX5_readThing_252 ?_
          refine j_iload_n G 2 dX5_readThing_253 rfl ?_
          refine j_iast (ws' := mV Y h q z sp pa st ke ik tx ln sn se dn up fa lo (upZ to (3 * tm) 104) tm (if ¬ v1 = -5 ∧ ((nP tx ln 0 7 (so + 1)) < ln ∧ tx (nP tx ln 0 7 (so + 1)) = 58) then nP tx ln 0 7 ((nP tx ln 0 7 (so + 1)) + 1) else (nP tx ln 0 7 (so + 1)))) G 10 dX5_readThing_254 rfl (by omega) rfl ?_
          refine j_aload_n G 3 dX5_readThing_255 rfl ?_
          refine j_get (q := 14) (C := RX5) (T := TX5) (N := 17) (v := .ref (q 9)) G 0 hinX5 dX5_readThing_256 rfl rfl (by decide) (by decide +kernel) rfl ?_
          refine j_iconst G dX5_readThing_259 (v := 3) rfl ?_
          refine j_aload_n G 3 dX5_readThing_260 rfl ?_
          refine j_get (q := 15) (C := RX5) (T := TX5) (N := 17) (v := .int (jI tm)) G 0 hinX5 dX5_readThing_261 rfl rfl (by decide) (by decide +kernel) rfl ?_
          refine j_imul G dX5_readThing_264 ?_
          refine j_iconst G dX5_readThing_265 (v := 1) rfl ?_
          refine j_iadd G dX5_readThing_266 ?_
          refine j_iload_n G 1 dX5_readThing_267 rfl ?_
          refine j_iast (ws' := mV Y h q z sp pa st ke ik tx ln sn se dn up fa lo (upZ (upZ to (3 * tm) 104) ((3 * tm) + 1) v1) tm (if ¬ v1 = -5 ∧ ((nP tx ln 0 7 (so + 1)) < ln ∧ tx (nP tx ln 0 7 (so + 1)) = 58) then nP tx ln 0 7 ((nP tx ln 0 7 (so + 1)) + 1) else (nP tx ln 0 7 (so + 1)))) G 10 dX5_readThing_268 rfl (by omega) rfl ?_
          refine j_aload_n G 3 dX5_readThing_269 rfl ?_
          refine j_get (q := 14) (C := RX5) (T := TX5) (N := 17) (v := .ref (q 9)) G 0 hinX5 dX5_readThing_270 rfl rfl (by decide) (by decide +kernel) rfl ?_
          refine j_iconst G dX5_readThing_273 (v := 3) rfl ?_
          refine j_aload_n G 3 dX5_readThing_274 rfl ?_
          refine j_get (q := 15) (C := RX5) (T := TX5) (N := 17) (v := .int (jI tm)) G 0 hinX5 dX5_readThing_275 rfl rfl (by decide) (by decide +kernel) rfl ?_
          refine j_imul G dX5_readThing_278 ?_
          refine j_iconst G dX5_readThing_279 (v := 2) rfl ?_
          refine j_iadd G dX5_readThing_280 ?_
          refine j_iload_n G 0 dX5_readThing_281 rfl ?_
          refine j_iast (ws' := mV Y h q z sp pa st ke ik tx ln sn se dn up fa lo (upZ (upZ (upZ to (3 * tm) 104) ((3 * tm) + 1) v1) ((3 * tm) + 2) w2) tm (if ¬ v1 = -5 ∧ ((nP tx ln 0 7 (so + 1)) < ln ∧ tx (nP tx ln 0 7 (so + 1)) = 58) then nP tx ln 0 7 ((nP tx ln 0 7 (so + 1)) + 1) else (nP tx ln 0 7 (so + 1)))) G 10 dX5_readThing_282 rfl (by omega) rfl ?_
          refine j_aload_n G 3 dX5_readThing_283 rfl ?_
          refine j_dup G dX5_readThing_284 rfl ?_
          refine j_get (q := 15) (C := RX5) (T := TX5) (N := 17) (v := .int (jI tm)) G 0 hinX5 dX5_readThing_285 rfl rfl (by decide) (by decide +kernel) rfl ?_
          refine j_iconst G dX5_readThing_288 (v := 1) rfl ?_
          refine j_iadd G dX5_readThing_289 ?_
          refine j_put (q := 15) (C := RX5) (T := TX5) (N := 17) (ws' := mV Y h q z sp pa st ke ik tx ln sn se dn up fa lo (upZ (upZ (upZ to (3 * tm) 104) ((3 * tm) + 1) v1) ((3 * tm) + 2) w2) (tm + 1) (if ¬ v1 = -5 ∧ ((nP tx ln 0 7 (so + 1)) < ln ∧ tx (nP tx ln 0 7 (so + 1)) = 58) then nP tx ln 0 7 ((nP tx ln 0 7 (so + 1)) + 1) else (nP tx ln 0 7 (so + 1)))) G 0 hinX5 tyX5 tyX5_ok nmX5 dX5_readThing_290 rfl rfl (by decide) (by decide +kernel) rfl rfl rfl rfl (Nat.le_of_ble_eq_true rfl) rfl ?_
          refine j_iload_n G 1 dX5_readThing_293 rfl ?_
          refine j_bipush G dX5_readThing_294 (v := (-5)) rfl ?_
          refine j_icmp_eq (tgt := 309) G dX5_readThing_296 (by decide) (by omega) (by omega) (fun c296 => ?_) (fun c296 => ?_)
          · refine j_iconst G dX5_readThing_309 (v := 0) rfl ?_
            exact j_reti G dX5_readThing_310 (by first | exact (if_pos (T.mpr (by omega))).symm | exact (if_neg (fun y => by have := T.mp y; omega)).symm) (by exact mV_so (by first | (rw [E]; done) | (rw [E]; (repeat' split) <;> omega))) (kr0 _ _ ⟨(upZ (upZ (upZ to (3 * tm) 104) ((3 * tm) + 1) v1) ((3 * tm) + 2) w2), (tm + 1), rfl, rfl, ⟨fun y => ⟨rfl, fun j a b => by rw [upZ_ne _ _ _ (by omega), upZ_ne _ _ _ (by omega), upZ_ne _ _ _ (by omega)], by rw [upZ_ne _ _ _ (by omega), upZ_ne _ _ _ (by omega), upZ_eq _ _ _ rfl]; exact h_kk, by have := T.mp y; rw [upZ_ne _ _ _ (by omega), upZ_eq _ _ _ rfl]; omega, fun w => by first | exact absurd (by rw [← h_kk]; rfl) w | (have := T.mp y; rw [upZ_eq _ _ _ rfl]; omega)⟩, by omega⟩⟩)
          · refine j_iload_n G 0 dX5_readThing_299 rfl ?_
            refine j_bipush G dX5_readThing_300 (v := (-5)) rfl ?_
            refine j_icmp_eq (tgt := 309) G dX5_readThing_302 (by decide) (by omega) (by omega) (fun c302 => ?_) (fun c302 => ?_)
            · refine j_iconst G dX5_readThing_309 (v := 0) rfl ?_
              exact j_reti G dX5_readThing_310 (by first | exact (if_pos (T.mpr (by omega))).symm | exact (if_neg (fun y => by have := T.mp y; omega)).symm) (by exact mV_so (by first | (rw [E]; done) | (rw [E]; (repeat' split) <;> omega))) (kr0 _ _ ⟨(upZ (upZ (upZ to (3 * tm) 104) ((3 * tm) + 1) v1) ((3 * tm) + 2) w2), (tm + 1), rfl, rfl, ⟨fun y => ⟨rfl, fun j a b => by rw [upZ_ne _ _ _ (by omega), upZ_ne _ _ _ (by omega), upZ_ne _ _ _ (by omega)], by rw [upZ_ne _ _ _ (by omega), upZ_ne _ _ _ (by omega), upZ_eq _ _ _ rfl]; exact h_kk, by have := T.mp y; rw [upZ_ne _ _ _ (by omega), upZ_eq _ _ _ rfl]; omega, fun w => by first | exact absurd (by rw [← h_kk]; rfl) w | (have := T.mp y; rw [upZ_eq _ _ _ rfl]; omega)⟩, by omega⟩⟩)
            · refine j_iconst G dX5_readThing_305 (v := 1) rfl ?_
              refine j_goto (tgt := 310) G dX5_readThing_306 (by decide) ?_
              exact j_reti G dX5_readThing_310 (by first | exact (if_pos (T.mpr (by omega))).symm | exact (if_neg (fun y => by have := T.mp y; omega)).symm) (by exact mV_so (by first | (rw [E]; done) | (rw [E]; (repeat' split) <;> omega))) (kr0 _ _ ⟨(upZ (upZ (upZ to (3 * tm) 104) ((3 * tm) + 1) v1) ((3 * tm) + 2) w2), (tm + 1), rfl, rfl, ⟨fun y => ⟨rfl, fun j a b => by rw [upZ_ne _ _ _ (by omega), upZ_ne _ _ _ (by omega), upZ_ne _ _ _ (by omega)], by rw [upZ_ne _ _ _ (by omega), upZ_ne _ _ _ (by omega), upZ_eq _ _ _ rfl]; exact h_kk, by have := T.mp y; rw [upZ_ne _ _ _ (by omega), upZ_eq _ _ _ rfl]; omega, fun w => by first | exact absurd (by rw [← h_kk]; rfl) w | (have := T.mp y; rw [upZ_eq _ _ _ rfl]; omega)⟩, by omega⟩⟩)
        · refine j_iload_n G 0 dX5_readThing_43 rfl ?_
          refine j_bipush G dX5_readThing_44 (v := 103) rfl ?_
          refine j_icmp_eq (tgt := 63) G dX5_readThing_46 (by decide) (by omega) (by omega) (fun c46 => ?_) (fun c46 => ?_)
          · subst c46
            refine j_aload_n G 1 dX5_readThing_63 rfl ?_
            refine j_dup G dX5_readThing_64 rfl ?_
            refine j_get (q := 16) (C := RX5) (T := TX5) (N := 17) (v := .int (jI so)) G 0 hinX5 dX5_readThing_65 rfl rfl (by decide) (by decide +kernel) rfl ?_
            refine j_iconst G dX5_readThing_68 (v := 1) rfl ?_
            refine j_iadd G dX5_readThing_69 ?_
            refine j_put (q := 16) (C := RX5) (T := TX5) (N := 17) (ws' := mV Y h q z sp pa st ke ik tx ln sn se dn up fa lo to tm (so + 1)) G 0 hinX5 tyX5 tyX5_ok nmX5 dX5_readThing_70 rfl rfl (by decide) (by decide +kernel) rfl rfl rfl rfl (Nat.le_of_ble_eq_true rfl) rfl ?_
            refine j_iconst G dX5_readThing_73 (v := 0) rfl ?_
            refine j_istore_n (lv' := [(3, .int (jI 0)), (1, .int (jI 103)), (0, .ref h)]) G dX5_readThing_74 (by decide) rfl ?_
            refine j_iload_n G 1 dX5_readThing_75 rfl ?_
            refine j_tblIn (tgt := 205) G 1 dX5_readThing_76 (by omega) (by omega) (by omega) rfl (by decide) ?_
            have T := tOk_2 (tx := tx) (ln := ln) (a := so) (K := 103) (lo := 0) (hi := 2) (s := 62) (m := 63) h_kk.symm rfl rfl rfl rfl (by omega) (by omega)
            have E := tEnd_2 (tx := tx) (ln := ln) (a := so) (K := 103) (lo := 0) (hi := 2) (s := 62) (m := 63) h_kk.symm rfl rfl rfl rfl (by omega) (by omega)
            have p0 := nP_b (tx := tx) (ln := ln) (lo := 0) (hi := 2) (a := so + 1) (by omega) (by omega)
            have b1 := nV_b (tx := tx) (ln := ln) (lo := 0) (hi := 2) (a := so + 1) (by omega) (by omega) (by omega)
            have b2 := nV_b (tx := tx) (ln := ln) (lo := 0) (hi := 63) (a := nP tx ln 0 2 (so + 1) + 1) (by omega) (by omega) (by omega)
            have q1 : tFi tx ln so = nV tx ln 0 2 (so + 1) := by unfold tFi; rw [← h_kk]; rfl
            have q2 : tSe tx ln so = nV tx ln 0 63 (nP tx ln 0 2 (so + 1) + 1) := by unfold tSe tP1; rw [← h_kk]; rfl
            refine j_aload_n G 2 dX5_readThing_205 rfl ?_
            refine j_iconst G dX5_readThing_206 (v := 0) rfl ?_
            refine j_iconst G dX5_readThing_207 (v := 2) rfl ?_
            refine j_callV (nA := 2) (As := [.int (jI 0), .int (jI 2)]) (st := []) (wc := (mV Y h q z sp pa st ke ik tx ln sn se dn up fa lo to tm (so + 1))) (wr := []) G (c_X5_number l D Y h q z sp pa st ke ik tx ln sn se dn up fa lo to tm (so + 1) 0 2 (by first | assumption | omega) (by first | assumption | omega) (by first | assumption | omega) (by first | assumption | omega) (by first | assumption | omega)) dX5_readThing_208 rfl gX5_readThing_X5_number rfl rfl rfl (by decide +kernel) ⟨by decide, by decide⟩ rfl 0 rfl rfl rfl (jLe.nil (jLe.rf _)) (Nat.le_of_ble_eq_true rfl) ⟨Nat.zero_le _, Nat.zero_le _⟩ (fun v_ w_ hp_ => ?_)
            obtain ⟨rfl, rfl⟩ := hp_
            show J x 0 0 (mV Y h q z sp pa st ke ik tx ln sn se dn up fa lo to tm (nP tx ln 0 2 (so + 1))) 211 [(3, .int (jI 0)), (1, .int (jI 103)), (0, .ref h)] [.int (jI (n5 (nV tx ln 0 2 (so + 1))))]
            obtain ⟨v1, e_v1, h_v1⟩ : ∃ y : Int, y = (n5 (nV tx ln 0 2 (so + 1))) ∧ ((¬ nV tx ln 0 2 (so + 1) = -1 ∧ y = nV tx ln 0 2 (so + 1)) ∨ (nV tx ln 0 2 (so + 1) = -1 ∧ y = -5)) := ⟨_, rfl, by unfold n5; split <;> omega⟩
            rw [← e_v1]
            refine j_istore_n (lv' := [(2, .int (jI v1)), (3, .int (jI 0)), (1, .int (jI 103)), (0, .ref h)]) G dX5_readThing_211 (by decide) rfl ?_
            refine j_aload_n G 3 dX5_readThing_212 rfl ?_
            refine j_iload_n G 0 dX5_readThing_213 rfl ?_
            refine j_bipush G dX5_readThing_214 (v := 62) rfl ?_
            refine j_bipush G dX5_readThing_216 (v := 63) rfl ?_
            refine j_callV (nA := 3) (As := [.int (jI v1), .int (jI 62), .int (jI 63)]) (st := []) (wc := (mV Y h q z sp pa st ke ik tx ln sn se dn up fa lo to tm (nP tx ln 0 2 (so + 1)))) (wr := []) G (c_X5_second l D Y h q z sp pa st ke ik tx ln sn se dn up fa lo to tm (nP tx ln 0 2 (so + 1)) v1 62 63 (by first | assumption | omega) (by first | assumption | omega) (by first | assumption | omega) (by first | assumption | omega) (by first | assumption | omega) (by first | assumption | omega)) dX5_readThing_218 rfl gX5_readThing_X5_second rfl rfl rfl (by decide +kernel) ⟨by decide, by decide⟩ rfl 0 rfl rfl rfl (jLe.nil (jLe.rf _)) (Nat.le_of_ble_eq_true rfl) ⟨Nat.zero_le _, Nat.zero_le _⟩ (fun v_ w_ hp_ => ?_)
            obtain ⟨rfl, rfl⟩ := hp_
            show J x 0 0 (mV Y h q z sp pa st ke ik tx ln sn se dn up fa lo to tm (if ¬ v1 = -5 ∧ ((nP tx ln 0 2 (so + 1)) < ln ∧ tx (nP tx ln 0 2 (so + 1)) = 62) then nP tx ln 0 63 ((nP tx ln 0 2 (so + 1)) + 1) else (nP tx ln 0 2 (so + 1)))) 221 [(2, .int (jI v1)), (3, .int (jI 0)), (1, .int (jI 103)), (0, .ref h)] [.int (jI (if ¬ v1 = -5 ∧ ((nP tx ln 0 2 (so + 1)) < ln ∧ tx (nP tx ln 0 2 (so + 1)) = 62) then n5 (nV tx ln 0 63 ((nP tx ln 0 2 (so + 1)) + 1)) else -5))]
            obtain ⟨w2, e_w2, h_w2⟩ : ∃ y : Int, y = (if ¬ v1 = -5 ∧ ((nP tx ln 0 2 (so + 1)) < ln ∧ tx (nP tx ln 0 2 (so + 1)) = 62) then n5 (nV tx ln 0 63 ((nP tx ln 0 2 (so + 1)) + 1)) else -5) ∧ ((¬ nV tx ln 0 2 (so + 1) = -1 ∧ nP tx ln 0 2 (so + 1) < ln ∧ tx (nP tx ln 0 2 (so + 1)) = 62 ∧ ¬ nV tx ln 0 63 (nP tx ln 0 2 (so + 1) + 1) = -1 ∧ y = nV tx ln 0 63 (nP tx ln 0 2 (so + 1) + 1)) ∨ (y = -5 ∧ (nV tx ln 0 2 (so + 1) = -1 ∨ ¬ (nP tx ln 0 2 (so + 1) < ln ∧ tx (nP tx ln 0 2 (so + 1)) = 62) ∨ nV tx ln 0 63 (nP tx ln 0 2 (so + 1) + 1) = -1))) := ⟨_, rfl, by unfold n5; (repeat' split) <;> omega⟩
            rw [← e_w2]
            refine j_istore_n (lv' := [(3, .int (jI w2)), (2, .int (jI v1)), (1, .int (jI 103)), (0, .ref h)]) G dX5_readThing_221 (by decide) rfl ?_
            refine j_goto (tgt := 243) G dX5_readThing_222 (by decide) ?_
            refine j_aload_n G 3 dX5_readThing_243 rfl ?_
            refine j_get (q := 14) (C := RX5) (T := TX5) (N := 17) (v := .ref (q 9)) G 0 hinX5 dX5_readThing_244 rfl rfl (by decide) (by decide +kernel) rfl ?_
            refine j_iconst G dX5_readThing_247 (v := 3) rfl ?_
            refine j_aload_n G 3 dX5_readThing_248 rfl ?_
            refine j_get (q := 15) (C := RX5) (T := TX5) (N := 17) (v := .int (jI tm)) G 0 hinX5 dX5_readThing_249 rfl rfl (by decide) (by decide +kernel) rfl ?_
            refine j_imul G dX5_readThing_252 ?_
            refine j_iload_n G 2 dX5_readThing_253 rfl ?_
            refine j_iast (ws' := mV Y h q z sp pa st ke ik tx ln sn se dn up fa lo (upZ to (3 * tm) 103) tm (if ¬ v1 = -5 ∧ ((nP tx ln 0 2 (so + 1)) < ln ∧ tx (nP tx ln 0 2 (so + 1)) = 62) then nP tx ln 0 63 ((nP tx ln 0 2 (so + 1)) + 1) else (nP tx ln 0 2 (so + 1)))) G 10 dX5_readThing_254 rfl (by omega) rfl ?_
            refine j_aload_n G 3 dX5_readThing_255 rfl ?_
            refine j_get (q := 14) (C := RX5) (T := TX5) (N := 17) (v := .ref (q 9)) G 0 hinX5 dX5_readThing_256 rfl rfl (by decide) (by decide +kernel) rfl ?_
            refine j_iconst G dX5_readThing_259 (v := 3) rfl ?_
            refine j_aload_n G 3 dX5_readThing_260 rfl ?_
            refine j_get (q := 15) (C := RX5) (T := TX5) (N := 17) (v := .int (jI tm)) G 0 hinX5 dX5_readThing_261 rfl rfl (by decide) (by decide +kernel) rfl ?_
            refine j_imul G dX5_readThing_264 ?_
            refine j_iconst G dX5_readThing_265 (v := 1) rfl ?_
            refine j_iadd G dX5_readThing_266 ?_
            refine j_iload_n G 1 dX5_readThing_267 rfl ?_
            refine j_iast (ws' := mV Y h q z sp pa st ke ik tx ln sn se dn up fa lo (upZ (upZ to (3 * tm) 103) ((3 * tm) + 1) v1) tm (if ¬ v1 = -5 ∧ ((nP tx ln 0 2 (so + 1)) < ln ∧ tx (nP tx ln 0 2 (so + 1)) = 62) then nP tx ln 0 63 ((nP tx ln 0 2 (so + 1)) + 1) else (nP tx ln 0 2 (so + 1)))) G 10 dX5_readThing_268 rfl (by omega) rfl ?_
            refine j_aload_n G 3 dX5_readThing_269 rfl ?_
            refine j_get (q := 14) (C := RX5) (T := TX5) (N := 17) (v := .ref (q 9)) G 0 hinX5 dX5_readThing_270 rfl rfl (by decide) (by decide +kernel) rfl ?_
            refine j_iconst G dX5_readThing_273 (v := 3) rfl ?_
            refine j_aload_n G 3 dX5_readThing_274 rfl ?_
            refine j_get (q := 15) (C := RX5) (T := TX5) (N := 17) (v := .int (jI tm)) G 0 hinX5 dX5_readThing_275 rfl rfl (by decide) (by decide +kernel) rfl ?_
            refine j_imul G dX5_readThing_278 ?_
            refine j_iconst G dX5_readThing_279 (v := 2) rfl ?_
            refine j_iadd G dX5_readThing_280 ?_
            refine j_iload_n G 0 dX5_readThing_281 rfl ?_
            refine j_iast (ws' := mV Y h q z sp pa st ke ik tx ln sn se dn up fa lo (upZ (upZ (upZ to (3 * tm) 103) ((3 * tm) + 1) v1) ((3 * tm) + 2) w2) tm (if ¬ v1 = -5 ∧ ((nP tx ln 0 2 (so + 1)) < ln ∧ tx (nP tx ln 0 2 (so + 1)) = 62) then nP tx ln 0 63 ((nP tx ln 0 2 (so + 1)) + 1) else (nP tx ln 0 2 (so + 1)))) G 10 dX5_readThing_282 rfl (by omega) rfl ?_
            refine j_aload_n G 3 dX5_readThing_283 rfl ?_
            refine j_dup G dX5_readThing_284 rfl ?_
            refine j_get (q := 15) (C := RX5) (T := TX5) (N := 17) (v := .int (jI tm)) G 0 hinX5 dX5_readThing_285 rfl rfl (by decide) (by decide +kernel) rfl ?_
            refine j_iconst G dX5_readThing_288 (v := 1) rfl ?_
            refine j_iadd G dX5_readThing_289 ?_
            refine j_put (q := 15) (C := RX5) (T := TX5) (N := 17) (ws' := mV Y h q z sp pa st ke ik tx ln sn se dn up fa lo (upZ (upZ (upZ to (3 * tm) 103) ((3 * tm) + 1) v1) ((3 * tm) + 2) w2) (tm + 1) (if ¬ v1 = -5 ∧ ((nP tx ln 0 2 (so + 1)) < ln ∧ tx (nP tx ln 0 2 (so + 1)) = 62) then nP tx ln 0 63 ((nP tx ln 0 2 (so + 1)) + 1) else (nP tx ln 0 2 (so + 1)))) G 0 hinX5 tyX5 tyX5_ok nmX5 dX5_readThing_290 rfl rfl (by decide) (by decide +kernel) rfl rfl rfl rfl (Nat.le_of_ble_eq_true rfl) rfl ?_
            refine j_iload_n G 1 dX5_readThing_293 rfl ?_
            refine j_bipush G dX5_readThing_294 (v := (-5)) rfl ?_
            refine j_icmp_eq (tgt := 309) G dX5_readThing_296 (by decide) (by omega) (by omega) (fun c296 => ?_) (fun c296 => ?_)
            · refine j_iconst G dX5_readThing_309 (v := 0) rfl ?_
              exact j_reti G dX5_readThing_310 (by first | exact (if_pos (T.mpr (by omega))).symm | exact (if_neg (fun y => by have := T.mp y; omega)).symm) (by exact mV_so (by first | (rw [E]; done) | (rw [E]; (repeat' split) <;> omega))) (kr0 _ _ ⟨(upZ (upZ (upZ to (3 * tm) 103) ((3 * tm) + 1) v1) ((3 * tm) + 2) w2), (tm + 1), rfl, rfl, ⟨fun y => ⟨rfl, fun j a b => by rw [upZ_ne _ _ _ (by omega), upZ_ne _ _ _ (by omega), upZ_ne _ _ _ (by omega)], by rw [upZ_ne _ _ _ (by omega), upZ_ne _ _ _ (by omega), upZ_eq _ _ _ rfl]; exact h_kk, by have := T.mp y; rw [upZ_ne _ _ _ (by omega), upZ_eq _ _ _ rfl]; omega, fun w => by first | exact absurd (by rw [← h_kk]; rfl) w | (have := T.mp y; rw [upZ_eq _ _ _ rfl]; omega)⟩, by omega⟩⟩)
            · refine j_iload_n G 0 dX5_readThing_299 rfl ?_
              refine j_bipush G dX5_readThing_300 (v := (-5)) rfl ?_
              refine j_icmp_eq (tgt := 309) G dX5_readThing_302 (by decide) (by omega) (by omega) (fun c302 => ?_) (fun c302 => ?_)
              · refine j_iconst G dX5_readThing_309 (v := 0) rfl ?_
                exact j_reti G dX5_readThing_310 (by first | exact (if_pos (T.mpr (by omega))).symm | exact (if_neg (fun y => by have := T.mp y; omega)).symm) (by exact mV_so (by first | (rw [E]; done) | (rw [E]; (repeat' split) <;> omega))) (kr0 _ _ ⟨(upZ (upZ (upZ to (3 * tm) 103) ((3 * tm) + 1) v1) ((3 * tm) + 2) w2), (tm + 1), rfl, rfl, ⟨fun y => ⟨rfl, fun j a b => by rw [upZ_ne _ _ _ (by omega), upZ_ne _ _ _ (by omega), upZ_ne _ _ _ (by omega)], by rw [upZ_ne _ _ _ (by omega), upZ_ne _ _ _ (by omega), upZ_eq _ _ _ rfl]; exact h_kk, by have := T.mp y; rw [upZ_ne _ _ _ (by omega), upZ_eq _ _ _ rfl]; omega, fun w => by first | exact absurd (by rw [← h_kk]; rfl) w | (have := T.mp y; rw [upZ_eq _ _ _ rfl]; omega)⟩, by omega⟩⟩)
              · refine j_iconst G dX5_readThing_305 (v := 1) rfl ?_
                refine j_goto (tgt := 310) G dX5_readThing_306 (by decide) ?_
                exact j_reti G dX5_readThing_310 (by first | exact (if_pos (T.mpr (by omega))).symm | exact (if_neg (fun y => by have := T.mp y; omega)).symm) (by exact mV_so (by first | (rw [E]; done) | (rw [E]; (repeat' split) <;> omega))) (kr0 _ _ ⟨(upZ (upZ (upZ to (3 * tm) 103) ((3 * tm) + 1) v1) ((3 * tm) + 2) w2), (tm + 1), rfl, rfl, ⟨fun y => ⟨rfl, fun j a b => by rw [upZ_ne _ _ _ (by omega), upZ_ne _ _ _ (by omega), upZ_ne _ _ _ (by omega)], by rw [upZ_ne _ _ _ (by omega), upZ_ne _ _ _ (by omega), upZ_eq _ _ _ rfl]; exact h_kk, by have := T.mp y; rw [upZ_ne _ _ _ (by omega), upZ_eq _ _ _ rfl]; omega, fun w => by first | exact absurd (by rw [← h_kk]; rfl) w | (have := T.mp y; rw [upZ_eq _ _ _ rfl]; omega)⟩, by omega⟩⟩)
          · refine j_iload_n G 0 dX5_readThing_49 rfl ?_
            refine j_bipush G dX5_readThing_50 (v := 102) rfl ?_
            refine j_icmp_eq (tgt := 63) G dX5_readThing_52 (by decide) (by omega) (by omega) (fun c52 => ?_) (fun c52 => ?_)
            · subst c52
              refine j_aload_n G 1 dX5_readThing_63 rfl ?_
              refine j_dup G dX5_readThing_64 rfl ?_
              refine j_get (q := 16) (C := RX5) (T := TX5) (N := 17) (v := .int (jI so)) G 0 hinX5 dX5_readThing_65 rfl rfl (by decide) (by decide +kernel) rfl ?_
              refine j_iconst G dX5_readThing_68 (v := 1) rfl ?_
              refine j_iadd G dX5_readThing_69 ?_
              refine j_put (q := 16) (C := RX5) (T := TX5) (N := 17) (ws' := mV Y h q z sp pa st ke ik tx ln sn se dn up fa lo to tm (so + 1)) G 0 hinX5 tyX5 tyX5_ok nmX5 dX5_readThing_70 rfl rfl (by decide) (by decide +kernel) rfl rfl rfl rfl (Nat.le_of_ble_eq_true rfl) rfl ?_
              refine j_iconst G dX5_readThing_73 (v := 0) rfl ?_
              refine j_istore_n (lv' := [(3, .int (jI 0)), (1, .int (jI 102)), (0, .ref h)]) G dX5_readThing_74 (by decide) rfl ?_
              refine j_iload_n G 1 dX5_readThing_75 rfl ?_
              refine j_tblIn (tgt := 225) G 0 dX5_readThing_76 (by omega) (by omega) (by omega) rfl (by decide) ?_
              have T := tOk_1 (tx := tx) (ln := ln) (a := so) (K := 102) (lo := 0) (hi := 2) h_kk.symm rfl rfl rfl (by omega)
              have E := tEnd_1 (tx := tx) (ln := ln) (a := so) (K := 102) (lo := 0) (hi := 2) h_kk.symm rfl rfl rfl (by omega) (by omega) (by omega)
              have p0 := nP_b (tx := tx) (ln := ln) (lo := 0) (hi := 2) (a := so + 1) (by omega) (by omega)
              have b1 := nV_b (tx := tx) (ln := ln) (lo := 0) (hi := 2) (a := so + 1) (by omega) (by omega) (by omega)
              have q1 : tFi tx ln so = nV tx ln 0 2 (so + 1) := by unfold tFi; rw [← h_kk]; rfl
              refine j_aload_n G 2 dX5_readThing_225 rfl ?_
              refine j_iconst G dX5_readThing_226 (v := 0) rfl ?_
              refine j_iconst G dX5_readThing_227 (v := 2) rfl ?_
              refine j_callV (nA := 2) (As := [.int (jI 0), .int (jI 2)]) (st := []) (wc := (mV Y h q z sp pa st ke ik tx ln sn se dn up fa lo to tm (so + 1))) (wr := []) G (c_X5_number l D Y h q z sp pa st ke ik tx ln sn se dn up fa lo to tm (so + 1) 0 2 (by first | assumption | omega) (by first | assumption | omega) (by first | assumption | omega) (by first | assumption | omega) (by first | assumption | omega)) dX5_readThing_228 rfl gX5_readThing_X5_number rfl rfl rfl (by decide +kernel) ⟨by decide, by decide⟩ rfl 0 rfl rfl rfl (jLe.nil (jLe.rf _)) (Nat.le_of_ble_eq_true rfl) ⟨Nat.zero_le _, Nat.zero_le _⟩ (fun v_ w_ hp_ => ?_)
              obtain ⟨rfl, rfl⟩ := hp_
              show J x 0 0 (mV Y h q z sp pa st ke ik tx ln sn se dn up fa lo to tm (nP tx ln 0 2 (so + 1))) 231 [(3, .int (jI 0)), (1, .int (jI 102)), (0, .ref h)] [.int (jI (n5 (nV tx ln 0 2 (so + 1))))]
              obtain ⟨v1, e_v1, h_v1⟩ : ∃ y : Int, y = (n5 (nV tx ln 0 2 (so + 1))) ∧ ((¬ nV tx ln 0 2 (so + 1) = -1 ∧ y = nV tx ln 0 2 (so + 1)) ∨ (nV tx ln 0 2 (so + 1) = -1 ∧ y = -5)) := ⟨_, rfl, by unfold n5; split <;> omega⟩
              rw [← e_v1]
              refine j_istore_n (lv' := [(2, .int (jI v1)), (3, .int (jI 0)), (1, .int (jI 102)), (0, .ref h)]) G dX5_readThing_231 (by decide) rfl ?_
              refine j_goto (tgt := 243) G dX5_readThing_232 (by decide) ?_
              refine j_aload_n G 3 dX5_readThing_243 rfl ?_
              refine j_get (q := 14) (C := RX5) (T := TX5) (N := 17) (v := .ref (q 9)) G 0 hinX5 dX5_readThing_244 rfl rfl (by decide) (by decide +kernel) rfl ?_
              refine j_iconst G dX5_readThing_247 (v := 3) rfl ?_
              refine j_aload_n G 3 dX5_readThing_248 rfl ?_
              refine j_get (q := 15) (C := RX5) (T := TX5) (N := 17) (v := .int (jI tm)) G 0 hinX5 dX5_readThing_249 rfl rfl (by decide) (by decide +kernel) rfl ?_
              refine j_imul G dX5_readThing_252 ?_
              refine j_iload_n G 2 dX5_readThing_253 rfl ?_
              refine j_iast (ws' := mV Y h q z sp pa st ke ik tx ln sn se dn up fa lo (upZ to (3 * tm) 102) tm (nP tx ln 0 2 (so + 1))) G 10 dX5_readThing_254 rfl (by omega) rfl ?_
              refine j_aload_n G 3 dX5_readThing_255 rfl ?_
              refine j_get (q := 14) (C := RX5) (T := TX5) (N := 17) (v := .ref (q 9)) G 0 hinX5 dX5_readThing_256 rfl rfl (by decide) (by decide +kernel) rfl ?_
              refine j_iconst G dX5_readThing_259 (v := 3) rfl ?_
              refine j_aload_n G 3 dX5_readThing_260 rfl ?_
              refine j_get (q := 15) (C := RX5) (T := TX5) (N := 17) (v := .int (jI tm)) G 0 hinX5 dX5_readThing_261 rfl rfl (by decide) (by decide +kernel) rfl ?_
              refine j_imul G dX5_readThing_264 ?_
              refine j_iconst G dX5_readThing_265 (v := 1) rfl ?_
              refine j_iadd G dX5_readThing_266 ?_
              refine j_iload_n G 0 dX5_readThing_267 rfl ?_
              refine j_iast (ws' := mV Y h q z sp pa st ke ik tx ln sn se dn up fa lo (upZ (upZ to (3 * tm) 102) ((3 * tm) + 1) v1) tm (nP tx ln 0 2 (so + 1))) G 10 dX5_readThing_268 rfl (by omega) rfl ?_
              refine j_aload_n G 3 dX5_readThing_269 rfl ?_
              refine j_get (q := 14) (C := RX5) (T := TX5) (N := 17) (v := .ref (q 9)) G 0 hinX5 dX5_readThing_270 rfl rfl (by decide) (by decide +kernel) rfl ?_
              refine j_iconst G dX5_readThing_273 (v := 3) rfl ?_
              refine j_aload_n G 3 dX5_readThing_274 rfl ?_
              refine j_get (q := 15) (C := RX5) (T := TX5) (N := 17) (v := .int (jI tm)) G 0 hinX5 dX5_readThing_275 rfl rfl (by decide) (by decide +kernel) rfl ?_
              refine j_imul G dX5_readThing_278 ?_
              refine j_iconst G dX5_readThing_279 (v := 2) rfl ?_
              refine j_iadd G dX5_readThing_280 ?_
              refine j_iload_n G 1 dX5_readThing_281 rfl ?_
              refine j_iast (ws' := mV Y h q z sp pa st ke ik tx ln sn se dn up fa lo (upZ (upZ (upZ to (3 * tm) 102) ((3 * tm) + 1) v1) ((3 * tm) + 2) 0) tm (nP tx ln 0 2 (so + 1))) G 10 dX5_readThing_282 rfl (by omega) rfl ?_
              refine j_aload_n G 3 dX5_readThing_283 rfl ?_
              refine j_dup G dX5_readThing_284 rfl ?_
              refine j_get (q := 15) (C := RX5) (T := TX5) (N := 17) (v := .int (jI tm)) G 0 hinX5 dX5_readThing_285 rfl rfl (by decide) (by decide +kernel) rfl ?_
              refine j_iconst G dX5_readThing_288 (v := 1) rfl ?_
              refine j_iadd G dX5_readThing_289 ?_
              refine j_put (q := 15) (C := RX5) (T := TX5) (N := 17) (ws' := mV Y h q z sp pa st ke ik tx ln sn se dn up fa lo (upZ (upZ (upZ to (3 * tm) 102) ((3 * tm) + 1) v1) ((3 * tm) + 2) 0) (tm + 1) (nP tx ln 0 2 (so + 1))) G 0 hinX5 tyX5 tyX5_ok nmX5 dX5_readThing_290 rfl rfl (by decide) (by decide +kernel) rfl rfl rfl rfl (Nat.le_of_ble_eq_true rfl) rfl ?_
              refine j_iload_n G 0 dX5_readThing_293 rfl ?_
              refine j_bipush G dX5_readThing_294 (v := (-5)) rfl ?_
              refine j_icmp_eq (tgt := 309) G dX5_readThing_296 (by decide) (by omega) (by omega) (fun c296 => ?_) (fun c296 => ?_)
              · refine j_iconst G dX5_readThing_309 (v := 0) rfl ?_
                exact j_reti G dX5_readThing_310 (by first | exact (if_pos (T.mpr (by omega))).symm | exact (if_neg (fun y => by have := T.mp y; omega)).symm) (by exact mV_so (by first | (rw [E]; done) | (rw [E]; (repeat' split) <;> omega))) (kr0 _ _ ⟨(upZ (upZ (upZ to (3 * tm) 102) ((3 * tm) + 1) v1) ((3 * tm) + 2) 0), (tm + 1), rfl, rfl, ⟨fun y => ⟨rfl, fun j a b => by rw [upZ_ne _ _ _ (by omega), upZ_ne _ _ _ (by omega), upZ_ne _ _ _ (by omega)], by rw [upZ_ne _ _ _ (by omega), upZ_ne _ _ _ (by omega), upZ_eq _ _ _ rfl]; exact h_kk, by have := T.mp y; rw [upZ_ne _ _ _ (by omega), upZ_eq _ _ _ rfl]; omega, fun w => by first | exact absurd (by rw [← h_kk]; rfl) w | (have := T.mp y; rw [upZ_eq _ _ _ rfl]; omega)⟩, by omega⟩⟩)
              · refine j_iload_n G 1 dX5_readThing_299 rfl ?_
                refine j_bipush G dX5_readThing_300 (v := (-5)) rfl ?_
                refine j_icmp_eq (tgt := 309) G dX5_readThing_302 (by decide) (by omega) (by omega) (fun c302 => absurd c302 (by omega)) (fun c302 => ?_)
                refine j_iconst G dX5_readThing_305 (v := 1) rfl ?_
                refine j_goto (tgt := 310) G dX5_readThing_306 (by decide) ?_
                exact j_reti G dX5_readThing_310 (by first | exact (if_pos (T.mpr (by omega))).symm | exact (if_neg (fun y => by have := T.mp y; omega)).symm) (by exact mV_so (by first | (rw [E]; done) | (rw [E]; (repeat' split) <;> omega))) (kr0 _ _ ⟨(upZ (upZ (upZ to (3 * tm) 102) ((3 * tm) + 1) v1) ((3 * tm) + 2) 0), (tm + 1), rfl, rfl, ⟨fun y => ⟨rfl, fun j a b => by rw [upZ_ne _ _ _ (by omega), upZ_ne _ _ _ (by omega), upZ_ne _ _ _ (by omega)], by rw [upZ_ne _ _ _ (by omega), upZ_ne _ _ _ (by omega), upZ_eq _ _ _ rfl]; exact h_kk, by have := T.mp y; rw [upZ_ne _ _ _ (by omega), upZ_eq _ _ _ rfl]; omega, fun w => by first | exact absurd (by rw [← h_kk]; rfl) w | (have := T.mp y; rw [upZ_eq _ _ _ rfl]; omega)⟩, by omega⟩⟩)
            · refine j_iload_n G 0 dX5_readThing_55 rfl ?_
              refine j_bipush G dX5_readThing_56 (v := 46) rfl ?_
              refine j_icmp_eq (tgt := 63) G dX5_readThing_58 (by decide) (by omega) (by omega) (fun c58 => ?_) (fun c58 => ?_)
              · subst c58
                refine j_aload_n G 1 dX5_readThing_63 rfl ?_
                refine j_dup G dX5_readThing_64 rfl ?_
                refine j_get (q := 16) (C := RX5) (T := TX5) (N := 17) (v := .int (jI so)) G 0 hinX5 dX5_readThing_65 rfl rfl (by decide) (by decide +kernel) rfl ?_
                refine j_iconst G dX5_readThing_68 (v := 1) rfl ?_
                refine j_iadd G dX5_readThing_69 ?_
                refine j_put (q := 16) (C := RX5) (T := TX5) (N := 17) (ws' := mV Y h q z sp pa st ke ik tx ln sn se dn up fa lo to tm (so + 1)) G 0 hinX5 tyX5 tyX5_ok nmX5 dX5_readThing_70 rfl rfl (by decide) (by decide +kernel) rfl rfl rfl rfl (Nat.le_of_ble_eq_true rfl) rfl ?_
                refine j_iconst G dX5_readThing_73 (v := 0) rfl ?_
                refine j_istore_n (lv' := [(3, .int (jI 0)), (1, .int (jI 46)), (0, .ref h)]) G dX5_readThing_74 (by decide) rfl ?_
                refine j_iload_n G 1 dX5_readThing_75 rfl ?_
                refine j_tblOut (tgt := 235) G dX5_readThing_76 (by omega) (by omega) (by decide) ?_
                have T := tOk_1 (tx := tx) (ln := ln) (a := so) (K := 46) (lo := 1) (hi := 99) h_kk.symm rfl rfl rfl (by omega)
                have E := tEnd_1 (tx := tx) (ln := ln) (a := so) (K := 46) (lo := 1) (hi := 99) h_kk.symm rfl rfl rfl (by omega) (by omega) (by omega)
                have p0 := nP_b (tx := tx) (ln := ln) (lo := 1) (hi := 99) (a := so + 1) (by omega) (by omega)
                have b1 := nV_b (tx := tx) (ln := ln) (lo := 1) (hi := 99) (a := so + 1) (by omega) (by omega) (by omega)
                have q1 : tFi tx ln so = nV tx ln 1 99 (so + 1) := by unfold tFi; rw [← h_kk]; rfl
                refine j_aload_n G 2 dX5_readThing_235 rfl ?_
                refine j_iconst G dX5_readThing_236 (v := 1) rfl ?_
                refine j_bipush G dX5_readThing_237 (v := 99) rfl ?_
                refine j_callV (nA := 2) (As := [.int (jI 1), .int (jI 99)]) (st := []) (wc := (mV Y h q z sp pa st ke ik tx ln sn se dn up fa lo to tm (so + 1))) (wr := []) G (c_X5_number l D Y h q z sp pa st ke ik tx ln sn se dn up fa lo to tm (so + 1) 1 99 (by first | assumption | omega) (by first | assumption | omega) (by first | assumption | omega) (by first | assumption | omega) (by first | assumption | omega)) dX5_readThing_239 rfl gX5_readThing_X5_number rfl rfl rfl (by decide +kernel) ⟨by decide, by decide⟩ rfl 0 rfl rfl rfl (jLe.nil (jLe.rf _)) (Nat.le_of_ble_eq_true rfl) ⟨Nat.zero_le _, Nat.zero_le _⟩ (fun v_ w_ hp_ => ?_)
                obtain ⟨rfl, rfl⟩ := hp_
                show J x 0 0 (mV Y h q z sp pa st ke ik tx ln sn se dn up fa lo to tm (nP tx ln 1 99 (so + 1))) 242 [(3, .int (jI 0)), (1, .int (jI 46)), (0, .ref h)] [.int (jI (n5 (nV tx ln 1 99 (so + 1))))]
                obtain ⟨v1, e_v1, h_v1⟩ : ∃ y : Int, y = (n5 (nV tx ln 1 99 (so + 1))) ∧ ((¬ nV tx ln 1 99 (so + 1) = -1 ∧ y = nV tx ln 1 99 (so + 1)) ∨ (nV tx ln 1 99 (so + 1) = -1 ∧ y = -5)) := ⟨_, rfl, by unfold n5; split <;> omega⟩
                rw [← e_v1]
                refine j_istore_n (lv' := [(2, .int (jI v1)), (3, .int (jI 0)), (1, .int (jI 46)), (0, .ref h)]) G dX5_readThing_242 (by decide) rfl ?_
                refine j_aload_n G 3 dX5_readThing_243 rfl ?_
                refine j_get (q := 14) (C := RX5) (T := TX5) (N := 17) (v := .ref (q 9)) G 0 hinX5 dX5_readThing_244 rfl rfl (by decide) (by decide +kernel) rfl ?_
                refine j_iconst G dX5_readThing_247 (v := 3) rfl ?_
                refine j_aload_n G 3 dX5_readThing_248 rfl ?_
                refine j_get (q := 15) (C := RX5) (T := TX5) (N := 17) (v := .int (jI tm)) G 0 hinX5 dX5_readThing_249 rfl rfl (by decide) (by decide +kernel) rfl ?_
                refine j_imul G dX5_readThing_252 ?_
                refine j_iload_n G 2 dX5_readThing_253 rfl ?_
                refine j_iast (ws' := mV Y h q z sp pa st ke ik tx ln sn se dn up fa lo (upZ to (3 * tm) 46) tm (nP tx ln 1 99 (so + 1))) G 10 dX5_readThing_254 rfl (by omega) rfl ?_
                refine j_aload_n G 3 dX5_readThing_255 rfl ?_
                refine j_get (q := 14) (C := RX5) (T := TX5) (N := 17) (v := .ref (q 9)) G 0 hinX5 dX5_readThing_256 rfl rfl (by decide) (by decide +kernel) rfl ?_
                refine j_iconst G dX5_readThing_259 (v := 3) rfl ?_
                refine j_aload_n G 3 dX5_readThing_260 rfl ?_
                refine j_get (q := 15) (C := RX5) (T := TX5) (N := 17) (v := .int (jI tm)) G 0 hinX5 dX5_readThing_261 rfl rfl (by decide) (by decide +kernel) rfl ?_
                refine j_imul G dX5_readThing_264 ?_
                refine j_iconst G dX5_readThing_265 (v := 1) rfl ?_
                refine j_iadd G dX5_readThing_266 ?_
                refine j_iload_n G 0 dX5_readThing_267 rfl ?_
                refine j_iast (ws' := mV Y h q z sp pa st ke ik tx ln sn se dn up fa lo (upZ (upZ to (3 * tm) 46) ((3 * tm) + 1) v1) tm (nP tx ln 1 99 (so + 1))) G 10 dX5_readThing_268 rfl (by omega) rfl ?_
                refine j_aload_n G 3 dX5_readThing_269 rfl ?_
                refine j_get (q := 14) (C := RX5) (T := TX5) (N := 17) (v := .ref (q 9)) G 0 hinX5 dX5_readThing_270 rfl rfl (by decide) (by decide +kernel) rfl ?_
                refine j_iconst G dX5_readThing_273 (v := 3) rfl ?_
                refine j_aload_n G 3 dX5_readThing_274 rfl ?_
                refine j_get (q := 15) (C := RX5) (T := TX5) (N := 17) (v := .int (jI tm)) G 0 hinX5 dX5_readThing_275 rfl rfl (by decide) (by decide +kernel) rfl ?_
                refine j_imul G dX5_readThing_278 ?_
                refine j_iconst G dX5_readThing_279 (v := 2) rfl ?_
                refine j_iadd G dX5_readThing_280 ?_
                refine j_iload_n G 1 dX5_readThing_281 rfl ?_
                refine j_iast (ws' := mV Y h q z sp pa st ke ik tx ln sn se dn up fa lo (upZ (upZ (upZ to (3 * tm) 46) ((3 * tm) + 1) v1) ((3 * tm) + 2) 0) tm (nP tx ln 1 99 (so + 1))) G 10 dX5_readThing_282 rfl (by omega) rfl ?_
                refine j_aload_n G 3 dX5_readThing_283 rfl ?_
                refine j_dup G dX5_readThing_284 rfl ?_
                refine j_get (q := 15) (C := RX5) (T := TX5) (N := 17) (v := .int (jI tm)) G 0 hinX5 dX5_readThing_285 rfl rfl (by decide) (by decide +kernel) rfl ?_
                refine j_iconst G dX5_readThing_288 (v := 1) rfl ?_
                refine j_iadd G dX5_readThing_289 ?_
                refine j_put (q := 15) (C := RX5) (T := TX5) (N := 17) (ws' := mV Y h q z sp pa st ke ik tx ln sn se dn up fa lo (upZ (upZ (upZ to (3 * tm) 46) ((3 * tm) + 1) v1) ((3 * tm) + 2) 0) (tm + 1) (nP tx ln 1 99 (so + 1))) G 0 hinX5 tyX5 tyX5_ok nmX5 dX5_readThing_290 rfl rfl (by decide) (by decide +kernel) rfl rfl rfl rfl (Nat.le_of_ble_eq_true rfl) rfl ?_
                refine j_iload_n G 0 dX5_readThing_293 rfl ?_
                refine j_bipush G dX5_readThing_294 (v := (-5)) rfl ?_
                refine j_icmp_eq (tgt := 309) G dX5_readThing_296 (by decide) (by omega) (by omega) (fun c296 => ?_) (fun c296 => ?_)
                · refine j_iconst G dX5_readThing_309 (v := 0) rfl ?_
                  exact j_reti G dX5_readThing_310 (by first | exact (if_pos (T.mpr (by omega))).symm | exact (if_neg (fun y => by have := T.mp y; omega)).symm) (by exact mV_so (by first | (rw [E]; done) | (rw [E]; (repeat' split) <;> omega))) (kr0 _ _ ⟨(upZ (upZ (upZ to (3 * tm) 46) ((3 * tm) + 1) v1) ((3 * tm) + 2) 0), (tm + 1), rfl, rfl, ⟨fun y => ⟨rfl, fun j a b => by rw [upZ_ne _ _ _ (by omega), upZ_ne _ _ _ (by omega), upZ_ne _ _ _ (by omega)], by rw [upZ_ne _ _ _ (by omega), upZ_ne _ _ _ (by omega), upZ_eq _ _ _ rfl]; exact h_kk, by have := T.mp y; rw [upZ_ne _ _ _ (by omega), upZ_eq _ _ _ rfl]; omega, fun w => by first | exact absurd (by rw [← h_kk]; rfl) w | (have := T.mp y; rw [upZ_eq _ _ _ rfl]; omega)⟩, by omega⟩⟩)
                · refine j_iload_n G 1 dX5_readThing_299 rfl ?_
                  refine j_bipush G dX5_readThing_300 (v := (-5)) rfl ?_
                  refine j_icmp_eq (tgt := 309) G dX5_readThing_302 (by decide) (by omega) (by omega) (fun c302 => absurd c302 (by omega)) (fun c302 => ?_)
                  refine j_iconst G dX5_readThing_305 (v := 1) rfl ?_
                  refine j_goto (tgt := 310) G dX5_readThing_306 (by decide) ?_
                  exact j_reti G dX5_readThing_310 (by first | exact (if_pos (T.mpr (by omega))).symm | exact (if_neg (fun y => by have := T.mp y; omega)).symm) (by exact mV_so (by first | (rw [E]; done) | (rw [E]; (repeat' split) <;> omega))) (kr0 _ _ ⟨(upZ (upZ (upZ to (3 * tm) 46) ((3 * tm) + 1) v1) ((3 * tm) + 2) 0), (tm + 1), rfl, rfl, ⟨fun y => ⟨rfl, fun j a b => by rw [upZ_ne _ _ _ (by omega), upZ_ne _ _ _ (by omega), upZ_ne _ _ _ (by omega)], by rw [upZ_ne _ _ _ (by omega), upZ_ne _ _ _ (by omega), upZ_eq _ _ _ rfl]; exact h_kk, by have := T.mp y; rw [upZ_ne _ _ _ (by omega), upZ_eq _ _ _ rfl]; omega, fun w => by first | exact absurd (by rw [← h_kk]; rfl) w | (have := T.mp y; rw [upZ_eq _ _ _ rfl]; omega)⟩, by omega⟩⟩)
              · refine j_iconst G dX5_readThing_61 (v := 0) rfl ?_
                exact j_reti G dX5_readThing_62 (by exact (if_neg (fun y => by have z1 := y.1; first | (rw [← h_kk] at z1; omega) | (unfold tK at z1; rw [if_neg (by omega)] at z1; omega))).symm) (by exact mV_so (by unfold tEnd; exact (if_neg (fun z1 => by first | (rw [← h_kk] at z1; omega) | (unfold tK at z1; rw [if_neg (by omega)] at z1; omega))).symm)) (kr0 _ _ ⟨to, tm, rfl, rfl, ⟨fun y => absurd y (fun y => by have z1 := y.1; first | (rw [← h_kk] at z1; omega) | (unfold tK at z1; rw [if_neg (by omega)] at z1; omega)), by omega⟩⟩)

theorem rt_first {tx : Int → Int} {ln m : Int} {t t0 : Int → Int} (hl : 0 ≤ ln) (k : tOk tx ln 0) (h : m = 0 + 1 ∧ (∀ j : Int, 0 ≤ j → j < 3 * 0 → t j = t0 j) ∧ t (3 * 0) = tK tx ln 0 ∧ t (3 * 0 + 1) = tFi tx ln 0 ∧ (¬ sg (tK tx ln 0) = 0 → t (3 * 0 + 2) = tSe tx ln 0)) : 1 ≤ m ∧ 3 * m ≤ tEnd tx ln 0 + 1 ∧ tOk tx ln (aP tx ln (m - 1).toNat) ∧ tEnd tx ln 0 = tEnd tx ln (aP tx ln (m - 1).toNat) ∧ F_text tx ln = gT tx ln (40 - (m - 1)).toNat (aP tx ln (m - 1).toNat) (m - 1) ∧ Told tx ln t m := by
  obtain ⟨rfl, h1, h2, h3, h4⟩ := h
  have e := (tEnd_b (tx := tx) (ln := ln) (a := 0) hl).2.2 k
  exact ⟨by omega, by omega, k, rfl, rfl, Told.more (Int.le_refl 0) (fun i a b => by omega) h1 h2 h3 h4⟩
theorem rt_next {tx : Int → Int} {ln m o m' : Int} {t t' : Int → Int} (hm : 1 ≤ m) (h3m : 3 * m ≤ o + 1) (hk : tOk tx ln (aP tx ln (m - 1).toNat)) (ho : o = tEnd tx ln (aP tx ln (m - 1).toNat)) (hF : F_text tx ln = gT tx ln (40 - (m - 1)).toNat (aP tx ln (m - 1).toNat) (m - 1)) (hT : Told tx ln t m) (hln : ln ≤ 60) (ho2 : o < ln) (hs : tx o = 59) (k : tOk tx ln (o + 1)) (h : m' = m + 1 ∧ (∀ j : Int, 0 ≤ j → j < 3 * m → t' j = t j) ∧ t' (3 * m) = tK tx ln (o + 1) ∧ t' (3 * m + 1) = tFi tx ln (o + 1) ∧ (¬ sg (tK tx ln (o + 1)) = 0 → t' (3 * m + 2) = tSe tx ln (o + 1))) : 1 ≤ m' ∧ 3 * m' ≤ tEnd tx ln (o + 1) + 1 ∧ tOk tx ln (aP tx ln (m' - 1).toNat) ∧ tEnd tx ln (o + 1) = tEnd tx ln (aP tx ln (m' - 1).toNat) ∧ F_text tx ln = gT tx ln (40 - (m' - 1)).toNat (aP tx ln (m' - 1).toNat) (m' - 1) ∧ Told tx ln t' m' := by
  obtain ⟨rfl, h1, h2, h3, h4⟩ := h
  have ea : aP tx ln m.toNat = o + 1 := by
    rw [show m = m - 1 + 1 by omega, aP_S (by omega), ← ho]
  have e := (tEnd_b (tx := tx) (ln := ln) (a := o + 1) (by omega)).2.2 k
  rw [show m + 1 - 1 = m by omega, ea]
  refine ⟨by omega, by omega, k, rfl, ?_, Told.more (by omega) hT h1 (by rw [ea]; exact h2) (by rw [ea]; exact h3) (by rw [ea]; exact h4)⟩
  rw [hF, show (40 - (m - 1)).toNat = (40 - m).toNat + 1 by omega, gT_S, if_pos hk, ← ho, if_neg (by omega), if_pos ⟨ho2, hs⟩, show m - 1 + 1 = m by omega]
theorem rt_bad0 {tx : Int → Int} {ln : Int} (k : ¬ tOk tx ln 0) : F_text tx ln = -100 - tEnd tx ln 0 := by
  show gT tx ln (39 + 1) 0 0 = _
  rw [gT_S, if_neg k]
theorem rt_bad {tx : Int → Int} {ln m o : Int} (hm : 1 ≤ m) (h3m : 3 * m ≤ o + 1) (hk : tOk tx ln (aP tx ln (m - 1).toNat)) (ho : o = tEnd tx ln (aP tx ln (m - 1).toNat)) (hF : F_text tx ln = gT tx ln (40 - (m - 1)).toNat (aP tx ln (m - 1).toNat) (m - 1)) (hln : ln ≤ 60) (ho2 : o < ln) : (tx o = 59 → ¬ tOk tx ln (o + 1) → F_text tx ln = -100 - tEnd tx ln (o + 1)) ∧ (¬ tx o = 59 → F_text tx ln = -100 - o) := by
  refine ⟨fun hs k => ?_, fun hs => ?_⟩
  · rw [hF, show (40 - (m - 1)).toNat = (40 - (m + 1)).toNat + 1 + 1 by omega, gT_S, if_pos hk, ← ho, if_neg (by omega), if_pos ⟨ho2, hs⟩, gT_S, if_neg k]
  · rw [hF, show (40 - (m - 1)).toNat = (40 - m).toNat + 1 by omega, gT_S, if_pos hk, ← ho, if_neg (by omega), if_neg (fun z => hs z.2)]
theorem rt_end {tx : Int → Int} {ln m o : Int} (hm : 1 ≤ m) (h3m : 3 * m ≤ o + 1) (hk : tOk tx ln (aP tx ln (m - 1).toNat)) (ho : o = tEnd tx ln (aP tx ln (m - 1).toNat)) (hF : F_text tx ln = gT tx ln (40 - (m - 1)).toNat (aP tx ln (m - 1).toNat) (m - 1)) (hln : ln ≤ 60) (ho2 : o = ln) : F_text tx ln = m := by
  rw [hF, show (40 - (m - 1)).toNat = (40 - m).toNat + 1 by omega, gT_S, if_pos hk, ← ho, if_pos ho2]
  omega

set_option maxHeartbeats 4000000 in
set_option maxRecDepth 100000 in
theorem c_X5_readText (l : Launch) (D : va_G) (Y : Nat → ClassId) (h : Nat) (q : Nat → Nat) (z : Int → Int) (sp : Int → Int) (pa : Int → Int) (st : Int) (ke : Int → Int) (ik : Int) (tx : Int → Int) (ln : Int) (sn : Int) (se : Int) (dn : Int → Int) (up : Int → Int) (fa : Int → Int) (lo : Int → Int) (to : Int → Int) (tm : Int) (so : Int) (htx : ∀ j : Int, 0 ≤ j → j < 60 → 0 ≤ tx j ∧ tx j < 65536) (hln : 0 ≤ ln ∧ ln ≤ 60) : jM l yX5_readText wsX5_readText { frames := 5, cells := 0, slots := 0, locals := 113 } D Y [.ref h] (mV Y h q z sp pa st ke ik tx ln sn se dn up fa lo to tm so) (fun v_ w_ => ∃ (t2 : Int → Int) (m2 : Int) (o2 : Int), v_ = some (.int (jI (if 0 ≤ F_text tx ln then 1 else 0))) ∧ w_ = (mV Y h q z sp pa st ke ik tx ln sn se dn up fa lo t2 m2 o2) ∧ ((0 ≤ F_text tx ln → m2 = F_text tx ln ∧ Told tx ln t2 (F_text tx ln)) ∧ (F_text tx ln < 0 → F_text tx ln = -100 - o2) ∧ (0 ≤ o2 ∧ o2 ≤ ln))) 0 0 := by
  refine jM_of (cc := cX5_readText) (maxL := 2) (ret := (some .boolean)) (by decide) rfl (Nat.le_of_ble_eq_true rfl) (fun v w' h => by obtain ⟨_, _, _, h⟩ := h; exact Or.inr (Or.inl ⟨_, _, rfl, h.1, jI_z (ite_01 _)⟩)) ?_
  intro x G kr0
  have G : jG x l D Y cX5_readText RX5 wsX5_readText 2 ({ frames := 5, cells := 0, slots := 0, locals := 113 } : Room) (some .boolean) "readText" := G
  have hinX5 : ∀ w ∈ wsX50, w ∈ wsX5_readText := fun _ h => List.mem_cons_of_mem _ (List.mem_append_right _ h)
  show J x 0 0 (mV Y h q z sp pa st ke ik tx ln sn se dn up fa lo to tm so) 0 [(0, .ref h)] []
  refine j_aload_n G 0 dX5_readText_0 rfl ?_
  refine j_iconst G dX5_readText_1 (v := 0) rfl ?_
  refine j_put (q := 16) (C := RX5) (T := TX5) (N := 17) (ws' := mV Y h q z sp pa st ke ik tx ln sn se dn up fa lo to tm 0) G 0 hinX5 tyX5 tyX5_ok nmX5 dX5_readText_2 rfl rfl (by decide) (by decide +kernel) rfl rfl rfl rfl (Nat.le_of_ble_eq_true rfl) rfl ?_
  refine j_aload_n G 0 dX5_readText_5 rfl ?_
  refine j_iconst G dX5_readText_6 (v := 0) rfl ?_
  refine j_put (q := 15) (C := RX5) (T := TX5) (N := 17) (ws' := mV Y h q z sp pa st ke ik tx ln sn se dn up fa lo to 0 0) G 0 hinX5 tyX5 tyX5_ok nmX5 dX5_readText_7 rfl rfl (by decide) (by decide +kernel) rfl rfl rfl rfl (Nat.le_of_ble_eq_true rfl) rfl ?_
  refine j_aload_n G 0 dX5_readText_10 rfl ?_
  refine j_callV (nA := 0) (As := []) (st := []) (wc := (mV Y h q z sp pa st ke ik tx ln sn se dn up fa lo to 0 0)) (wr := []) G (c_X5_readThing l D Y h q z sp pa st ke ik tx ln sn se dn up fa lo to 0 0 (by first | assumption | omega) (by first | assumption | omega) (by first | assumption | omega) (by omega)) dX5_readText_11 rfl gX5_readText_X5_readThing rfl rfl rfl (by decide +kernel) ⟨by decide, by decide⟩ rfl 0 rfl rfl rfl (jLe.nil (jLe.rf _)) (Nat.le_of_ble_eq_true rfl) ⟨Nat.zero_le _, Nat.zero_le _⟩ (fun v_ w_ hp_ => ?_)
  obtain ⟨t2_1, m2_2, rfl, rfl, hx_3⟩ := hp_
  show J x 0 0 (mV Y h q z sp pa st ke ik tx ln sn se dn up fa lo t2_1 m2_2 (tEnd tx ln 0)) 14 [(0, .ref h)] [.int (jI (if tOk tx ln 0 then 1 else 0))]
  have hx0 := hx_3
  refine j_istore_n (lv' := [(1, .int (jI (if tOk tx ln 0 then 1 else 0))), (0, .ref h)]) G dX5_readText_14 (by decide) rfl ?_
  have lp15 : ∀ (n_ : Nat) (b : Int) (o : Int) (t : Int → Int) (m : Int), (b = 0 ∨ b = 1) → (0 ≤ o ∧ o ≤ ln) → (b = 1 → 1 ≤ m ∧ 3 * m ≤ o + 1 ∧ tOk tx ln (aP tx ln (m - 1).toNat) ∧ o = tEnd tx ln (aP tx ln (m - 1).toNat) ∧ F_text tx ln = gT tx ln (40 - (m - 1)).toNat (aP tx ln (m - 1).toNat) (m - 1) ∧ Told tx ln t m) → (b = 0 → F_text tx ln = -100 - o) → (60 - o + b) < (n_ : Int) → J x 0 0 (mV Y h q z sp pa st ke ik tx ln sn se dn up fa lo t m o) 15 [(0, .ref h), (1, .int (jI b))] [] := by
    intro n_
    induction n_ with
    | zero =>
      intro b o t m hb ho g w hm_
      exact absurd hm_ (by omega)
    | succ n_ ih15 =>
      intro b o t m hb ho g w hm_
      refine j_iload_n G 1 dX5_readText_15 rfl ?_
      refine j_if_eq (tgt := 55) G dX5_readText_16 (by decide) (by omega) (fun c16 => ?_) (fun c16 => ?_)
      · refine j_iload_n G 1 dX5_readText_55 rfl ?_
        exact j_reti G dX5_readText_56 (by first | (have z1 := w c16; rw [if_neg (by omega)]; omega) | (have z1 := rt_end g9.1 g9.2.1 g9.2.2.1 g9.2.2.2.1 g9.2.2.2.2.1 hln.2 (by omega); rw [if_pos (by omega)]; omega)) (jLe.rf _) (kr0 _ _ ⟨t, m, o, rfl, rfl, (by first | exact ⟨fun y => absurd (w c16) (by omega), fun _ => w c16, ho⟩ | (have z1 := rt_end g9.1 g9.2.1 g9.2.2.1 g9.2.2.2.1 g9.2.2.2.2.1 hln.2 (by omega); exact ⟨fun _ => ⟨z1.symm, by rw [z1]; exact g9.2.2.2.2.2⟩, fun y => by omega, ho⟩))⟩)
      · have h1 : b = 1 := by omega
        have g9 := g h1
        refine j_aload_n G 0 dX5_readText_19 rfl ?_
        refine j_get (q := 16) (C := RX5) (T := TX5) (N := 17) (v := .int (jI o)) G 0 hinX5 dX5_readText_20 rfl rfl (by decide) (by decide +kernel) rfl ?_
        refine j_aload_n G 0 dX5_readText_23 rfl ?_
        refine j_get (q := 7) (C := RX5) (T := TX5) (N := 17) (v := .int (jI ln)) G 0 hinX5 dX5_readText_24 rfl rfl (by decide) (by decide +kernel) rfl ?_
        refine j_icmp_ge (tgt := 55) G dX5_readText_27 (by decide) (by omega) (by omega) (fun c27 => ?_) (fun c27 => ?_)
        · refine j_iload_n G 1 dX5_readText_55 rfl ?_
          exact j_reti G dX5_readText_56 (by first | (have z1 := w c16; rw [if_neg (by omega)]; omega) | (have z1 := rt_end g9.1 g9.2.1 g9.2.2.1 g9.2.2.2.1 g9.2.2.2.2.1 hln.2 (by omega); rw [if_pos (by omega)]; omega)) (jLe.rf _) (kr0 _ _ ⟨t, m, o, rfl, rfl, (by first | exact ⟨fun y => absurd (w c16) (by omega), fun _ => w c16, ho⟩ | (have z1 := rt_end g9.1 g9.2.1 g9.2.2.1 g9.2.2.2.1 g9.2.2.2.2.1 hln.2 (by omega); exact ⟨fun _ => ⟨z1.symm, by rw [z1]; exact g9.2.2.2.2.2⟩, fun y => by omega, ho⟩))⟩)
        · refine j_aload_n G 0 dX5_readText_30 rfl ?_
          refine j_bipush G dX5_readText_31 (v := 59) rfl ?_
          refine j_callV (nA := 1) (As := [.int (jI 59)]) (st := []) (wc := (mV Y h q z sp pa st ke ik tx ln sn se dn up fa lo t m o)) (wr := []) G (c_X5_takes l D Y h q z sp pa st ke ik tx ln sn se dn up fa lo t m o 59 (by first | assumption | omega) (by first | assumption | omega) (by first | assumption | omega) (by first | assumption | omega)) dX5_readText_33 rfl gX5_readText_X5_takes rfl rfl rfl (by decide +kernel) ⟨by decide, by decide⟩ rfl 0 rfl rfl rfl (jLe.nil (jLe.rf _)) (Nat.le_of_ble_eq_true rfl) ⟨Nat.zero_le _, Nat.zero_le _⟩ (fun v_ w_ hp_ => ?_)
          obtain ⟨rfl, rfl⟩ := hp_
          show J x 0 0 (mV Y h q z sp pa st ke ik tx ln sn se dn up fa lo t m (if o < ln ∧ tx o = 59 then o + 1 else o)) 36 [(0, .ref h), (1, .int (jI b))] [.int (jI (if o < ln ∧ tx o = 59 then 1 else 0))]
          refine j_ifz_eq (tgt := 50) G dX5_readText_36 (by decide) (fun c36 => ?_) (fun c36 => ?_)
          · refine j_iconst G dX5_readText_50 (v := 0) rfl ?_
            refine j_istore_n (lv' := [(1, .int (jI 0)), (0, .ref h)]) G dX5_readText_51 (by decide) rfl ?_
            refine j_goto (tgt := 15) G dX5_readText_52 (by decide) ?_
            refine j_lv [1, 0] (lv' := [(0, .ref h), (1, .int (jI 0))]) rfl ?_
            exact ih15 0 (if o < ln ∧ tx o = 59 then o + 1 else o) t m (by omega) (by first | (rw [if_neg c36]; omega) | (have := tEnd_b (tx := tx) (ln := ln) (a := o + 1) (by omega); omega)) (by intro e; first | omega | exact rt_next (g h1).1 (g h1).2.1 (g h1).2.2.1 (g h1).2.2.2.1 (g h1).2.2.2.2.1 (g h1).2.2.2.2.2 hln.2 (by omega) c36.2 c43 (hx_.1 c43)) (by intro e; first | omega | exact (rt_bad (g h1).1 (g h1).2.1 (g h1).2.2.1 (g h1).2.2.2.1 (g h1).2.2.2.2.1 hln.2 (by omega)).1 c36.2 c43 | (rw [if_neg c36]; exact (rt_bad (g h1).1 (g h1).2.1 (g h1).2.2.1 (g h1).2.2.2.1 (g h1).2.2.2.2.1 hln.2 (by omega)).2 (fun z => c36 ⟨by omega, z⟩))) (by first | (rw [if_neg c36]; omega) | (have e0 := tEnd_b (tx := tx) (ln := ln) (a := o + 1) (by omega); omega))
          · rw [if_pos c36]
            refine j_aload_n G 0 dX5_readText_39 rfl ?_
            refine j_callV (nA := 0) (As := []) (st := []) (wc := (mV Y h q z sp pa st ke ik tx ln sn se dn up fa lo t m (o + 1))) (wr := []) G (c_X5_readThing l D Y h q z sp pa st ke ik tx ln sn se dn up fa lo t m (o + 1) (by first | assumption | omega) (by first | assumption | omega) (by first | assumption | omega) (by omega)) dX5_readText_40 rfl gX5_readText_X5_readThing rfl rfl rfl (by decide +kernel) ⟨by decide, by decide⟩ rfl 0 rfl rfl rfl (jLe.nil (jLe.rf _)) (Nat.le_of_ble_eq_true rfl) ⟨Nat.zero_le _, Nat.zero_le _⟩ (fun v_ w_ hp_ => ?_)
            obtain ⟨t2_4, m2_5, rfl, rfl, hx_6⟩ := hp_
            show J x 0 0 (mV Y h q z sp pa st ke ik tx ln sn se dn up fa lo t2_4 m2_5 (tEnd tx ln (o + 1))) 43 [(0, .ref h), (1, .int (jI b))] [.int (jI (if tOk tx ln (o + 1) then 1 else 0))]
            have hx_ := hx_6
            refine j_ifz_eq (tgt := 50) G dX5_readText_43 (by decide) (fun c43 => ?_) (fun c43 => ?_)
            · refine j_iconst G dX5_readText_50 (v := 0) rfl ?_
              refine j_istore_n (lv' := [(1, .int (jI 0)), (0, .ref h)]) G dX5_readText_51 (by decide) rfl ?_
              refine j_goto (tgt := 15) G dX5_readText_52 (by decide) ?_
              refine j_lv [1, 0] (lv' := [(0, .ref h), (1, .int (jI 0))]) rfl ?_
              exact ih15 0 (tEnd tx ln (o + 1)) t2_4 m2_5 (by omega) (by first | (rw [if_neg c36]; omega) | (have := tEnd_b (tx := tx) (ln := ln) (a := o + 1) (by omega); omega)) (by intro e; first | omega | exact rt_next (g h1).1 (g h1).2.1 (g h1).2.2.1 (g h1).2.2.2.1 (g h1).2.2.2.2.1 (g h1).2.2.2.2.2 hln.2 (by omega) c36.2 c43 (hx_.1 c43)) (by intro e; first | omega | exact (rt_bad (g h1).1 (g h1).2.1 (g h1).2.2.1 (g h1).2.2.2.1 (g h1).2.2.2.2.1 hln.2 (by omega)).1 c36.2 c43 | (rw [if_neg c36]; exact (rt_bad (g h1).1 (g h1).2.1 (g h1).2.2.1 (g h1).2.2.2.1 (g h1).2.2.2.2.1 hln.2 (by omega)).2 (fun z => c36 ⟨by omega, z⟩))) (by first | (rw [if_neg c36]; omega) | (have e0 := tEnd_b (tx := tx) (ln := ln) (a := o + 1) (by omega); omega))
            · refine j_iconst G dX5_readText_46 (v := 1) rfl ?_
              refine j_goto (tgt := 51) G dX5_readText_47 (by decide) ?_
              refine j_istore_n (lv' := [(1, .int (jI 1)), (0, .ref h)]) G dX5_readText_51 (by decide) rfl ?_
              refine j_goto (tgt := 15) G dX5_readText_52 (by decide) ?_
              refine j_lv [1, 0] (lv' := [(0, .ref h), (1, .int (jI 1))]) rfl ?_
              exact ih15 1 (tEnd tx ln (o + 1)) t2_4 m2_5 (by omega) (by first | (rw [if_neg c36]; omega) | (have := tEnd_b (tx := tx) (ln := ln) (a := o + 1) (by omega); omega)) (by intro e; first | omega | exact rt_next (g h1).1 (g h1).2.1 (g h1).2.2.1 (g h1).2.2.2.1 (g h1).2.2.2.2.1 (g h1).2.2.2.2.2 hln.2 (by omega) c36.2 c43 (hx_.1 c43)) (by intro e; first | omega | exact (rt_bad (g h1).1 (g h1).2.1 (g h1).2.2.1 (g h1).2.2.2.1 (g h1).2.2.2.2.1 hln.2 (by omega)).1 c36.2 c43 | (rw [if_neg c36]; exact (rt_bad (g h1).1 (g h1).2.1 (g h1).2.2.1 (g h1).2.2.2.1 (g h1).2.2.2.2.1 hln.2 (by omega)).2 (fun z => c36 ⟨by omega, z⟩))) (by first | (rw [if_neg c36]; omega) | (have e0 := tEnd_b (tx := tx) (ln := ln) (a := o + 1) (by omega); omega))
  refine j_lv [1, 0] (lv' := [(0, .ref h), (1, .int (jI (if tOk tx ln 0 then 1 else 0)))]) rfl ?_
  exact lp15 (Int.toNat ((60 - (tEnd tx ln 0) + (if tOk tx ln 0 then 1 else 0)) + 1)) (if tOk tx ln 0 then 1 else 0) (tEnd tx ln 0) t2_1 m2_2 (by by_cases k : tOk tx ln 0; rw [if_pos k]; exact Or.inr rfl; rw [if_neg k]; exact Or.inl rfl) (by have := tEnd_b (tx := tx) (ln := ln) (a := 0) hln.1; omega) (by intro e; by_cases k : tOk tx ln 0; exact rt_first hln.1 k (hx0.1 k); rw [if_neg k] at e; omega) (by intro e; by_cases k : tOk tx ln 0; rw [if_pos k] at e; omega; exact rt_bad0 k) (by omega)
