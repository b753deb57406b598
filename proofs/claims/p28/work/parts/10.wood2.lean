theorem c_X2_throughT (l : Launch) (D : va_G) (Y : Nat → ClassId) (h : Nat) (q : Nat → Nat) (t : Int → Int) (p : Int) (hp : 0 ≤ p ∧ p < 64) : jM l yX2_through wsX2_through { frames := 0, cells := 0, slots := 0, locals := 0 } D Y [.ref h, .int (jI p)] (pT Y h q t) (fun v_ w_ => v_ = some (.int (jI (pTh t p))) ∧ w_ = (pT Y h q t)) 0 0 := c_X2_through l D Y h q (pAb t) (pBe t) (pAll t) p hp

theorem c_X2_withinT (l : Launch) (D : va_G) (Y : Nat → ClassId) (h : Nat) (q : Nat → Nat) (t : Int → Int) (p : Int) (w : Int) (hp : 0 ≤ p ∧ p < 64) (hw : 0 ≤ w ∧ w ≤ 2) : jM l yX2_within wsX2_within { frames := 1, cells := 0, slots := 0, locals := 21 } D Y [.ref h, .int (jI p), .int (jI w)] (pT Y h q t) (fun v_ w_ => v_ = some (.int (jI (pHi (pTh t) p w))) ∧ w_ = (pT Y h q t)) 0 0 := c_X2_within l D Y h q (pAb t) (pBe t) (pAll t) p w hp hw

theorem c_X2_leastColumnT (l : Launch) (D : va_G) (Y : Nat → ClassId) (h : Nat) (q : Nat → Nat) (t : Int → Int) (r : Int) (hr : 0 ≤ r ∧ r < 8) (ha : 1 ≤ pAll t) : jM l yX2_leastColumn wsX2_leastColumn { frames := 1, cells := 0, slots := 0, locals := 21 } D Y [.ref h, .int (jI r)] (pT Y h q t) (fun v_ w_ => v_ = some (.int (jI (cLeast (fun c => pTh t (r * 8 + c)) 8))) ∧ w_ = (pT Y h q t)) 0 0 := c_X2_leastColumn l D Y h q (pAb t) (pBe t) (pAll t) r hr (fun c a b => by have := pTh_b t (p := r * 8 + c) (by omega); omega) (pTh_ex ha hr)

theorem c_X2_greatestColumnT (l : Launch) (D : va_G) (Y : Nat → ClassId) (h : Nat) (q : Nat → Nat) (t : Int → Int) (r : Int) (hr : 0 ≤ r ∧ r < 8) (ha : 1 ≤ pAll t) : jM l yX2_greatestColumn wsX2_greatestColumn { frames := 1, cells := 0, slots := 0, locals := 21 } D Y [.ref h, .int (jI r)] (pT Y h q t) (fun v_ w_ => v_ = some (.int (jI (cMost (fun c => pTh t (r * 8 + c)) 8))) ∧ w_ = (pT Y h q t)) 0 0 := c_X2_greatestColumn l D Y h q (pAb t) (pBe t) (pAll t) r hr (fun c a b => by have := pTh_b t (p := r * 8 + c) (by omega); omega) (pTh_ex ha hr)

theorem c_X2_mostOpenRowT (l : Launch) (D : va_G) (Y : Nat → ClassId) (h : Nat) (q : Nat → Nat) (t : Int → Int)  : jM l yX2_mostOpenRow wsX2_mostOpenRow { frames := 2, cells := 0, slots := 0, locals := 44 } D Y [.ref h] (pT Y h q t) (fun v_ w_ => v_ = some (.int (jI (if pAll t ≤ 1 then -5 else cRow (fun r => cOpen (fun c => pTh t (r * 8 + c)) 8) 7))) ∧ w_ = (pT Y h q t)) 0 0 := c_X2_mostOpenRow l D Y h q (pAb t) (pBe t) (pAll t) (by have := pAll_b t; omega) (fun r h0 h1 c a b => by have := pTh_b t (p := r * 8 + c) (by omega); omega)

set_option maxHeartbeats 4000000 in
set_option maxRecDepth 100000 in
theorem c_X3_hits (l : Launch) (D : va_G) (Y : Nat → ClassId) (h : Nat) (q : Nat → Nat) (wo : Int → Int) (fe : Int → Int) (mu : Int) (pl : Int → Int) (st : Int → Int) (sa : Int → Int) (fl : Int → Int) (to : Int → Int) (se : Int → Int) (da : Int) (lo : Int) (re : Int) (sm : Int) (h2 : Nat) (q2 : Nat → Nat) (t : Int → Int) (p : Int) (hs : 0 ≤ se 1 ∧ se 1 ≤ 2) (hp : 0 ≤ p ∧ p < 64) : jM l yX3_hits wsX3_hits { frames := 2, cells := 0, slots := 0, locals := 48 } D Y [.ref h, .ref h2, .int (jI p)] (wV Y h q wo fe mu pl st sa fl to se da lo re sm ++ (pT Y h2 q2 t)) (fun v_ w_ => v_ = some (.int (jI (pHi (pTh t) p (se 1)))) ∧ w_ = (wV Y h q wo fe mu pl st sa fl to se da lo re sm ++ (pT Y h2 q2 t))) 0 0 := by
  refine jM_of (cc := cX3_hits) (maxL := 3) (ret := (some .int)) (by decide) rfl (Nat.le_of_ble_eq_true rfl) (fun v w' h => Or.inr (Or.inl ⟨_, _, rfl, h.1, rfl⟩)) ?_
  intro x G kr0
  have kr := kr0 _ _ ⟨rfl, rfl⟩
  have G : jG x l D Y cX3_hits RX3 wsX3_hits 3 ({ frames := 2, cells := 0, slots := 0, locals := 48 } : Room) (some .int) "hits" := G
  have hinX3 : ∀ w ∈ wsX30, w ∈ wsX3_hits := fun _ h => List.mem_cons_of_mem _ (List.mem_append_left _ (List.mem_append_right _ h))
  show J x 0 0 (wV Y h q wo fe mu pl st sa fl to se da lo re sm ++ (pT Y h2 q2 t)) 0 [(0, .ref h), (1, .ref h2), (2, .int (jI p))] []
  refine j_aload_n G 1 dX3_hits_0 rfl ?_
  refine j_iload_n G 2 dX3_hits_1 rfl ?_
  refine j_aload_n G 0 dX3_hits_2 rfl ?_
  refine j_get (q := 8) (C := RX3) (T := TX3) (N := 13) (v := .ref (q 7)) G 0 hinX3 dX3_hits_3 rfl rfl (by decide) (by decide +kernel) rfl ?_
  refine j_iconst G dX3_hits_6 (v := 1) rfl ?_
  refine j_iald (v := se 1) G 8 dX3_hits_7 rfl (by omega) rfl ?_
  refine j_callV (nA := 2) (As := [.int (jI p), .int (jI (se 1))]) (st := []) (wc := (pT Y h2 q2 t)) (wr := (wV Y h q wo fe mu pl st sa fl to se da lo re sm)) G (c_X2_withinT l D Y h2 q2 t p (se 1) (by first | assumption | omega) (by first | assumption | omega)) dX3_hits_8 rfl gX3_hits_X2_within rfl rfl rfl (by decide +kernel) ⟨by decide, by decide⟩ rfl 0 rfl rfl rfl (jLe.pos [9, 10, 11, 0, 1, 2, 3, 4, 5, 6, 7, 8] rfl rfl) (Nat.le_of_ble_eq_true rfl) ⟨Nat.zero_le _, Nat.zero_le _⟩ (fun v_ w_ hp_ => ?_)
  obtain ⟨rfl, rfl⟩ := hp_
  refine j_conv (ws' := wV Y h q wo fe mu pl st sa fl to se da lo re sm ++ (pT Y h2 q2 t)) (jLe.pos [3, 4, 5, 6, 7, 8, 9, 10, 11, 0, 1, 2] rfl rfl) ?_
  show J x 0 0 (wV Y h q wo fe mu pl st sa fl to se da lo re sm ++ (pT Y h2 q2 t)) 11 [(0, .ref h), (1, .ref h2), (2, .int (jI p))] [.int (jI (pHi (pTh t) p (se 1)))]
  exact j_reti G dX3_hits_11 (by first | rfl | omega | exact ite_T (by omega) | exact ite_F (by omega)) (jLe.rf _) kr

set_option maxHeartbeats 4000000 in
set_option maxRecDepth 100000 in
theorem c_X3_isEndangered (l : Launch) (D : va_G) (Y : Nat → ClassId) (h : Nat) (q : Nat → Nat) (wo : Int → Int) (fe : Int → Int) (mu : Int) (pl : Int → Int) (st : Int → Int) (sa : Int → Int) (fl : Int → Int) (to : Int → Int) (se : Int → Int) (da : Int) (lo : Int) (re : Int) (sm : Int) (h2 : Nat) (q2 : Nat → Nat) (t : Int → Int) (p : Int) (hs : 0 ≤ se 1 ∧ se 1 ≤ 2) (hp : 0 ≤ p ∧ p < 64) : jM l yX3_isEndangered wsX3_isEndangered { frames := 3, cells := 0, slots := 0, locals := 70 } D Y [.ref h, .ref h2, .int (jI p)] (wV Y h q wo fe mu pl st sa fl to se da lo re sm ++ (pT Y h2 q2 t)) (fun v_ w_ => v_ = some (.int (jI (if 0 < pHi (pTh t) p (se 1) then 1 else 0))) ∧ w_ = (wV Y h q wo fe mu pl st sa fl to se da lo re sm ++ (pT Y h2 q2 t))) 0 0 := by
  refine jM_of (cc := cX3_isEndangered) (maxL := 3) (ret := (some .boolean)) (by decide) rfl (Nat.le_of_ble_eq_true rfl) (fun v w' h => Or.inr (Or.inl ⟨_, _, rfl, h.1, jI_z (ite_01 _)⟩)) ?_
  intro x G kr0
  have kr := kr0 _ _ ⟨rfl, rfl⟩
  have G : jG x l D Y cX3_isEndangered RX3 wsX3_isEndangered 3 ({ frames := 3, cells := 0, slots := 0, locals := 70 } : Room) (some .boolean) "isEndangered" := G
  show J x 0 0 (wV Y h q wo fe mu pl st sa fl to se da lo re sm ++ (pT Y h2 q2 t)) 0 [(0, .ref h), (1, .ref h2), (2, .int (jI p))] []
  refine j_aload_n G 0 dX3_isEndangered_0 rfl ?_
  refine j_aload_n G 1 dX3_isEndangered_1 rfl ?_
  refine j_iload_n G 2 dX3_isEndangered_2 rfl ?_
  refine j_callV (nA := 2) (As := [.ref h2, .int (jI p)]) (st := []) (wc := (wV Y h q wo fe mu pl st sa fl to se da lo re sm ++ (pT Y h2 q2 t))) (wr := []) G (c_X3_hits l D Y h q wo fe mu pl st sa fl to se da lo re sm h2 q2 t p (by first | assumption | omega) (by first | assumption | omega)) dX3_isEndangered_3 rfl gX3_isEndangered_X3_hits rfl rfl rfl (by decide +kernel) ⟨by decide, by decide⟩ rfl 0 rfl rfl rfl (jLe.nil (jLe.rf _)) (Nat.le_of_ble_eq_true rfl) ⟨Nat.zero_le _, Nat.zero_le _⟩ (fun v_ w_ hp_ => ?_)
  obtain ⟨rfl, rfl⟩ := hp_
  show J x 0 0 (wV Y h q wo fe mu pl st sa fl to se da lo re sm ++ (pT Y h2 q2 t)) 6 [(0, .ref h), (1, .ref h2), (2, .int (jI p))] [.int (jI (pHi (pTh t) p (se 1)))]
  have f6 := pHi_b t (se 1) hp
  refine j_if_le (tgt := 13) G dX3_isEndangered_6 (by decide) (by omega) (fun c6 => ?_) (fun c6 => ?_)
  · refine j_iconst G dX3_isEndangered_13 (v := 0) rfl ?_
    exact j_reti G dX3_isEndangered_14 (by first | rfl | omega | exact ite_T (by omega) | exact ite_F (by omega)) (jLe.rf _) kr
  · refine j_iconst G dX3_isEndangered_9 (v := 1) rfl ?_
    refine j_goto (tgt := 14) G dX3_isEndangered_10 (by decide) ?_
    exact j_reti G dX3_isEndangered_14 (by first | rfl | omega | exact ite_T (by omega) | exact ite_F (by omega)) (jLe.rf _) kr

set_option maxHeartbeats 4000000 in
set_option maxRecDepth 100000 in
theorem c_X3_isDoomed (l : Launch) (D : va_G) (Y : Nat → ClassId) (h : Nat) (q : Nat → Nat) (wo : Int → Int) (fe : Int → Int) (mu : Int) (pl : Int → Int) (st : Int → Int) (sa : Int → Int) (fl : Int → Int) (to : Int → Int) (se : Int → Int) (da : Int) (lo : Int) (re : Int) (sm : Int) (h2 : Nat) (q2 : Nat → Nat) (t : Int → Int) (p : Int) (hs : 0 ≤ se 1 ∧ se 1 ≤ 2) (hp : 0 ≤ p ∧ p < 64) : jM l yX3_isDoomed wsX3_isDoomed { frames := 3, cells := 0, slots := 0, locals := 70 } D Y [.ref h, .ref h2, .int (jI p)] (wV Y h q wo fe mu pl st sa fl to se da lo re sm ++ (pT Y h2 q2 t)) (fun v_ w_ => v_ = some (.int (jI (if pHi (pTh t) p (se 1) = pAll t then 1 else 0))) ∧ w_ = (wV Y h q wo fe mu pl st sa fl to se da lo re sm ++ (pT Y h2 q2 t))) 0 0 := by
  refine jM_of (cc := cX3_isDoomed) (maxL := 3) (ret := (some .boolean)) (by decide) rfl (Nat.le_of_ble_eq_true rfl) (fun v w' h => Or.inr (Or.inl ⟨_, _, rfl, h.1, jI_z (ite_01 _)⟩)) ?_
  intro x G kr0
  have kr := kr0 _ _ ⟨rfl, rfl⟩
  have G : jG x l D Y cX3_isDoomed RX3 wsX3_isDoomed 3 ({ frames := 3, cells := 0, slots := 0, locals := 70 } : Room) (some .boolean) "isDoomed" := G
  have hinX2 : ∀ w ∈ wsX20, w ∈ wsX3_isDoomed := fun _ h => List.mem_cons_of_mem _ (List.mem_append_left _ (List.mem_append_right _ h))
  show J x 0 0 (wV Y h q wo fe mu pl st sa fl to se da lo re sm ++ (pT Y h2 q2 t)) 0 [(0, .ref h), (1, .ref h2), (2, .int (jI p))] []
  refine j_aload_n G 0 dX3_isDoomed_0 rfl ?_
  refine j_aload_n G 1 dX3_isDoomed_1 rfl ?_
  refine j_iload_n G 2 dX3_isDoomed_2 rfl ?_
  refine j_callV (nA := 2) (As := [.ref h2, .int (jI p)]) (st := []) (wc := (wV Y h q wo fe mu pl st sa fl to se da lo re sm ++ (pT Y h2 q2 t))) (wr := []) G (c_X3_hits l D Y h q wo fe mu pl st sa fl to se da lo re sm h2 q2 t p (by first | assumption | omega) (by first | assumption | omega)) dX3_isDoomed_3 rfl gX3_isDoomed_X3_hits rfl rfl rfl (by decide +kernel) ⟨by decide, by decide⟩ rfl 0 rfl rfl rfl (jLe.nil (jLe.rf _)) (Nat.le_of_ble_eq_true rfl) ⟨Nat.zero_le _, Nat.zero_le _⟩ (fun v_ w_ hp_ => ?_)
  obtain ⟨rfl, rfl⟩ := hp_
  show J x 0 0 (wV Y h q wo fe mu pl st sa fl to se da lo re sm ++ (pT Y h2 q2 t)) 6 [(0, .ref h), (1, .ref h2), (2, .int (jI p))] [.int (jI (pHi (pTh t) p (se 1)))]
  have f6 := pHi_b t (se 1) hp
  have f7 := pAll_b t
  refine j_aload_n G 1 dX3_isDoomed_6 rfl ?_
  refine j_getN (q := 2) (C := RX2) (T := TX2) (N := 3) (v := .int (jI (pAll t))) (host := "StormFelling") G 9 hinX2 dX3_isDoomed_7 rfl rfl (by decide) (by decide +kernel) rfl ?_
  refine j_icmp_ne (tgt := 17) G dX3_isDoomed_10 (by decide) (by omega) (by omega) (fun c10 => ?_) (fun c10 => ?_)
  · refine j_iconst G dX3_isDoomed_17 (v := 0) rfl ?_
    exact j_reti G dX3_isDoomed_18 (by first | rfl | omega | exact ite_T (by omega) | exact ite_F (by omega)) (jLe.rf _) kr
  · refine j_iconst G dX3_isDoomed_13 (v := 1) rfl ?_
    refine j_goto (tgt := 18) G dX3_isDoomed_14 (by decide) ?_
    exact j_reti G dX3_isDoomed_18 (by first | rfl | omega | exact ite_T (by omega) | exact ite_F (by omega)) (jLe.rf _) kr

theorem c_X3_hitsZ (l : Launch) (D : va_G) (Y : Nat → ClassId) (h : Nat) (q : Nat → Nat) (z : Int → Int) (h2 : Nat) (q2 : Nat → Nat) (t : Int → Int) (p : Int) (hs : 0 ≤ z 1 ∧ z 1 ≤ 2) (hp : 0 ≤ p ∧ p < 64) : jM l yX3_hits wsX3_hits { frames := 2, cells := 0, slots := 0, locals := 48 } D Y [.ref h, .ref h2, .int (jI p)] (wZ Y h q z ++ (pT Y h2 q2 t)) (fun v_ w_ => v_ = some (.int (jI (zHi z t p))) ∧ w_ = (wZ Y h q z ++ (pT Y h2 q2 t))) 0 0 := c_X3_hits l D Y h q (fun j => z (28 + j)) (fun j => z (156 + j)) (z 92) (fun j => z (15 + 4 * j)) (fun j => z (16 + 4 * j)) (fun j => z (17 + 4 * j)) (fun j => z (18 + 4 * j)) (fun j => z (7 + j)) (fun j => z j) (z 3) (z 4) (z 5) (z 6) h2 q2 t p hs hp

theorem c_X3_isEndangeredZ (l : Launch) (D : va_G) (Y : Nat → ClassId) (h : Nat) (q : Nat → Nat) (z : Int → Int) (h2 : Nat) (q2 : Nat → Nat) (t : Int → Int) (p : Int) (hs : 0 ≤ z 1 ∧ z 1 ≤ 2) (hp : 0 ≤ p ∧ p < 64) : jM l yX3_isEndangered wsX3_isEndangered { frames := 3, cells := 0, slots := 0, locals := 70 } D Y [.ref h, .ref h2, .int (jI p)] (wZ Y h q z ++ (pT Y h2 q2 t)) (fun v_ w_ => v_ = some (.int (jI (if 0 < zHi z t p then 1 else 0))) ∧ w_ = (wZ Y h q z ++ (pT Y h2 q2 t))) 0 0 := c_X3_isEndangered l D Y h q (fun j => z (28 + j)) (fun j => z (156 + j)) (z 92) (fun j => z (15 + 4 * j)) (fun j => z (16 + 4 * j)) (fun j => z (17 + 4 * j)) (fun j => z (18 + 4 * j)) (fun j => z (7 + j)) (fun j => z j) (z 3) (z 4) (z 5) (z 6) h2 q2 t p hs hp

theorem c_X3_isDoomedZ (l : Launch) (D : va_G) (Y : Nat → ClassId) (h : Nat) (q : Nat → Nat) (z : Int → Int) (h2 : Nat) (q2 : Nat → Nat) (t : Int → Int) (p : Int) (hs : 0 ≤ z 1 ∧ z 1 ≤ 2) (hp : 0 ≤ p ∧ p < 64) : jM l yX3_isDoomed wsX3_isDoomed { frames := 3, cells := 0, slots := 0, locals := 70 } D Y [.ref h, .ref h2, .int (jI p)] (wZ Y h q z ++ (pT Y h2 q2 t)) (fun v_ w_ => v_ = some (.int (jI (if zHi z t p = pAll t then 1 else 0))) ∧ w_ = (wZ Y h q z ++ (pT Y h2 q2 t))) 0 0 := c_X3_isDoomed l D Y h q (fun j => z (28 + j)) (fun j => z (156 + j)) (z 92) (fun j => z (15 + 4 * j)) (fun j => z (16 + 4 * j)) (fun j => z (17 + 4 * j)) (fun j => z (18 + 4 * j)) (fun j => z (7 + j)) (fun j => z j) (z 3) (z 4) (z 5) (z 6) h2 q2 t p hs hp

set_option maxHeartbeats 4000000 in
set_option maxRecDepth 100000 in
theorem c_X3_standsToLose (l : Launch) (D : va_G) (Y : Nat → ClassId) (h : Nat) (q : Nat → Nat) (z : Int → Int) (h2 : Nat) (q2 : Nat → Nat) (t : Int → Int) (p : Int) (hI : Inv z) (ha : 1 ≤ pAll t) (hp : 0 ≤ p ∧ p < 64) : jM l yX3_standsToLose wsX3_standsToLose { frames := 3, cells := 0, slots := 0, locals := 70 } D Y [.ref h, .ref h2, .int (jI p)] (wZ Y h q z ++ (pT Y h2 q2 t)) (fun v_ w_ => v_ = some (.int (jI (zLo z t p))) ∧ w_ = (wZ Y h q z ++ (pT Y h2 q2 t))) 0 0 := by
  refine jM_of (cc := cX3_standsToLose) (maxL := 3) (ret := (some .int)) (by decide) rfl (Nat.le_of_ble_eq_true rfl) (fun v w' h => Or.inr (Or.inl ⟨_, _, rfl, h.1, rfl⟩)) ?_
  intro x G kr0
  have kr := kr0 _ _ ⟨rfl, rfl⟩
  have G : jG x l D Y cX3_standsToLose RX3 wsX3_standsToLose 3 ({ frames := 3, cells := 0, slots := 0, locals := 70 } : Room) (some .int) "standsToLose" := G
  have hinX2 : ∀ w ∈ wsX20, w ∈ wsX3_standsToLose := fun _ h => List.mem_cons_of_mem _ (List.mem_append_left _ (List.mem_append_right _ h))
  have hinX3 : ∀ w ∈ wsX30, w ∈ wsX3_standsToLose := fun _ h => List.mem_cons_of_mem _ (List.mem_append_right _ h)
  have f0 := pAll_b t
  have f1 := hI.wo p hp.1 hp.2
  have f2 := zLo_m t hI hp
  show J x 0 0 (wZ Y h q z ++ (pT Y h2 q2 t)) 0 [(0, .ref h), (1, .ref h2), (2, .int (jI p))] []
  refine j_aload_n G 1 dX3_standsToLose_0 rfl ?_
  refine j_getN (q := 2) (C := RX2) (T := TX2) (N := 3) (v := .int (jI (pAll t))) (host := "StormFelling") G 9 hinX2 dX3_standsToLose_1 rfl rfl (by decide) (by decide +kernel) rfl ?_
  refine j_if_ne (tgt := 9) G dX3_standsToLose_4 (by decide) (by omega) (fun c4 => ?_) (fun c4 => absurd c4 (by omega))
  refine j_aload_n G 0 dX3_standsToLose_9 rfl ?_
  refine j_get (q := 0) (C := RX3) (T := TX3) (N := 13) (v := .ref (q 0)) G 0 hinX3 dX3_standsToLose_10 rfl rfl (by decide) (by decide +kernel) rfl ?_
  refine j_iload_n G 2 dX3_standsToLose_13 rfl ?_
  refine j_iald (v := z (28 + p)) G 1 dX3_standsToLose_14 rfl (by omega) rfl ?_
  refine j_aload_n G 0 dX3_standsToLose_15 rfl ?_
  refine j_aload_n G 1 dX3_standsToLose_16 rfl ?_
  refine j_iload_n G 2 dX3_standsToLose_17 rfl ?_
  refine j_callV (nA := 2) (As := [.ref h2, .int (jI p)]) (st := [.int (jI (z (28 + p)))]) (wc := (wZ Y h q z ++ (pT Y h2 q2 t))) (wr := []) G (c_X3_hitsZ l D Y h q z h2 q2 t p (by first | assumption | exact hI.s1) (by first | assumption | omega)) dX3_standsToLose_18 rfl gX3_standsToLose_X3_hits rfl rfl rfl (by decide +kernel) ⟨by decide, by decide⟩ rfl 0 rfl rfl rfl (jLe.nil (jLe.rf _)) (Nat.le_of_ble_eq_true rfl) ⟨Nat.zero_le _, Nat.zero_le _⟩ (fun v_ w_ hp_ => ?_)
  obtain ⟨rfl, rfl⟩ := hp_
  show J x 0 0 (wZ Y h q z ++ (pT Y h2 q2 t)) 21 [(0, .ref h), (1, .ref h2), (2, .int (jI p))] [.int (jI (zHi z t p)), .int (jI (z (28 + p)))]
  refine j_imul G dX3_standsToLose_21 ?_
  refine j_aload_n G 1 dX3_standsToLose_22 rfl ?_
  refine j_getN (q := 2) (C := RX2) (T := TX2) (N := 3) (v := .int (jI (pAll t))) (host := "StormFelling") G 9 hinX2 dX3_standsToLose_23 rfl rfl (by decide) (by decide +kernel) rfl ?_
  refine j_idiv G dX3_standsToLose_26 (by omega) (by omega) ?_
  exact j_reti G dX3_standsToLose_27 (by rfl) (jLe.rf _) kr

set_option maxHeartbeats 4000000 in
set_option maxRecDepth 100000 in
theorem c_X3_tellColumn (l : Launch) (D : va_G) (Y : Nat → ClassId) (h : Nat) (q : Nat → Nat) (z : Int → Int) (h2 : Nat) (q2 : Nat → Nat) (r : Int) (c : Int) (hI : Inv z) (hr : -2147483648 ≤ r ∧ r < 2147483648) (hc : -2147483648 ≤ c ∧ c < 2147483648) : jM l yX3_tellColumn wsX3_tellColumn { frames := 1, cells := 0, slots := 0, locals := 22 } D Y [.ref h, .ref h2, .int (jI r), .int (jI c)] (wZ Y h q z ++ (pT Y h2 q2 (tZ z))) (fun v_ w_ => v_ = some (.int (jI (F_hint z r c))) ∧ w_ = (wZ Y h q (G_hint z r c) ++ (pT Y h2 q2 (tZ z)))) 0 0 := by
  refine jM_of (cc := cX3_tellColumn) (maxL := 5) (ret := (some .int)) (by decide) rfl (Nat.le_of_ble_eq_true rfl) (fun v w' h => Or.inr (Or.inl ⟨_, _, rfl, h.1, rfl⟩)) ?_
  intro x G kr0
  have kr := kr0 _ _ ⟨rfl, rfl⟩
  have G : jG x l D Y cX3_tellColumn RX3 wsX3_tellColumn 5 ({ frames := 1, cells := 0, slots := 0, locals := 22 } : Room) (some .int) "tellColumn" := G
  have hinX3 : ∀ w ∈ wsX30, w ∈ wsX3_tellColumn := fun _ h => List.mem_cons_of_mem _ (List.mem_append_left _ (List.mem_append_right _ h))
  show J x 0 0 (wZ Y h q z ++ (pT Y h2 q2 (tZ z))) 0 [(0, .ref h), (1, .ref h2), (2, .int (jI r)), (3, .int (jI c))] []
  refine j_iload_n G 2 dX3_tellColumn_0 rfl ?_
  refine j_iconst G dX3_tellColumn_1 (v := 0) rfl ?_
  refine j_bipush G dX3_tellColumn_2 (v := 7) rfl ?_
  refine j_callSN (host := "StormFelling") (nA := 3) (As := [.int (jI r), .int (jI 0), .int (jI 7)]) (st := []) (wc := []) (wr := (wZ Y h q z ++ (pT Y h2 q2 (tZ z)))) G (c_X4_isIn l D Y r 0 7 (by first | assumption | omega) (by first | assumption | omega) (by first | assumption | omega)) dX3_tellColumn_4 rfl gX3_tellColumn_X4_isIn_n62 rfl rfl rfl (by decide +kernel) (by decide +kernel) (by decide +kernel) (by decide +kernel) ⟨by decide, by decide⟩ rfl (jLe.rf _) (Nat.le_of_ble_eq_true rfl) ⟨Nat.zero_le _, Nat.zero_le _⟩ (fun v_ w_ hp_ => ?_)
  obtain ⟨rfl, rfl⟩ := hp_
  show J x 0 0 (wZ Y h q z ++ (pT Y h2 q2 (tZ z))) 7 [(0, .ref h), (1, .ref h2), (2, .int (jI r)), (3, .int (jI c))] [.int (jI (if 0 ≤ r ∧ r ≤ 7 then 1 else 0))]
  refine j_ifz_ne (tgt := 12) G dX3_tellColumn_7 (by decide) (fun c7 => ?_) (fun c7 => ?_)
  · refine j_iload_n G 3 dX3_tellColumn_12 rfl ?_
    refine j_iconst G dX3_tellColumn_13 (v := 0) rfl ?_
    refine j_bipush G dX3_tellColumn_14 (v := 7) rfl ?_
    refine j_callSN (host := "StormFelling") (nA := 3) (As := [.int (jI c), .int (jI 0), .int (jI 7)]) (st := []) (wc := []) (wr := (wZ Y h q z ++ (pT Y h2 q2 (tZ z)))) G (c_X4_isIn l D Y c 0 7 (by first | assumption | omega) (by first | assumption | omega) (by first | assumption | omega)) dX3_tellColumn_16 rfl gX3_tellColumn_X4_isIn_n62 rfl rfl rfl (by decide +kernel) (by decide +kernel) (by decide +kernel) (by decide +kernel) ⟨by decide, by decide⟩ rfl (jLe.rf _) (Nat.le_of_ble_eq_true rfl) ⟨Nat.zero_le _, Nat.zero_le _⟩ (fun v_ w_ hp_ => ?_)
    obtain ⟨rfl, rfl⟩ := hp_
    show J x 0 0 (wZ Y h q z ++ (pT Y h2 q2 (tZ z))) 19 [(0, .ref h), (1, .ref h2), (2, .int (jI r)), (3, .int (jI c))] [.int (jI (if 0 ≤ c ∧ c ≤ 7 then 1 else 0))]
    refine j_ifz_ne (tgt := 25) G dX3_tellColumn_19 (by decide) (fun c19 => ?_) (fun c19 => ?_)
    · refine j_aload_n G 1 dX3_tellColumn_25 rfl ?_
      refine j_iload_n G 2 dX3_tellColumn_26 rfl ?_
      refine j_bipush G dX3_tellColumn_27 (v := 8) rfl ?_
      refine j_imul G dX3_tellColumn_29 ?_
      refine j_iload_n G 3 dX3_tellColumn_30 rfl ?_
      refine j_iadd G dX3_tellColumn_31 ?_
      refine j_callV (nA := 1) (As := [.int (jI ((r * 8) + c))]) (st := []) (wc := (pT Y h2 q2 (tZ z))) (wr := (wZ Y h q z)) G (c_X2_throughT l D Y h2 q2 (tZ z) ((r * 8) + c) (by first | assumption | omega)) dX3_tellColumn_32 rfl gX3_tellColumn_X2_through rfl rfl rfl (by decide +kernel) ⟨by decide, by decide⟩ rfl 0 rfl rfl rfl (jLe.pos [9, 10, 11, 0, 1, 2, 3, 4, 5, 6, 7, 8] rfl rfl) (Nat.le_of_ble_eq_true rfl) ⟨Nat.zero_le _, Nat.zero_le _⟩ (fun v_ w_ hp_ => ?_)
      obtain ⟨rfl, rfl⟩ := hp_
      refine j_conv (ws' := wZ Y h q z ++ (pT Y h2 q2 (tZ z))) (jLe.pos [3, 4, 5, 6, 7, 8, 9, 10, 11, 0, 1, 2] rfl rfl) ?_
      show J x 0 0 (wZ Y h q z ++ (pT Y h2 q2 (tZ z))) 35 [(0, .ref h), (1, .ref h2), (2, .int (jI r)), (3, .int (jI c))] [.int (jI (pTh (tZ z) ((r * 8) + c)))]
      have f35 := pTh_b (tZ z) (p := r * 8 + c) (by omega)
      have f36 : 0 ≤ pTh (tZ z) (r * 8 + c) ∧ pTh (tZ z) (r * 8 + c) ≤ 2187 := f35
      have f37 := hI.tR r (by omega) (by omega)
      refine j_istore (lv' := [(4, .int (jI (pTh (tZ z) ((r * 8) + c)))), (0, .ref h), (1, .ref h2), (2, .int (jI r)), (3, .int (jI c))]) G dX3_tellColumn_35 (by decide) rfl ?_
      refine j_aload_n G 1 dX3_tellColumn_37 rfl ?_
      refine j_get (q := 7) (C := RX3) (T := TX3) (N := 13) (v := .ref (q 6)) G 0 hinX3 dX3_tellColumn_38 rfl rfl (by decide) (by decide +kernel) rfl ?_
      refine j_iload_n G 3 dX3_tellColumn_41 rfl ?_
      refine j_iald (v := z (7 + r)) G 7 dX3_tellColumn_42 rfl (by omega) rfl ?_
      refine j_bipush G dX3_tellColumn_43 (v := (-5)) rfl ?_
      refine j_icmp_ne (tgt := 53) G dX3_tellColumn_45 (by decide) (by omega) (by omega) (fun c45 => ?_) (fun c45 => ?_)
      · refine j_bipush G dX3_tellColumn_53 (v := (-4)) rfl ?_
        exact j_reti G dX3_tellColumn_55 (by unfold F_hint; (repeat' split) <;> first | rfl | omega) (by rw [show G_hint z r c = z from if_neg (by omega)]; exact jLe.rf _) kr
      · refine j_iload G 0 dX3_tellColumn_48 rfl ?_
        refine j_if_ne (tgt := 56) G dX3_tellColumn_50 (by decide) (by omega) (fun c50 => ?_) (fun c50 => ?_)
        · refine j_aload_n G 1 dX3_tellColumn_56 rfl ?_
          refine j_get (q := 7) (C := RX3) (T := TX3) (N := 13) (v := .ref (q 6)) G 0 hinX3 dX3_tellColumn_57 rfl rfl (by decide) (by decide +kernel) rfl ?_
          refine j_iload_n G 3 dX3_tellColumn_60 rfl ?_
          refine j_iload_n G 4 dX3_tellColumn_61 rfl ?_
          refine j_iast (ws' := wV Y h q (fun j => z (28 + j)) (fun j => z (156 + j)) (z 92) (fun j => z (15 + 4 * j)) (fun j => z (16 + 4 * j)) (fun j => z (17 + 4 * j)) (fun j => z (18 + 4 * j)) (upZ (fun j => z (7 + j)) r c) (fun j => z j) (z 3) (z 4) (z 5) (z 6) ++ (pT Y h2 q2 (tZ z))) G 7 dX3_tellColumn_62 rfl (by omega) rfl ?_
          refine j_iload G 0 dX3_tellColumn_63 rfl ?_
          exact j_reti G dX3_tellColumn_65 (by unfold F_hint; (repeat' split) <;> first | rfl | omega) (by rw [show G_hint z r c = upZ z (7 + r) c from if_pos (by omega)]; refine (wLe.app (wV_le (fun j h0 h1 => ?_) (fun j h0 h1 => ?_) ?_ (fun j h0 h1 => ?_) (fun j h0 h1 => ?_) (fun j h0 h1 => ?_) (fun j h0 h1 => ?_) (fun j h0 h1 => ?_) (fun j h0 h1 => ?_) ?_ ?_ ?_ ?_) (wLe.rf _)).le <;> (first | rfl | (simp only [upZ]; (repeat' split) <;> first | rfl | omega | grind))) kr
        · refine j_bipush G dX3_tellColumn_53 (v := (-4)) rfl ?_
          exact j_reti G dX3_tellColumn_55 (by unfold F_hint; (repeat' split) <;> first | rfl | omega) (by rw [show G_hint z r c = z from if_neg (by omega)]; exact jLe.rf _) kr
    · refine j_bipush G dX3_tellColumn_22 (v := (-2)) rfl ?_
      exact j_reti G dX3_tellColumn_24 (by unfold F_hint; (repeat' split) <;> first | rfl | omega) (by rw [show G_hint z r c = z from if_neg (by omega)]; exact jLe.rf _) kr
  · refine j_iconst G dX3_tellColumn_10 (v := (-1)) rfl ?_
    exact j_reti G dX3_tellColumn_11 (by unfold F_hint; (repeat' split) <;> first | rfl | omega) (by rw [show G_hint z r c = z from if_neg (by omega)]; exact jLe.rf _) kr

set_option maxHeartbeats 4000000 in
set_option maxRecDepth 100000 in
theorem c_X3_untellColumn (l : Launch) (D : va_G) (Y : Nat → ClassId) (h : Nat) (q : Nat → Nat) (z : Int → Int) (h2 : Nat) (q2 : Nat → Nat) (ab : Int → Int) (be : Int → Int) (al : Int) (r : Int) (hI : Inv z) (hr : -2147483648 ≤ r ∧ r < 2147483648) : jM l yX3_untellColumn wsX3_untellColumn { frames := 2, cells := 0, slots := 0, locals := 44 } D Y [.ref h, .ref h2, .int (jI r)] (wZ Y h q z ++ (pV Y h2 q2 ab be al)) (fun v_ w_ => ∃ (ab2 : Int → Int) (be2 : Int → Int) (al2 : Int), v_ = some (.int (jI (F_back z r))) ∧ w_ = (wZ Y h q (G_back z r) ++ (pV Y h2 q2 ab2 be2 al2))) 0 0 := by
  refine jM_of (cc := cX3_untellColumn) (maxL := 3) (ret := (some .int)) (by decide) rfl (Nat.le_of_ble_eq_true rfl) (fun v w' h => by obtain ⟨_, _, _, h⟩ := h; exact Or.inr (Or.inl ⟨_, _, rfl, h.1, rfl⟩)) ?_
  intro x G kr0
  have G : jG x l D Y cX3_untellColumn RX3 wsX3_untellColumn 3 ({ frames := 2, cells := 0, slots := 0, locals := 44 } : Room) (some .int) "untellColumn" := G
  have hinX2 : ∀ w ∈ wsX20, w ∈ wsX3_untellColumn := fun _ h => List.mem_cons_of_mem _ (List.mem_append_right _ h)
  have hinX3 : ∀ w ∈ wsX30, w ∈ wsX3_untellColumn := fun _ h => List.mem_cons_of_mem _ (List.mem_append_left _ (List.mem_append_right _ h))
  show J x 0 0 (wZ Y h q z ++ (pV Y h2 q2 ab be al)) 0 [(0, .ref h), (1, .ref h2), (2, .int (jI r))] []
  refine j_iload_n G 2 dX3_untellColumn_0 rfl ?_
  refine j_iconst G dX3_untellColumn_1 (v := 0) rfl ?_
  refine j_bipush G dX3_untellColumn_2 (v := 7) rfl ?_
  refine j_callSN (host := "StormFelling") (nA := 3) (As := [.int (jI r), .int (jI 0), .int (jI 7)]) (st := []) (wc := []) (wr := (wZ Y h q z ++ (pV Y h2 q2 ab be al))) G (c_X4_isIn l D Y r 0 7 (by first | assumption | omega) (by first | assumption | omega) (by first | assumption | omega)) dX3_untellColumn_4 rfl gX3_untellColumn_X4_isIn_n62 rfl rfl rfl (by decide +kernel) (by decide +kernel) (by decide +kernel) (by decide +kernel) ⟨by decide, by decide⟩ rfl (jLe.rf _) (Nat.le_of_ble_eq_true rfl) ⟨Nat.zero_le _, Nat.zero_le _⟩ (fun v_ w_ hp_ => ?_)
  obtain ⟨rfl, rfl⟩ := hp_
  show J x 0 0 (wZ Y h q z ++ (pV Y h2 q2 ab be al)) 7 [(0, .ref h), (1, .ref h2), (2, .int (jI r))] [.int (jI (if 0 ≤ r ∧ r ≤ 7 then 1 else 0))]
  refine j_ifz_ne (tgt := 12) G dX3_untellColumn_7 (by decide) (fun c7 => ?_) (fun c7 => ?_)
  · have f12 := hI.tR r (by omega) (by omega)
    refine j_aload_n G 0 dX3_untellColumn_12 rfl ?_
    refine j_get (q := 7) (C := RX3) (T := TX3) (N := 13) (v := .ref (q 6)) G 0 hinX3 dX3_untellColumn_13 rfl rfl (by decide) (by decide +kernel) rfl ?_
    refine j_iload_n G 2 dX3_untellColumn_16 rfl ?_
    refine j_iald (v := z (7 + r)) G 7 dX3_untellColumn_17 rfl (by omega) rfl ?_
    refine j_bipush G dX3_untellColumn_18 (v := (-5)) rfl ?_
    refine j_icmp_ne (tgt := 26) G dX3_untellColumn_20 (by decide) (by omega) (by omega) (fun c20 => ?_) (fun c20 => ?_)
    · refine j_aload_n G 0 dX3_untellColumn_26 rfl ?_
      refine j_get (q := 7) (C := RX3) (T := TX3) (N := 13) (v := .ref (q 6)) G 0 hinX3 dX3_untellColumn_27 rfl rfl (by decide) (by decide +kernel) rfl ?_
      refine j_iload_n G 2 dX3_untellColumn_30 rfl ?_
      refine j_bipush G dX3_untellColumn_31 (v := (-5)) rfl ?_
      refine j_iast (ws' := wV Y h q (fun j => z (28 + j)) (fun j => z (156 + j)) (z 92) (fun j => z (15 + 4 * j)) (fun j => z (16 + 4 * j)) (fun j => z (17 + 4 * j)) (fun j => z (18 + 4 * j)) (upZ (fun j => z (7 + j)) r (-5)) (fun j => z j) (z 3) (z 4) (z 5) (z 6) ++ (pV Y h2 q2 ab be al)) G 7 dX3_untellColumn_33 rfl (by omega) rfl ?_
      refine j_aload_n G 1 dX3_untellColumn_34 rfl ?_
      refine j_aload_n G 0 dX3_untellColumn_35 rfl ?_
      refine j_get (q := 7) (C := RX3) (T := TX3) (N := 13) (v := .ref (q 6)) G 0 hinX3 dX3_untellColumn_36 rfl rfl (by decide) (by decide +kernel) rfl ?_
      refine j_callV (nA := 1) (As := [.ref (q 6)]) (st := []) (wc := (pV Y h2 q2 ab be al ++ ([aN Y (q 6) 8 (upZ (fun j => z (7 + j)) r (-5))]))) (wr := [ob h 3 [.ref (q 0), .ref (q 1), .int (jI (z 92)), .ref (q 2), .ref (q 3), .ref (q 4), .ref (q 5), .ref (q 6), .ref (q 7), .int (jI (z 3)), .int (jI (z 4)), .int (jI (z 5)), .int (jI (z 6))], aN Y (q 0) 64 (fun j => z (28 + j)), aZ Y (q 1) 64 (fun j => z (156 + j)), aN Y (q 2) 3 (fun j => z (15 + 4 * j)), aN Y (q 3) 3 (fun j => z (16 + 4 * j)), aN Y (q 4) 3 (fun j => z (17 + 4 * j)), aN Y (q 5) 3 (fun j => z (18 + 4 * j)), aN Y (q 7) 3 (fun j => z j)]) G (c_X2_follow l D Y h2 q2 ab be al (q 6) (upZ (fun j => z (7 + j)) r (-5)) (by intro r2 a b; have := hI.tR r2 a b; simp only [upZ]; split <;> omega)) dX3_untellColumn_39 rfl gX3_untellColumn_X2_follow rfl rfl rfl (by decide +kernel) ⟨by decide, by decide⟩ rfl 0 rfl rfl rfl (jLe.pos [9, 10, 11, 7, 0, 1, 2, 3, 4, 5, 6, 8] rfl rfl) (Nat.le_of_ble_eq_true rfl) ⟨Nat.zero_le _, Nat.zero_le _⟩ (fun v_ w_ hp_ => ?_)
      obtain ⟨rfl, rfl⟩ := hp_
      refine j_conv (ws' := wV Y h q (fun j => z (28 + j)) (fun j => z (156 + j)) (z 92) (fun j => z (15 + 4 * j)) (fun j => z (16 + 4 * j)) (fun j => z (17 + 4 * j)) (fun j => z (18 + 4 * j)) (upZ (fun j => z (7 + j)) r (-5)) (fun j => z j) (z 3) (z 4) (z 5) (z 6) ++ (pT Y h2 q2 (upZ (fun j => z (7 + j)) r (-5)))) (jLe.pos [4, 5, 6, 7, 8, 9, 10, 3, 11, 0, 1, 2] rfl rfl) ?_
      show J x 0 0 (wV Y h q (fun j => z (28 + j)) (fun j => z (156 + j)) (z 92) (fun j => z (15 + 4 * j)) (fun j => z (16 + 4 * j)) (fun j => z (17 + 4 * j)) (fun j => z (18 + 4 * j)) (upZ (fun j => z (7 + j)) r (-5)) (fun j => z j) (z 3) (z 4) (z 5) (z 6) ++ (pT Y h2 q2 (upZ (fun j => z (7 + j)) r (-5)))) 42 [(0, .ref h), (1, .ref h2), (2, .int (jI r))] []
      refine j_aload_n G 1 dX3_untellColumn_42 rfl ?_
      refine j_getN (q := 2) (C := RX2) (T := TX2) (N := 3) (v := .int (jI (pAll (upZ (fun j => z (7 + j)) r (-5))))) (host := "StormFelling") G 9 hinX2 dX3_untellColumn_43 rfl rfl (by decide) (by decide +kernel) rfl ?_
      exact j_reti G dX3_untellColumn_46 (by rw [tZ_up]; unfold F_back; rw [if_pos (by omega), if_neg (by omega)]) (by rw [show G_back z r = upZ z (7 + r) (-5) from if_pos (by omega)]; refine (wLe.app (wV_le (fun j h0 h1 => ?_) (fun j h0 h1 => ?_) ?_ (fun j h0 h1 => ?_) (fun j h0 h1 => ?_) (fun j h0 h1 => ?_) (fun j h0 h1 => ?_) (fun j h0 h1 => ?_) (fun j h0 h1 => ?_) ?_ ?_ ?_ ?_) (wLe.rf _)).le <;> (first | rfl | (simp only [upZ]; (repeat' split) <;> first | rfl | omega | grind))) (kr0 _ _ ⟨(pAb (upZ (fun j => z (7 + j)) r (-5))), (pBe (upZ (fun j => z (7 + j)) r (-5))), (pAll (upZ (fun j => z (7 + j)) r (-5))), rfl, rfl⟩)
    · refine j_bipush G dX3_untellColumn_23 (v := (-5)) rfl ?_
      exact j_reti G dX3_untellColumn_25 (by unfold F_back; (repeat' split) <;> first | rfl | omega) (by rw [show G_back z r = z from if_neg (by omega)]; exact jLe.rf _) (kr0 _ _ ⟨ab, be, al, rfl, rfl⟩)
  · refine j_iconst G dX3_untellColumn_10 (v := (-1)) rfl ?_
    exact j_reti G dX3_untellColumn_11 (by unfold F_back; (repeat' split) <;> first | rfl | omega) (by rw [show G_back z r = z from if_neg (by omega)]; exact jLe.rf _) (kr0 _ _ ⟨ab, be, al, rfl, rfl⟩)

set_option maxHeartbeats 4000000 in
set_option maxRecDepth 100000 in
theorem c_X3_felledInVain (l : Launch) (D : va_G) (Y : Nat → ClassId) (h : Nat) (q : Nat → Nat) (z : Int → Int) (h2 : Nat) (q2 : Nat → Nat) (t : Int → Int) (hI : Inv z) : jM l yX3_felledInVain wsX3_felledInVain { frames := 4, cells := 0, slots := 0, locals := 92 } D Y [.ref h, .ref h2] (wZ Y h q z ++ (pT Y h2 q2 t)) (fun v_ w_ => v_ = some (.int (jI (zVa z t))) ∧ w_ = (wZ Y h q z ++ (pT Y h2 q2 t))) 0 0 := by
  refine jM_of (cc := cX3_felledInVain) (maxL := 4) (ret := (some .int)) (by decide) rfl (Nat.le_of_ble_eq_true rfl) (fun v w' h => Or.inr (Or.inl ⟨_, _, rfl, h.1, rfl⟩)) ?_
  intro x G kr0
  have kr := kr0 _ _ ⟨rfl, rfl⟩
  have G : jG x l D Y cX3_felledInVain RX3 wsX3_felledInVain 4 ({ frames := 4, cells := 0, slots := 0, locals := 92 } : Room) (some .int) "felledInVain" := G
  have hinX3 : ∀ w ∈ wsX30, w ∈ wsX3_felledInVain := fun _ h => List.mem_cons_of_mem _ (List.mem_append_left _ (List.mem_append_right _ h))
  show J x 0 0 (wZ Y h q z ++ (pT Y h2 q2 t)) 0 [(0, .ref h), (1, .ref h2)] []
  refine j_iconst G dX3_felledInVain_0 (v := 0) rfl ?_
  refine j_istore_n (lv' := [(2, .int (jI 0)), (0, .ref h), (1, .ref h2)]) G dX3_felledInVain_1 (by decide) rfl ?_
  refine j_iconst G dX3_felledInVain_2 (v := 0) rfl ?_
  refine j_istore_n (lv' := [(3, .int (jI 0)), (2, .int (jI 0)), (0, .ref h), (1, .ref h2)]) G dX3_felledInVain_3 (by decide) rfl ?_
  have lp4 : ∀ (n_ : Nat) (i : Int) (s : Int), (0 ≤ i ∧ i ≤ 64) → (s = sumI i.toNat (fun p => if ¬ z (156 + p) = 0 ∧ ¬ 0 < zHi z t p then 1 else 0)) → (64 - i) < (n_ : Int) → J x 0 0 (wZ Y h q z ++ (pT Y h2 q2 t)) 4 [(0, .ref h), (1, .ref h2), (2, .int (jI s)), (3, .int (jI i))] [] := by
    intro n_
    induction n_ with
    | zero =>
      intro i s hi hs hm_
      exact absurd hm_ (by omega)
    | succ n_ ih4 =>
      intro i s hi hs hm_
      refine j_iload_n G 3 dX3_felledInVain_4 rfl ?_
      refine j_bipush G dX3_felledInVain_5 (v := 64) rfl ?_
      refine j_icmp_ge (tgt := 37) G dX3_felledInVain_7 (by decide) (by omega) (by omega) (fun c7 => ?_) (fun c7 => ?_)
      · refine j_iload_n G 2 dX3_felledInVain_37 rfl ?_
        exact j_reti G dX3_felledInVain_38 (by rw [hs, show i = 64 by omega]; rfl) (jLe.rf _) kr
      · refine j_aload_n G 0 dX3_felledInVain_10 rfl ?_
        refine j_get (q := 1) (C := RX3) (T := TX3) (N := 13) (v := .ref (q 1)) G 0 hinX3 dX3_felledInVain_11 rfl rfl (by decide) (by decide +kernel) rfl ?_
        refine j_iload_n G 3 dX3_felledInVain_14 rfl ?_
        refine j_zald (v := z (156 + i)) G 2 dX3_felledInVain_15 rfl (by omega) rfl ?_
        have f16 := hI.fe i (by omega) (by omega)
        refine j_if_eq (tgt := 31) G dX3_felledInVain_16 (by decide) (by omega) (fun c16 => ?_) (fun c16 => ?_)
        · refine j_iinc (w := i + 1) (lv' := [(3, .int (jI (i + 1))), (0, .ref h), (1, .ref h2), (2, .int (jI s))]) G 3 dX3_felledInVain_31 rfl rfl (by decide) rfl ?_
          refine j_goto (tgt := 4) G dX3_felledInVain_34 (by decide) ?_
          refine j_lv [1, 2, 3, 0] (lv' := [(0, .ref h), (1, .ref h2), (2, .int (jI s)), (3, .int (jI (i + 1)))]) rfl ?_
          exact ih4 (i + 1) s (by omega) (by rw [sumI_S hi.1, hs]; first | rw [if_pos (by omega)] | (rw [if_neg (by omega)]; omega)) (by omega)
        · refine j_aload_n G 0 dX3_felledInVain_19 rfl ?_
          refine j_aload_n G 1 dX3_felledInVain_20 rfl ?_
          refine j_iload_n G 3 dX3_felledInVain_21 rfl ?_
          refine j_callV (nA := 2) (As := [.ref h2, .int (jI i)]) (st := []) (wc := (wZ Y h q z ++ (pT Y h2 q2 t))) (wr := []) G (c_X3_isEndangeredZ l D Y h q z h2 q2 t i (by first | assumption | exact hI.s1) (by first | assumption | omega)) dX3_felledInVain_22 rfl gX3_felledInVain_X3_isEndangered rfl rfl rfl (by decide +kernel) ⟨by decide, by decide⟩ rfl 0 rfl rfl rfl (jLe.nil (jLe.rf _)) (Nat.le_of_ble_eq_true rfl) ⟨Nat.zero_le _, Nat.zero_le _⟩ (fun v_ w_ hp_ => ?_)
          obtain ⟨rfl, rfl⟩ := hp_
          show J x 0 0 (wZ Y h q z ++ (pT Y h2 q2 t)) 25 [(0, .ref h), (1, .ref h2), (2, .int (jI s)), (3, .int (jI i))] [.int (jI (if 0 < zHi z t i then 1 else 0))]
          refine j_ifz_ne (tgt := 31) G dX3_felledInVain_25 (by decide) (fun c25 => ?_) (fun c25 => ?_)
          · refine j_iinc (w := i + 1) (lv' := [(3, .int (jI (i + 1))), (0, .ref h), (1, .ref h2), (2, .int (jI s))]) G 3 dX3_felledInVain_31 rfl rfl (by decide) rfl ?_
            refine j_goto (tgt := 4) G dX3_felledInVain_34 (by decide) ?_
            refine j_lv [1, 2, 3, 0] (lv' := [(0, .ref h), (1, .ref h2), (2, .int (jI s)), (3, .int (jI (i + 1)))]) rfl ?_
            exact ih4 (i + 1) s (by omega) (by rw [sumI_S hi.1, hs]; first | rw [if_pos (by omega)] | (rw [if_neg (by omega)]; omega)) (by omega)
          · refine j_iinc (w := s + 1) (lv' := [(2, .int (jI (s + 1))), (0, .ref h), (1, .ref h2), (3, .int (jI i))]) G 2 dX3_felledInVain_28 rfl rfl (by decide) rfl ?_
            refine j_iinc (w := i + 1) (lv' := [(3, .int (jI (i + 1))), (2, .int (jI (s + 1))), (0, .ref h), (1, .ref h2)]) G 3 dX3_felledInVain_31 rfl rfl (by decide) rfl ?_
            refine j_goto (tgt := 4) G dX3_felledInVain_34 (by decide) ?_
            refine j_lv [2, 3, 1, 0] (lv' := [(0, .ref h), (1, .ref h2), (2, .int (jI (s + 1))), (3, .int (jI (i + 1)))]) rfl ?_
            exact ih4 (i + 1) (s + 1) (by omega) (by rw [sumI_S hi.1, hs]; first | rw [if_pos (by omega)] | (rw [if_neg (by omega)]; omega)) (by omega)
  refine j_lv [2, 3, 1, 0] (lv' := [(0, .ref h), (1, .ref h2), (2, .int (jI 0)), (3, .int (jI 0))]) rfl ?_
  exact lp4 (Int.toNat ((64 - 0) + 1)) 0 0 (by omega) (by rfl) (by omega)

theorem lw_y {f wo : Int → Int} {P : Int → Prop} {hd : DecidablePred P} {i : Int} (hf : ∀ j : Int, 0 ≤ j → j < 64 → f j = if j < i ∧ P j then 0 else wo j) (c : P i) : ∀ j : Int, 0 ≤ j → j < 64 → upZ f i 0 j = if j < i + 1 ∧ P j then 0 else wo j := by
  intro j h0 h1
  by_cases e : j = i
  · subst e
    rw [upZ_eq _ _ _ rfl, if_pos ⟨by omega, c⟩]
  · rw [upZ_ne _ _ _ e, hf j h0 h1]
    by_cases a : j < i ∧ P j
    · rw [if_pos a, if_pos ⟨by omega, a.2⟩]
    · rw [if_neg a, if_neg (fun z => a ⟨by omega, z.2⟩)]
theorem lw_n {f wo : Int → Int} {P : Int → Prop} {hd : DecidablePred P} {i : Int} (hf : ∀ j : Int, 0 ≤ j → j < 64 → f j = if j < i ∧ P j then 0 else wo j) (c : ¬ P i) : ∀ j : Int, 0 ≤ j → j < 64 → f j = if j < i + 1 ∧ P j then 0 else wo j := by
  intro j h0 h1
  rw [hf j h0 h1]
  by_cases a : j < i ∧ P j
  · rw [if_pos a, if_pos ⟨by omega, a.2⟩]
  · rw [if_neg a, if_neg (fun z => a ⟨by
      by_cases e : j = i
      · subst e; exact absurd z.2 c
      · omega, z.2⟩)]

set_option maxHeartbeats 4000000 in
set_option maxRecDepth 100000 in
theorem c_X3_loseWorths (l : Launch) (D : va_G) (Y : Nat → ClassId) (h : Nat) (q : Nat → Nat) (wo : Int → Int) (fe : Int → Int) (mu : Int) (pl : Int → Int) (st : Int → Int) (sa : Int → Int) (fl : Int → Int) (to : Int → Int) (se : Int → Int) (da : Int) (lo : Int) (re : Int) (sm : Int) (h2 : Nat) (q2 : Nat → Nat) (t : Int → Int) (hs : 0 ≤ se 1 ∧ se 1 ≤ 2) : jM l yX3_loseWorths wsX3_loseWorths { frames := 4, cells := 0, slots := 0, locals := 92 } D Y [.ref h, .ref h2] (wV Y h q wo fe mu pl st sa fl to se da lo re sm ++ (pT Y h2 q2 t)) (fun v_ w_ => v_ = some (.int (jI (sumI 64 (fun p => if 0 < pHi (pTh t) p (se 1) then wo p else 0)))) ∧ w_ = (wV Y h q (fun j => if 0 < pHi (pTh t) j (se 1) then 0 else wo j) fe mu pl st sa fl to se da lo re sm ++ (pT Y h2 q2 t))) 0 0 := by
  refine jM_of (cc := cX3_loseWorths) (maxL := 4) (ret := (some .int)) (by decide) rfl (Nat.le_of_ble_eq_true rfl) (fun v w' h => Or.inr (Or.inl ⟨_, _, rfl, h.1, rfl⟩)) ?_
  intro x G kr0
  have kr := kr0 _ _ ⟨rfl, rfl⟩
  have G : jG x l D Y cX3_loseWorths RX3 wsX3_loseWorths 4 ({ frames := 4, cells := 0, slots := 0, locals := 92 } : Room) (some .int) "loseWorths" := G
  have hinX3 : ∀ w ∈ wsX30, w ∈ wsX3_loseWorths := fun _ h => List.mem_cons_of_mem _ (List.mem_append_left _ (List.mem_append_right _ h))
  show J x 0 0 (wV Y h q wo fe mu pl st sa fl to se da lo re sm ++ (pT Y h2 q2 t)) 0 [(0, .ref h), (1, .ref h2)] []
  refine j_iconst G dX3_loseWorths_0 (v := 0) rfl ?_
  refine j_istore_n (lv' := [(2, .int (jI 0)), (0, .ref h), (1, .ref h2)]) G dX3_loseWorths_1 (by decide) rfl ?_
  refine j_iconst G dX3_loseWorths_2 (v := 0) rfl ?_
  refine j_istore_n (lv' := [(3, .int (jI 0)), (2, .int (jI 0)), (0, .ref h), (1, .ref h2)]) G dX3_loseWorths_3 (by decide) rfl ?_
  have lp4 : ∀ (n_ : Nat) (i : Int) (s : Int) (f : Int → Int), (0 ≤ i ∧ i ≤ 64) → (s = sumI i.toNat (fun p => if 0 < pHi (pTh t) p (se 1) then wo p else 0)) → (∀ j : Int, 0 ≤ j → j < 64 → f j = if j < i ∧ 0 < pHi (pTh t) j (se 1) then 0 else wo j) → (64 - i) < (n_ : Int) → J x 0 0 (wV Y h q f fe mu pl st sa fl to se da lo re sm ++ (pT Y h2 q2 t)) 4 [(0, .ref h), (1, .ref h2), (2, .int (jI s)), (3, .int (jI i))] [] := by
    intro n_
    induction n_ with
    | zero =>
      intro i s f hi hss hf hm_
      exact absurd hm_ (by omega)
    | succ n_ ih4 =>
      intro i s f hi hss hf hm_
      refine j_iload_n G 3 dX3_loseWorths_4 rfl ?_
      refine j_bipush G dX3_loseWorths_5 (v := 64) rfl ?_
      refine j_icmp_ge (tgt := 41) G dX3_loseWorths_7 (by decide) (by omega) (by omega) (fun c7 => ?_) (fun c7 => ?_)
      · refine j_iload_n G 2 dX3_loseWorths_41 rfl ?_
        exact j_reti G dX3_loseWorths_42 (by rw [hss, show i = 64 by omega]; rfl) (by refine (wLe.app (wV_le (fun j h0 h1 => ?_) (fun j h0 h1 => ?_) ?_ (fun j h0 h1 => ?_) (fun j h0 h1 => ?_) (fun j h0 h1 => ?_) (fun j h0 h1 => ?_) (fun j h0 h1 => ?_) (fun j h0 h1 => ?_) ?_ ?_ ?_ ?_) (wLe.rf _)).le <;> (first | rfl | (rw [hf _ h0 h1]; (repeat' split) <;> first | rfl | omega))) kr
      · refine j_aload_n G 0 dX3_loseWorths_10 rfl ?_
        refine j_aload_n G 1 dX3_loseWorths_11 rfl ?_
        refine j_iload_n G 3 dX3_loseWorths_12 rfl ?_
        refine j_callV (nA := 2) (As := [.ref h2, .int (jI i)]) (st := []) (wc := (wV Y h q f fe mu pl st sa fl to se da lo re sm ++ (pT Y h2 q2 t))) (wr := []) G (c_X3_isEndangered l D Y h q f fe mu pl st sa fl to se da lo re sm h2 q2 t i (by first | assumption | omega) (by first | assumption | omega)) dX3_loseWorths_13 rfl gX3_loseWorths_X3_isEndangered rfl rfl rfl (by decide +kernel) ⟨by decide, by decide⟩ rfl 0 rfl rfl rfl (jLe.nil (jLe.rf _)) (Nat.le_of_ble_eq_true rfl) ⟨Nat.zero_le _, Nat.zero_le _⟩ (fun v_ w_ hp_ => ?_)
        obtain ⟨rfl, rfl⟩ := hp_
        show J x 0 0 (wV Y h q f fe mu pl st sa fl to se da lo re sm ++ (pT Y h2 q2 t)) 16 [(0, .ref h), (1, .ref h2), (2, .int (jI s)), (3, .int (jI i))] [.int (jI (if 0 < pHi (pTh t) i (se 1) then 1 else 0))]
        refine j_ifz_eq (tgt := 35) G dX3_loseWorths_16 (by decide) (fun c16 => ?_) (fun c16 => ?_)
        · refine j_iinc (w := i + 1) (lv' := [(3, .int (jI (i + 1))), (0, .ref h), (1, .ref h2), (2, .int (jI s))]) G 3 dX3_loseWorths_35 rfl rfl (by decide) rfl ?_
          refine j_goto (tgt := 4) G dX3_loseWorths_38 (by decide) ?_
          refine j_lv [1, 2, 3, 0] (lv' := [(0, .ref h), (1, .ref h2), (2, .int (jI s)), (3, .int (jI (i + 1)))]) rfl ?_
          exact ih4 (i + 1) s f (by omega) (by rw [sumI_S hi.1, hss]; first | (rw [if_pos c16, hf i (by omega) (by omega), if_neg (by omega)]) | (rw [if_neg c16]; omega)) (by intro j h0 h1; first | exact lw_y hf c16 j h0 h1 | exact lw_n hf c16 j h0 h1) (by omega)
        · refine j_iload_n G 2 dX3_loseWorths_19 rfl ?_
          refine j_aload_n G 0 dX3_loseWorths_20 rfl ?_
          refine j_get (q := 0) (C := RX3) (T := TX3) (N := 13) (v := .ref (q 0)) G 0 hinX3 dX3_loseWorths_21 rfl rfl (by decide) (by decide +kernel) rfl ?_
          refine j_iload_n G 3 dX3_loseWorths_24 rfl ?_
          refine j_iald (v := f i) G 1 dX3_loseWorths_25 rfl (by omega) rfl ?_
          refine j_iadd G dX3_loseWorths_26 ?_
          refine j_istore_n (lv' := [(2, .int (jI (s + (f i)))), (0, .ref h), (1, .ref h2), (3, .int (jI i))]) G dX3_loseWorths_27 (by decide) rfl ?_
          refine j_aload_n G 1 dX3_loseWorths_28 rfl ?_
          refine j_get (q := 0) (C := RX3) (T := TX3) (N := 13) (v := .ref (q 0)) G 0 hinX3 dX3_loseWorths_29 rfl rfl (by decide) (by decide +kernel) rfl ?_
          refine j_iload_n G 3 dX3_loseWorths_32 rfl ?_
          refine j_iconst G dX3_loseWorths_33 (v := 0) rfl ?_
          refine j_iast (ws' := wV Y h q (upZ f i 0) fe mu pl st sa fl to se da lo re sm ++ (pT Y h2 q2 t)) G 1 dX3_loseWorths_34 rfl (by omega) rfl ?_
          refine j_iinc (w := i + 1) (lv' := [(3, .int (jI (i + 1))), (2, .int (jI (s + (f i)))), (0, .ref h), (1, .ref h2)]) G 3 dX3_loseWorths_35 rfl rfl (by decide) rfl ?_
          refine j_goto (tgt := 4) G dX3_loseWorths_38 (by decide) ?_
          refine j_lv [2, 3, 1, 0] (lv' := [(0, .ref h), (1, .ref h2), (2, .int (jI (s + (f i)))), (3, .int (jI (i + 1)))]) rfl ?_
          exact ih4 (i + 1) (s + (f i)) (upZ f i 0) (by omega) (by rw [sumI_S hi.1, hss]; first | (rw [if_pos c16, hf i (by omega) (by omega), if_neg (by omega)]) | (rw [if_neg c16]; omega)) (by intro j h0 h1; first | exact lw_y hf c16 j h0 h1 | exact lw_n hf c16 j h0 h1) (by omega)
  refine j_lv [2, 3, 1, 0] (lv' := [(0, .ref h), (1, .ref h2), (2, .int (jI 0)), (3, .int (jI 0))]) rfl ?_
  exact lp4 (Int.toNat ((64 - 0) + 1)) 0 0 wo (by omega) (by rfl) (by intro j h0 h1; exact (if_neg (by omega)).symm) (by omega)

theorem zLW_b {z : Int → Int} (t : Int → Int) (h : Inv z) (p : Int) (h0 : 0 ≤ p) (h1 : p < 64) : 0 ≤ zLW z t p ∧ zLW z t p ≤ 99 := by
  have := h.wo p h0 h1
  unfold zLW
  split <;> omega
theorem zVa_b (z t : Int → Int) : 0 ≤ zVa z t ∧ zVa z t ≤ 64 := by
  have k : ∀ p : Int, 0 ≤ (if ¬ z (156 + p) = 0 ∧ ¬ 0 < zHi z t p then (1 : Int) else 0) ∧ (if ¬ z (156 + p) = 0 ∧ ¬ 0 < zHi z t p then (1 : Int) else 0) ≤ 1 := fun p => by split <;> omega
  refine ⟨sumI_nn 64 (fun j _ _ => (k j).1), ?_⟩
  have h := sumI_b (b := 1) 64 (fun j _ _ => (k j).2)
  unfold zVa
  omega

theorem rg_y {z t : Int → Int} {w i : Int} (hw : 1 ≤ w) (h1 : z (28 + i) = w) (h2 : 0 < zHi z t i) : zLW z t i = w := by
  unfold zLW
  rw [if_pos h2, h1]
theorem rg_n1 {z t : Int → Int} {w i : Int} (hw : 1 ≤ w) (h1 : ¬ z (28 + i) = w) : ¬ zLW z t i = w := by
  unfold zLW
  split <;> omega
theorem rg_n2 {z t : Int → Int} {w i : Int} (hw : 1 ≤ w) (h2 : ¬ 0 < zHi z t i) : ¬ zLW z t i = w := by
  unfold zLW
  rw [if_neg h2]
  omega
theorem rg_b {n m a : Int} (hn : 0 ≤ n) (hn2 : n ≤ 64) (hm : m = n - mnI n a) (ha : 0 ≤ a := by exact Int.add_nonneg (nGe_nn _ _ _) (nEq_nn _ _ _)) : -2147483648 ≤ m ∧ m < 2147483648 := by
  subst hm
  unfold mnI
  split <;> omega
theorem rg_m {L : Int → Int} {n w i m m' : Int} (hi : 0 ≤ i) (hm : m = n - mnI n (nGe L (w + 1) 64 + nEq L w i.toNat)) (h : (L i = w ∧ 0 < m ∧ m' = m + (-1)) ∨ ((m ≤ 0 ∨ ¬ L i = w) ∧ m' = m)) : m' = n - mnI n (nGe L (w + 1) 64 + nEq L w (i + 1).toNat) := by
  rw [nEq_S hi]
  unfold mnI at hm ⊢
  rcases h with ⟨h1, h2, h3⟩ | ⟨h1 | h1, h3⟩
  · rw [if_pos h1]
    split at hm <;> split <;> omega
  · split at hm <;> (repeat' split) <;> omega
  · rw [if_neg h1, Int.add_zero, h3]
    exact hm
theorem rg_s {L : Int → Int} {n w i s m s' : Int} (hi : 0 ≤ i) (hs : s = sTop L n w + w * (mnI n (nGe L (w + 1) 64 + nEq L w i.toNat) - mnI n (nGe L (w + 1) 64))) (hm : m = n - mnI n (nGe L (w + 1) 64 + nEq L w i.toNat)) (h : (L i = w ∧ 0 < m ∧ s' = s + w) ∨ ((m ≤ 0 ∨ ¬ L i = w) ∧ s' = s)) : s' = sTop L n w + w * (mnI n (nGe L (w + 1) 64 + nEq L w (i + 1).toNat) - mnI n (nGe L (w + 1) 64)) := by
  rw [nEq_S hi]
  rcases h with ⟨h1, h2, h3⟩ | ⟨h1, h3⟩
  · have e : mnI n (nGe L (w + 1) 64 + (nEq L w i.toNat + (if L i = w then 1 else 0))) - mnI n (nGe L (w + 1) 64) = mnI n (nGe L (w + 1) 64 + nEq L w i.toNat) - mnI n (nGe L (w + 1) 64) + 1 := by
      rw [if_pos h1]
      unfold mnI at hm ⊢
      split at hm <;> (repeat' split) <;> omega
    rw [e, Int.mul_add, Int.mul_one, h3, hs, Int.add_assoc]
  · have e : mnI n (nGe L (w + 1) 64 + (nEq L w i.toNat + (if L i = w then 1 else 0))) = mnI n (nGe L (w + 1) 64 + nEq L w i.toNat) := by
      rcases h1 with h1 | h1
      · unfold mnI at hm ⊢
        split at hm <;> (repeat' split) <;> omega
      · rw [if_neg h1, Int.add_zero]
    rw [e, h3, hs]

set_option maxHeartbeats 4000000 in
set_option maxRecDepth 100000 in
theorem c_X3_regret (l : Launch) (D : va_G) (Y : Nat → ClassId) (h : Nat) (q : Nat → Nat) (z : Int → Int) (h2 : Nat) (q2 : Nat → Nat) (t : Int → Int) (n : Int) (hI : Inv z) (hn : 0 ≤ n ∧ n ≤ 64) : jM l yX3_regret wsX3_regret { frames := 4, cells := 0, slots := 0, locals := 92 } D Y [.ref h, .ref h2, .int (jI n)] (wZ Y h q z ++ (pT Y h2 q2 t)) (fun v_ w_ => v_ = some (.int (jI (zTop (zLW z t) n))) ∧ w_ = (wZ Y h q z ++ (pT Y h2 q2 t))) 0 0 := by
  refine jM_of (cc := cX3_regret) (maxL := 7) (ret := (some .int)) (by decide) rfl (Nat.le_of_ble_eq_true rfl) (fun v w' h => Or.inr (Or.inl ⟨_, _, rfl, h.1, rfl⟩)) ?_
  intro x G kr0
  have kr := kr0 _ _ ⟨rfl, rfl⟩
  have G : jG x l D Y cX3_regret RX3 wsX3_regret 7 ({ frames := 4, cells := 0, slots := 0, locals := 92 } : Room) (some .int) "regret" := G
  have hinX3 : ∀ w ∈ wsX30, w ∈ wsX3_regret := fun _ h => List.mem_cons_of_mem _ (List.mem_append_left _ (List.mem_append_right _ h))
  show J x 0 0 (wZ Y h q z ++ (pT Y h2 q2 t)) 0 [(0, .ref h), (1, .ref h2), (2, .int (jI n))] []
  refine j_iconst G dX3_regret_0 (v := 0) rfl ?_
  refine j_istore_n (lv' := [(3, .int (jI 0)), (0, .ref h), (1, .ref h2), (2, .int (jI n))]) G dX3_regret_1 (by decide) rfl ?_
  refine j_iload_n G 3 dX3_regret_2 rfl ?_
  refine j_istore (lv' := [(4, .int (jI n)), (3, .int (jI 0)), (0, .ref h), (1, .ref h2), (2, .int (jI n))]) G dX3_regret_3 (by decide) rfl ?_
  refine j_bipush G dX3_regret_5 (v := 99) rfl ?_
  refine j_istore (lv' := [(5, .int (jI 99)), (4, .int (jI n)), (3, .int (jI 0)), (0, .ref h), (1, .ref h2), (2, .int (jI n))]) G dX3_regret_7 (by decide) rfl ?_
  have lp9 : ∀ (n_ : Nat) (w : Int) (s : Int) (m : Int), (0 ≤ w ∧ w ≤ 99) → (s = sTop (zLW z t) n w) → (m = n - mnI n (nGe (zLW z t) (w + 1) 64)) → (w) < (n_ : Int) → J x 0 0 (wZ Y h q z ++ (pT Y h2 q2 t)) 9 [(0, .ref h), (1, .ref h2), (3, .int (jI s)), (4, .int (jI m)), (5, .int (jI w))] [] := by
    intro n_
    induction n_ with
    | zero =>
      intro w s m hw hs hm hm_
      exact absurd hm_ (by omega)
    | succ n_ ih9 =>
      intro w s m hw hs hm hm_
      refine j_iload G 4 dX3_regret_9 rfl ?_
      have f11 : True := trivial
      refine j_if_le (tgt := 71) G dX3_regret_11 (by decide) (by omega) (fun c11 => ?_) (fun c11 => ?_)
      · refine j_iload_n G 2 dX3_regret_71 rfl ?_
        exact j_reti G dX3_regret_72 (by rw [hs, show w = 0 by omega]; exact sTop_0 _ _) (jLe.rf _) kr
      · refine j_iconst G dX3_regret_14 (v := 0) rfl ?_
        refine j_istore (lv' := [(6, .int (jI 0)), (0, .ref h), (1, .ref h2), (3, .int (jI s)), (4, .int (jI m)), (5, .int (jI w))]) G dX3_regret_15 (by decide) rfl ?_
        have lp17 : ∀ (n_ : Nat) (i : Int) (s2 : Int) (m2 : Int), (0 ≤ i ∧ i ≤ 64) → (s2 = sTop (zLW z t) n w + w * (mnI n (nGe (zLW z t) (w + 1) 64 + nEq (zLW z t) w i.toNat) - mnI n (nGe (zLW z t) (w + 1) 64))) → (m2 = n - mnI n (nGe (zLW z t) (w + 1) 64 + nEq (zLW z t) w i.toNat)) → (64 - i) < (n_ : Int) → J x 0 0 (wZ Y h q z ++ (pT Y h2 q2 t)) 17 [(0, .ref h), (1, .ref h2), (3, .int (jI s2)), (4, .int (jI m2)), (5, .int (jI w)), (6, .int (jI i))] [] := by
          intro n_
          induction n_ with
          | zero =>
            intro i s2 m2 hi hs2 hm2 hm_
            exact absurd hm_ (by omega)
          | succ n_ ih17 =>
            intro i s2 m2 hi hs2 hm2 hm_
            refine j_iload G 5 dX3_regret_17 rfl ?_
            refine j_bipush G dX3_regret_19 (v := 64) rfl ?_
            refine j_icmp_ge (tgt := 65) G dX3_regret_21 (by decide) (by omega) (by omega) (fun c21 => ?_) (fun c21 => ?_)
            · refine j_iinc (w := w + (-1)) (lv' := [(5, .int (jI (w + (-1)))), (0, .ref h), (1, .ref h2), (3, .int (jI s2)), (4, .int (jI m2)), (6, .int (jI i))]) G 4 dX3_regret_65 rfl rfl (by decide) rfl ?_
              refine j_goto (tgt := 9) G dX3_regret_68 (by decide) ?_
              refine j_lv [1, 2, 3, 4, 0] (lv' := [(0, .ref h), (1, .ref h2), (3, .int (jI s2)), (4, .int (jI m2)), (5, .int (jI (w + (-1))))]) rfl ?_
              exact ih9 (w + (-1)) s2 m2 (by omega) (by rw [show w + (-1) = w - 1 by omega, sTop_S (zLW z t) n (by omega), hs2, ← nGe_eq (zLW z t) w 64, show i = 64 by omega]; rfl) (by rw [hm2, show w + (-1) + 1 = w by omega, ← nGe_eq (zLW z t) w 64, show i = 64 by omega]; rfl) (by omega)
            · refine j_iload G 3 dX3_regret_24 rfl ?_
              have f26 : -2147483648 ≤ m2 ∧ m2 < 2147483648 := rg_b hn.1 hn.2 hm2
              refine j_if_le (tgt := 59) G dX3_regret_26 (by decide) (by omega) (fun c26 => ?_) (fun c26 => ?_)
              · refine j_iinc (w := i + 1) (lv' := [(6, .int (jI (i + 1))), (0, .ref h), (1, .ref h2), (3, .int (jI s2)), (4, .int (jI m2)), (5, .int (jI w))]) G 5 dX3_regret_59 rfl rfl (by decide) rfl ?_
                refine j_goto (tgt := 17) G dX3_regret_62 (by decide) ?_
                refine j_lv [1, 2, 3, 4, 5, 0] (lv' := [(0, .ref h), (1, .ref h2), (3, .int (jI s2)), (4, .int (jI m2)), (5, .int (jI w)), (6, .int (jI (i + 1)))]) rfl ?_
                exact ih17 (i + 1) s2 m2 (by omega) (by exact rg_s hi.1 hs2 hm2 (by first | exact Or.inl ⟨rg_y (by omega) c38 c48, by omega, rfl⟩ | exact Or.inr ⟨Or.inl (by omega), rfl⟩ | exact Or.inr ⟨Or.inr (rg_n1 (by omega) c38), rfl⟩ | exact Or.inr ⟨Or.inr (rg_n2 (by omega) c48), rfl⟩)) (by exact rg_m hi.1 hm2 (by first | exact Or.inl ⟨rg_y (by omega) c38 c48, by omega, rfl⟩ | exact Or.inr ⟨Or.inl (by omega), rfl⟩ | exact Or.inr ⟨Or.inr (rg_n1 (by omega) c38), rfl⟩ | exact Or.inr ⟨Or.inr (rg_n2 (by omega) c48), rfl⟩)) (by omega)
              · refine j_aload_n G 0 dX3_regret_29 rfl ?_
                refine j_get (q := 0) (C := RX3) (T := TX3) (N := 13) (v := .ref (q 0)) G 0 hinX3 dX3_regret_30 rfl rfl (by decide) (by decide +kernel) rfl ?_
                refine j_iload G 5 dX3_regret_33 rfl ?_
                refine j_iald (v := z (28 + i)) G 1 dX3_regret_35 rfl (by omega) rfl ?_
                have f36 := hI.wo i (by omega) (by omega)
                refine j_iload G 4 dX3_regret_36 rfl ?_
                refine j_icmp_ne (tgt := 59) G dX3_regret_38 (by decide) (by omega) (by omega) (fun c38 => ?_) (fun c38 => ?_)
                · refine j_iinc (w := i + 1) (lv' := [(6, .int (jI (i + 1))), (0, .ref h), (1, .ref h2), (3, .int (jI s2)), (4, .int (jI m2)), (5, .int (jI w))]) G 5 dX3_regret_59 rfl rfl (by decide) rfl ?_
                  refine j_goto (tgt := 17) G dX3_regret_62 (by decide) ?_
                  refine j_lv [1, 2, 3, 4, 5, 0] (lv' := [(0, .ref h), (1, .ref h2), (3, .int (jI s2)), (4, .int (jI m2)), (5, .int (jI w)), (6, .int (jI (i + 1)))]) rfl ?_
                  exact ih17 (i + 1) s2 m2 (by omega) (by exact rg_s hi.1 hs2 hm2 (by first | exact Or.inl ⟨rg_y (by omega) c38 c48, by omega, rfl⟩ | exact Or.inr ⟨Or.inl (by omega), rfl⟩ | exact Or.inr ⟨Or.inr (rg_n1 (by omega) c38), rfl⟩ | exact Or.inr ⟨Or.inr (rg_n2 (by omega) c48), rfl⟩)) (by exact rg_m hi.1 hm2 (by first | exact Or.inl ⟨rg_y (by omega) c38 c48, by omega, rfl⟩ | exact Or.inr ⟨Or.inl (by omega), rfl⟩ | exact Or.inr ⟨Or.inr (rg_n1 (by omega) c38), rfl⟩ | exact Or.inr ⟨Or.inr (rg_n2 (by omega) c48), rfl⟩)) (by omega)
                · refine j_aload_n G 0 dX3_regret_41 rfl ?_
                  refine j_aload_n G 1 dX3_regret_42 rfl ?_
                  refine j_iload G 5 dX3_regret_43 rfl ?_
                  refine j_callV (nA := 2) (As := [.ref h2, .int (jI i)]) (st := []) (wc := (wZ Y h q z ++ (pT Y h2 q2 t))) (wr := []) G (c_X3_isEndangeredZ l D Y h q z h2 q2 t i (by first | assumption | exact hI.s1) (by first | assumption | omega)) dX3_regret_45 rfl gX3_regret_X3_isEndangered rfl rfl rfl (by decide +kernel) ⟨by decide, by decide⟩ rfl 0 rfl rfl rfl (jLe.nil (jLe.rf _)) (Nat.le_of_ble_eq_true rfl) ⟨Nat.zero_le _, Nat.zero_le _⟩ (fun v_ w_ hp_ => ?_)
                  obtain ⟨rfl, rfl⟩ := hp_
                  show J x 0 0 (wZ Y h q z ++ (pT Y h2 q2 t)) 48 [(0, .ref h), (1, .ref h2), (3, .int (jI s2)), (4, .int (jI m2)), (5, .int (jI w)), (6, .int (jI i))] [.int (jI (if 0 < zHi z t i then 1 else 0))]
                  refine j_ifz_eq (tgt := 59) G dX3_regret_48 (by decide) (fun c48 => ?_) (fun c48 => ?_)
                  · refine j_iinc (w := i + 1) (lv' := [(6, .int (jI (i + 1))), (0, .ref h), (1, .ref h2), (3, .int (jI s2)), (4, .int (jI m2)), (5, .int (jI w))]) G 5 dX3_regret_59 rfl rfl (by decide) rfl ?_
                    refine j_goto (tgt := 17) G dX3_regret_62 (by decide) ?_
                    refine j_lv [1, 2, 3, 4, 5, 0] (lv' := [(0, .ref h), (1, .ref h2), (3, .int (jI s2)), (4, .int (jI m2)), (5, .int (jI w)), (6, .int (jI (i + 1)))]) rfl ?_
                    exact ih17 (i + 1) s2 m2 (by omega) (by exact rg_s hi.1 hs2 hm2 (by first | exact Or.inl ⟨rg_y (by omega) c38 c48, by omega, rfl⟩ | exact Or.inr ⟨Or.inl (by omega), rfl⟩ | exact Or.inr ⟨Or.inr (rg_n1 (by omega) c38), rfl⟩ | exact Or.inr ⟨Or.inr (rg_n2 (by omega) c48), rfl⟩)) (by exact rg_m hi.1 hm2 (by first | exact Or.inl ⟨rg_y (by omega) c38 c48, by omega, rfl⟩ | exact Or.inr ⟨Or.inl (by omega), rfl⟩ | exact Or.inr ⟨Or.inr (rg_n1 (by omega) c38), rfl⟩ | exact Or.inr ⟨Or.inr (rg_n2 (by omega) c48), rfl⟩)) (by omega)
                  · refine j_iload_n G 2 dX3_regret_51 rfl ?_
                    refine j_iload G 4 dX3_regret_52 rfl ?_
                    refine j_iadd G dX3_regret_54 ?_
                    refine j_istore_n (lv' := [(3, .int (jI (s2 + w))), (0, .ref h), (1, .ref h2), (4, .int (jI m2)), (5, .int (jI w)), (6, .int (jI i))]) G dX3_regret_55 (by decide) rfl ?_
                    refine j_iinc (w := m2 + (-1)) (lv' := [(4, .int (jI (m2 + (-1)))), (3, .int (jI (s2 + w))), (0, .ref h), (1, .ref h2), (5, .int (jI w)), (6, .int (jI i))]) G 3 dX3_regret_56 rfl rfl (by decide) rfl ?_
                    refine j_iinc (w := i + 1) (lv' := [(6, .int (jI (i + 1))), (4, .int (jI (m2 + (-1)))), (3, .int (jI (s2 + w))), (0, .ref h), (1, .ref h2), (5, .int (jI w))]) G 5 dX3_regret_59 rfl rfl (by decide) rfl ?_
                    refine j_goto (tgt := 17) G dX3_regret_62 (by decide) ?_
                    refine j_lv [3, 4, 2, 1, 5, 0] (lv' := [(0, .ref h), (1, .ref h2), (3, .int (jI (s2 + w))), (4, .int (jI (m2 + (-1)))), (5, .int (jI w)), (6, .int (jI (i + 1)))]) rfl ?_
                    exact ih17 (i + 1) (s2 + w) (m2 + (-1)) (by omega) (by exact rg_s hi.1 hs2 hm2 (by first | exact Or.inl ⟨rg_y (by omega) c38 c48, by omega, rfl⟩ | exact Or.inr ⟨Or.inl (by omega), rfl⟩ | exact Or.inr ⟨Or.inr (rg_n1 (by omega) c38), rfl⟩ | exact Or.inr ⟨Or.inr (rg_n2 (by omega) c48), rfl⟩)) (by exact rg_m hi.1 hm2 (by first | exact Or.inl ⟨rg_y (by omega) c38 c48, by omega, rfl⟩ | exact Or.inr ⟨Or.inl (by omega), rfl⟩ | exact Or.inr ⟨Or.inr (rg_n1 (by omega) c38), rfl⟩ | exact Or.inr ⟨Or.inr (rg_n2 (by omega) c48), rfl⟩)) (by omega)
        refine j_lv [1, 2, 3, 4, 5, 0] (lv' := [(0, .ref h), (1, .ref h2), (3, .int (jI s)), (4, .int (jI m)), (5, .int (jI w)), (6, .int (jI 0))]) rfl ?_
        exact lp17 (Int.toNat ((64 - 0) + 1)) 0 s m (by omega) (by rw [hs, show nEq (zLW z t) w (0 : Int).toNat = 0 from rfl, Int.add_zero, Int.sub_self, Int.mul_zero, Int.add_zero]) (by rw [hm, show nEq (zLW z t) w (0 : Int).toNat = 0 from rfl, Int.add_zero]) (by omega)
  refine j_lv [3, 4, 2, 1, 0] (lv' := [(0, .ref h), (1, .ref h2), (3, .int (jI 0)), (4, .int (jI n)), (5, .int (jI 99))]) rfl ?_
  exact lp9 (Int.toNat ((99) + 1)) 99 0 n (by omega) (by symm; exact sTop_99 hn.1 (fun p a b => by have := zLW_b t hI p a b; omega)) (by rw [nGe_0 (fun p a b => by have := zLW_b t hI p a b; omega)]; unfold mnI; split <;> omega) (by omega)

set_option maxHeartbeats 4000000 in
set_option maxRecDepth 100000 in
theorem c_X3_takeStorm (l : Launch) (D : va_G) (Y : Nat → ClassId) (h : Nat) (q : Nat → Nat) (z : Int → Int) (h2 : Nat) (q2 : Nat → Nat) (hI : Inv z) : jM l yX3_takeStorm wsX3_takeStorm { frames := 5, cells := 0, slots := 0, locals := 118 } D Y [.ref h, .ref h2] (wZ Y h q z ++ (pT Y h2 q2 (tZ z))) (fun v_ w_ => v_ = some (.int (jI (F_storm z))) ∧ w_ = (wZ Y h q (G_storm z) ++ (pT Y h2 q2 (tZ z)))) 0 0 := by
  refine jM_of (cc := cX3_takeStorm) (maxL := 4) (ret := (some .int)) (by decide) rfl (Nat.le_of_ble_eq_true rfl) (fun v w' h => Or.inr (Or.inl ⟨_, _, rfl, h.1, rfl⟩)) ?_
  intro x G kr0
  have kr := kr0 _ _ ⟨rfl, rfl⟩
  have G : jG x l D Y cX3_takeStorm RX3 wsX3_takeStorm 4 ({ frames := 5, cells := 0, slots := 0, locals := 118 } : Room) (some .int) "takeStorm" := G
  have hinX2 : ∀ w ∈ wsX20, w ∈ wsX3_takeStorm := fun _ h => List.mem_cons_of_mem _ (List.mem_append_left _ (List.mem_append_right _ h))
  have hinX3 : ∀ w ∈ wsX30, w ∈ wsX3_takeStorm := fun _ h => List.mem_cons_of_mem _ (List.mem_append_right _ h)
  have f0 := pAll_b (tZ z)
  show J x 0 0 (wZ Y h q z ++ (pT Y h2 q2 (tZ z))) 0 [(0, .ref h), (1, .ref h2)] []
  refine j_aload_n G 1 dX3_takeStorm_0 rfl ?_
  refine j_getN (q := 2) (C := RX2) (T := TX2) (N := 3) (v := .int (jI (pAll (tZ z)))) (host := "StormFelling") G 9 hinX2 dX3_takeStorm_1 rfl rfl (by decide) (by decide +kernel) rfl ?_
  refine j_iconst G dX3_takeStorm_4 (v := 1) rfl ?_
  refine j_icmp_le (tgt := 11) G dX3_takeStorm_5 (by decide) (by omega) (by omega) (fun c5 => ?_) (fun c5 => ?_)
  · refine j_aload_n G 0 dX3_takeStorm_11 rfl ?_
    refine j_dup G dX3_takeStorm_12 rfl ?_
    refine j_get (q := 11) (C := RX3) (T := TX3) (N := 13) (v := .int (jI (z 5))) G 0 hinX3 dX3_takeStorm_13 rfl rfl (by decide) (by decide +kernel) rfl ?_
    refine j_aload_n G 0 dX3_takeStorm_16 rfl ?_
    refine j_aload_n G 1 dX3_takeStorm_17 rfl ?_
    refine j_aload_n G 0 dX3_takeStorm_18 rfl ?_
    refine j_aload_n G 1 dX3_takeStorm_19 rfl ?_
    refine j_callV (nA := 1) (As := [.ref h2]) (st := [.ref h2, .ref h, .int (jI (z 5)), .ref h]) (wc := (wZ Y h q z ++ (pT Y h2 q2 (tZ z)))) (wr := []) G (c_X3_felledInVain l D Y h q z h2 q2 (tZ z) (by first | assumption | omega)) dX3_takeStorm_20 rfl gX3_takeStorm_X3_felledInVain rfl rfl rfl (by decide +kernel) ⟨by decide, by decide⟩ rfl 0 rfl rfl rfl (jLe.nil (jLe.rf _)) (Nat.le_of_ble_eq_true rfl) ⟨Nat.zero_le _, Nat.zero_le _⟩ (fun v_ w_ hp_ => ?_)
    obtain ⟨rfl, rfl⟩ := hp_
    show J x 0 0 (wZ Y h q z ++ (pT Y h2 q2 (tZ z))) 23 [(0, .ref h), (1, .ref h2)] [.int (jI (zVa z (tZ z))), .ref h2, .ref h, .int (jI (z 5)), .ref h]
    refine j_callV (nA := 2) (As := [.ref h2, .int (jI (zVa z (tZ z)))]) (st := [.int (jI (z 5)), .ref h]) (wc := (wZ Y h q z ++ (pT Y h2 q2 (tZ z)))) (wr := []) G (c_X3_regret l D Y h q z h2 q2 (tZ z) (zVa z (tZ z)) (by first | assumption | omega) (by exact zVa_b z (tZ z))) dX3_takeStorm_23 rfl gX3_takeStorm_X3_regret rfl rfl rfl (by decide +kernel) ⟨by decide, by decide⟩ rfl 0 rfl rfl rfl (jLe.nil (jLe.rf _)) (Nat.le_of_ble_eq_true rfl) ⟨Nat.zero_le _, Nat.zero_le _⟩ (fun v_ w_ hp_ => ?_)
    obtain ⟨rfl, rfl⟩ := hp_
    show J x 0 0 (wZ Y h q z ++ (pT Y h2 q2 (tZ z))) 26 [(0, .ref h), (1, .ref h2)] [.int (jI (zTop (zLW z (tZ z)) (zVa z (tZ z)))), .int (jI (z 5)), .ref h]
    refine j_iadd G dX3_takeStorm_26 ?_
    refine j_put (q := 11) (C := RX3) (T := TX3) (N := 13) (ws' := wV Y h q (fun j => z (28 + j)) (fun j => z (156 + j)) (z 92) (fun j => z (15 + 4 * j)) (fun j => z (16 + 4 * j)) (fun j => z (17 + 4 * j)) (fun j => z (18 + 4 * j)) (fun j => z (7 + j)) (fun j => z j) (z 3) (z 4) ((z 5) + (zTop (zLW z (tZ z)) (zVa z (tZ z)))) (z 6) ++ (pT Y h2 q2 (tZ z))) G 0 hinX3 tyX3 tyX3_ok nmX3 dX3_takeStorm_27 rfl rfl (by decide) (by decide +kernel) rfl rfl rfl rfl (Nat.le_of_ble_eq_true rfl) rfl ?_
    refine j_aload_n G 0 dX3_takeStorm_30 rfl ?_
    refine j_aload_n G 1 dX3_takeStorm_31 rfl ?_
    refine j_callV (nA := 1) (As := [.ref h2]) (st := []) (wc := (wV Y h q (fun j => z (28 + j)) (fun j => z (156 + j)) (z 92) (fun j => z (15 + 4 * j)) (fun j => z (16 + 4 * j)) (fun j => z (17 + 4 * j)) (fun j => z (18 + 4 * j)) (fun j => z (7 + j)) (fun j => z j) (z 3) (z 4) ((z 5) + (zTop (zLW z (tZ z)) (zVa z (tZ z)))) (z 6) ++ (pT Y h2 q2 (tZ z)))) (wr := []) G (c_X3_loseWorths l D Y h q (fun j => z (28 + j)) (fun j => z (156 + j)) (z 92) (fun j => z (15 + 4 * j)) (fun j => z (16 + 4 * j)) (fun j => z (17 + 4 * j)) (fun j => z (18 + 4 * j)) (fun j => z (7 + j)) (fun j => z j) (z 3) (z 4) ((z 5) + (zTop (zLW z (tZ z)) (zVa z (tZ z)))) (z 6) h2 q2 (tZ z) (by exact hI.s1)) dX3_takeStorm_32 rfl gX3_takeStorm_X3_loseWorths rfl rfl rfl (by decide +kernel) ⟨by decide, by decide⟩ rfl 0 rfl rfl rfl (jLe.nil (jLe.rf _)) (Nat.le_of_ble_eq_true rfl) ⟨Nat.zero_le _, Nat.zero_le _⟩ (fun v_ w_ hp_ => ?_)
    obtain ⟨rfl, rfl⟩ := hp_
    show J x 0 0 (wV Y h q (fun j => if 0 < pHi (pTh (tZ z)) j ((z 1)) then 0 else (z (28 + j))) (fun j => z (156 + j)) (z 92) (fun j => z (15 + 4 * j)) (fun j => z (16 + 4 * j)) (fun j => z (17 + 4 * j)) (fun j => z (18 + 4 * j)) (fun j => z (7 + j)) (fun j => z j) (z 3) (z 4) ((z 5) + (zTop (zLW z (tZ z)) (zVa z (tZ z)))) (z 6) ++ (pT Y h2 q2 (tZ z))) 35 [(0, .ref h), (1, .ref h2)] [.int (jI (sumI 64 (fun p => if 0 < pHi (pTh (tZ z)) p ((z 1)) then (z (28 + p)) else 0)))]
    refine j_istore_n (lv' := [(2, .int (jI (sumI 64 (fun p => if 0 < pHi (pTh (tZ z)) p ((z 1)) then (z (28 + p)) else 0)))), (0, .ref h), (1, .ref h2)]) G dX3_takeStorm_35 (by decide) rfl ?_
    refine j_aload_n G 1 dX3_takeStorm_36 rfl ?_
    refine j_dup G dX3_takeStorm_37 rfl ?_
    refine j_get (q := 10) (C := RX3) (T := TX3) (N := 13) (v := .int (jI (z 4))) G 0 hinX3 dX3_takeStorm_38 rfl rfl (by decide) (by decide +kernel) rfl ?_
    refine j_iload_n G 0 dX3_takeStorm_41 rfl ?_
    refine j_iadd G dX3_takeStorm_42 ?_
    refine j_put (q := 10) (C := RX3) (T := TX3) (N := 13) (ws' := wV Y h q (fun j => if 0 < pHi (pTh (tZ z)) j ((z 1)) then 0 else (z (28 + j))) (fun j => z (156 + j)) (z 92) (fun j => z (15 + 4 * j)) (fun j => z (16 + 4 * j)) (fun j => z (17 + 4 * j)) (fun j => z (18 + 4 * j)) (fun j => z (7 + j)) (fun j => z j) (z 3) ((z 4) + (sumI 64 (fun p => if 0 < pHi (pTh (tZ z)) p ((z 1)) then (z (28 + p)) else 0))) ((z 5) + (zTop (zLW z (tZ z)) (zVa z (tZ z)))) (z 6) ++ (pT Y h2 q2 (tZ z))) G 0 hinX3 tyX3 tyX3_ok nmX3 dX3_takeStorm_43 rfl rfl (by decide) (by decide +kernel) rfl rfl rfl rfl (Nat.le_of_ble_eq_true rfl) rfl ?_
    refine j_aload_n G 1 dX3_takeStorm_46 rfl ?_
    refine j_dup G dX3_takeStorm_47 rfl ?_
    refine j_get (q := 12) (C := RX3) (T := TX3) (N := 13) (v := .int (jI (z 6))) G 0 hinX3 dX3_takeStorm_48 rfl rfl (by decide) (by decide +kernel) rfl ?_
    refine j_iconst G dX3_takeStorm_51 (v := 1) rfl ?_
    refine j_iadd G dX3_takeStorm_52 ?_
    refine j_put (q := 12) (C := RX3) (T := TX3) (N := 13) (ws' := wV Y h q (fun j => if 0 < pHi (pTh (tZ z)) j ((z 1)) then 0 else (z (28 + j))) (fun j => z (156 + j)) (z 92) (fun j => z (15 + 4 * j)) (fun j => z (16 + 4 * j)) (fun j => z (17 + 4 * j)) (fun j => z (18 + 4 * j)) (fun j => z (7 + j)) (fun j => z j) (z 3) ((z 4) + (sumI 64 (fun p => if 0 < pHi (pTh (tZ z)) p ((z 1)) then (z (28 + p)) else 0))) ((z 5) + (zTop (zLW z (tZ z)) (zVa z (tZ z)))) ((z 6) + 1) ++ (pT Y h2 q2 (tZ z))) G 0 hinX3 tyX3 tyX3_ok nmX3 dX3_takeStorm_53 rfl rfl (by decide) (by decide +kernel) rfl rfl rfl rfl (Nat.le_of_ble_eq_true rfl) rfl ?_
    refine j_iconst G dX3_takeStorm_56 (v := 0) rfl ?_
    refine j_istore_n (lv' := [(3, .int (jI 0)), (2, .int (jI (sumI 64 (fun p => if 0 < pHi (pTh (tZ z)) p ((z 1)) then (z (28 + p)) else 0)))), (0, .ref h), (1, .ref h2)]) G dX3_takeStorm_57 (by decide) rfl ?_
    have lp58 : ∀ (n_ : Nat) (i : Int) (f : Int → Int), (0 ≤ i ∧ i ≤ 64) → (∀ j : Int, 0 ≤ j → j < i → f j = 0) → (64 - i) < (n_ : Int) → J x 0 0 (wV Y h q (fun j => if 0 < pHi (pTh (tZ z)) j ((z 1)) then 0 else (z (28 + j))) f (z 92) (fun j => z (15 + 4 * j)) (fun j => z (16 + 4 * j)) (fun j => z (17 + 4 * j)) (fun j => z (18 + 4 * j)) (fun j => z (7 + j)) (fun j => z j) (z 3) ((z 4) + (sumI 64 (fun p => if 0 < pHi (pTh (tZ z)) p ((z 1)) then (z (28 + p)) else 0))) ((z 5) + (zTop (zLW z (tZ z)) (zVa z (tZ z)))) ((z 6) + 1) ++ (pT Y h2 q2 (tZ z))) 58 [(0, .ref h), (1, .ref h2), (2, .int (jI (sumI 64 (fun p => if 0 < pHi (pTh (tZ z)) p ((z 1)) then (z (28 + p)) else 0)))), (3, .int (jI i))] [] := by
      intro n_
      induction n_ with
      | zero =>
        intro i f hi hf hm_
        exact absurd hm_ (by omega)
      | succ n_ ih58 =>
        intro i f hi hf hm_
        refine j_iload_n G 3 dX3_takeStorm_58 rfl ?_
        refine j_bipush G dX3_takeStorm_59 (v := 64) rfl ?_
        refine j_icmp_ge (tgt := 77) G dX3_takeStorm_61 (by decide) (by omega) (by omega) (fun c61 => ?_) (fun c61 => ?_)
        · refine j_iconst G dX3_takeStorm_77 (v := 0) rfl ?_
          refine j_istore_n (lv' := [(3, .int (jI 0)), (0, .ref h), (1, .ref h2), (2, .int (jI (sumI 64 (fun p => if 0 < pHi (pTh (tZ z)) p ((z 1)) then (z (28 + p)) else 0))))]) G dX3_takeStorm_78 (by decide) rfl ?_
          have lp79 : ∀ (n_ : Nat) (i : Int) (g : Int → Int), (0 ≤ i ∧ i ≤ 8) → (∀ j : Int, 0 ≤ j → j < i → g j = -5) → (8 - i) < (n_ : Int) → J x 0 0 (wV Y h q (fun j => if 0 < pHi (pTh (tZ z)) j ((z 1)) then 0 else (z (28 + j))) f (z 92) (fun j => z (15 + 4 * j)) (fun j => z (16 + 4 * j)) (fun j => z (17 + 4 * j)) (fun j => z (18 + 4 * j)) g (fun j => z j) (z 3) ((z 4) + (sumI 64 (fun p => if 0 < pHi (pTh (tZ z)) p ((z 1)) then (z (28 + p)) else 0))) ((z 5) + (zTop (zLW z (tZ z)) (zVa z (tZ z)))) ((z 6) + 1) ++ (pT Y h2 q2 (tZ z))) 79 [(0, .ref h), (1, .ref h2), (2, .int (jI (sumI 64 (fun p => if 0 < pHi (pTh (tZ z)) p ((z 1)) then (z (28 + p)) else 0)))), (3, .int (jI i))] [] := by
            intro n_
            induction n_ with
            | zero =>
              intro i g hi hg hm_
              exact absurd hm_ (by omega)
            | succ n_ ih79 =>
              intro i g hi hg hm_
              refine j_iload_n G 3 dX3_takeStorm_79 rfl ?_
              refine j_bipush G dX3_takeStorm_80 (v := 8) rfl ?_
              refine j_icmp_ge (tgt := 99) G dX3_takeStorm_82 (by decide) (by omega) (by omega) (fun c82 => ?_) (fun c82 => ?_)
              · refine j_iload_n G 2 dX3_takeStorm_99 rfl ?_
                exact j_reti G dX3_takeStorm_100 (by unfold F_storm; rw [if_neg (by omega)]; rfl) (by rw [show G_storm z = GS z (tZ z) from if_neg (by omega)]; refine (wLe.app (wV_le (fun j h0 h1 => ?_) (fun j h0 h1 => ?_) ?_ (fun j h0 h1 => ?_) (fun j h0 h1 => ?_) (fun j h0 h1 => ?_) (fun j h0 h1 => ?_) (fun j h0 h1 => ?_) (fun j h0 h1 => ?_) ?_ ?_ ?_ ?_) (wLe.rf _)).le <;> (first | rfl | (first | (rw [hf _ h0 (by omega)]; simp only [GS]; (repeat' split) <;> first | rfl | omega) | (rw [hg _ h0 (by omega)]; simp only [GS]; (repeat' split) <;> first | rfl | omega) | (simp only [GS]; rw [if_pos (show 28 ≤ 28 + j ∧ 28 + j < 92 by omega), show 28 + j - 28 = j by omega]) | (simp only [GS]; (repeat' split) <;> first | rfl | omega)))) kr
              · refine j_aload_n G 0 dX3_takeStorm_85 rfl ?_
                refine j_get (q := 7) (C := RX3) (T := TX3) (N := 13) (v := .ref (q 6)) G 0 hinX3 dX3_takeStorm_86 rfl rfl (by decide) (by decide +kernel) rfl ?_
                refine j_iload_n G 3 dX3_takeStorm_89 rfl ?_
                refine j_bipush G dX3_takeStorm_90 (v := (-5)) rfl ?_
                refine j_iast (ws' := wV Y h q (fun j => if 0 < pHi (pTh (tZ z)) j ((z 1)) then 0 else (z (28 + j))) f (z 92) (fun j => z (15 + 4 * j)) (fun j => z (16 + 4 * j)) (fun j => z (17 + 4 * j)) (fun j => z (18 + 4 * j)) (upZ g i (-5)) (fun j => z j) (z 3) ((z 4) + (sumI 64 (fun p => if 0 < pHi (pTh (tZ z)) p ((z 1)) then (z (28 + p)) else 0))) ((z 5) + (zTop (zLW z (tZ z)) (zVa z (tZ z)))) ((z 6) + 1) ++ (pT Y h2 q2 (tZ z))) G 7 dX3_takeStorm_92 rfl (by omega) rfl ?_
                refine j_iinc (w := i + 1) (lv' := [(3, .int (jI (i + 1))), (0, .ref h), (1, .ref h2), (2, .int (jI (sumI 64 (fun p => if 0 < pHi (pTh (tZ z)) p ((z 1)) then (z (28 + p)) else 0))))]) G 3 dX3_takeStorm_93 rfl rfl (by decide) rfl ?_
                refine j_goto (tgt := 79) G dX3_takeStorm_96 (by decide) ?_
                refine j_lv [1, 2, 3, 0] (lv' := [(0, .ref h), (1, .ref h2), (2, .int (jI (sumI 64 (fun p => if 0 < pHi (pTh (tZ z)) p ((z 1)) then (z (28 + p)) else 0)))), (3, .int (jI (i + 1)))]) rfl ?_
                exact ih79 (i + 1) (upZ g i (-5)) (by omega) (by exact upZ_step (g := fun _ => -5) hg rfl) (by omega)
          refine j_lv [1, 2, 3, 0] (lv' := [(0, .ref h), (1, .ref h2), (2, .int (jI (sumI 64 (fun p => if 0 < pHi (pTh (tZ z)) p ((z 1)) then (z (28 + p)) else 0)))), (3, .int (jI 0))]) rfl ?_
          exact lp79 (Int.toNat ((8 - 0) + 1)) 0 (fun j => z (7 + j)) (by omega) (by intro j h0 h1; omega) (by omega)
        · refine j_aload_n G 0 dX3_takeStorm_64 rfl ?_
          refine j_get (q := 1) (C := RX3) (T := TX3) (N := 13) (v := .ref (q 1)) G 0 hinX3 dX3_takeStorm_65 rfl rfl (by decide) (by decide +kernel) rfl ?_
          refine j_iload_n G 3 dX3_takeStorm_68 rfl ?_
          refine j_iconst G dX3_takeStorm_69 (v := 0) rfl ?_
          refine j_zast (ws' := wV Y h q (fun j => if 0 < pHi (pTh (tZ z)) j ((z 1)) then 0 else (z (28 + j))) (upZ f i 0) (z 92) (fun j => z (15 + 4 * j)) (fun j => z (16 + 4 * j)) (fun j => z (17 + 4 * j)) (fun j => z (18 + 4 * j)) (fun j => z (7 + j)) (fun j => z j) (z 3) ((z 4) + (sumI 64 (fun p => if 0 < pHi (pTh (tZ z)) p ((z 1)) then (z (28 + p)) else 0))) ((z 5) + (zTop (zLW z (tZ z)) (zVa z (tZ z)))) ((z 6) + 1) ++ (pT Y h2 q2 (tZ z))) G 2 dX3_takeStorm_70 rfl (by omega) (by omega) rfl ?_
          refine j_iinc (w := i + 1) (lv' := [(3, .int (jI (i + 1))), (0, .ref h), (1, .ref h2), (2, .int (jI (sumI 64 (fun p => if 0 < pHi (pTh (tZ z)) p ((z 1)) then (z (28 + p)) else 0))))]) G 3 dX3_takeStorm_71 rfl rfl (by decide) rfl ?_
          refine j_goto (tgt := 58) G dX3_takeStorm_74 (by decide) ?_
          refine j_lv [1, 2, 3, 0] (lv' := [(0, .ref h), (1, .ref h2), (2, .int (jI (sumI 64 (fun p => if 0 < pHi (pTh (tZ z)) p ((z 1)) then (z (28 + p)) else 0)))), (3, .int (jI (i + 1)))]) rfl ?_
          exact ih58 (i + 1) (upZ f i 0) (by omega) (by exact upZ_step (g := fun _ => 0) hf rfl) (by omega)
    refine j_lv [2, 3, 1, 0] (lv' := [(0, .ref h), (1, .ref h2), (2, .int (jI (sumI 64 (fun p => if 0 < pHi (pTh (tZ z)) p ((z 1)) then (z (28 + p)) else 0)))), (3, .int (jI 0))]) rfl ?_
    exact lp58 (Int.toNat ((64 - 0) + 1)) 0 (fun j => z (156 + j)) (by omega) (by intro j h0 h1; omega) (by omega)
  · refine j_bipush G dX3_takeStorm_8 (v := (-4)) rfl ?_
    exact j_reti G dX3_takeStorm_10 (by unfold F_storm; rw [if_pos (by omega)]) (by rw [show G_storm z = z from if_pos (by omega)]; exact jLe.rf _) kr

set_option maxHeartbeats 4000000 in
set_option maxRecDepth 100000 in
theorem c_X3_isBetter (l : Launch) (D : va_G) (Y : Nat → ClassId) (h : Nat) (q : Nat → Nat) (z : Int → Int) (h2 : Nat) (q2 : Nat → Nat) (t : Int → Int) (k : Int) (p : Int) (o : Int) (hI : Inv z) (ha : 1 ≤ pAll t) (hk : 0 ≤ k ∧ k < 3) (hp : 0 ≤ p ∧ p < 64) (ho : 0 ≤ o ∧ o < 64) : jM l yX3_isBetter wsX3_isBetter { frames := 4, cells := 0, slots := 0, locals := 92 } D Y [.ref h, .ref h2, .int (jI k), .int (jI p), .int (jI o)] (wZ Y h q z ++ (pT Y h2 q2 t)) (fun v_ w_ => v_ = some (.int (jI (if zLo z t o < zLo z t p ∨ (zLo z t p = zLo z t o ∧ (z (28 + o) < z (28 + p) ∨ (z (28 + p) = z (28 + o) ∧ zWay z k p < zWay z k o))) then 1 else 0))) ∧ w_ = (wZ Y h q z ++ (pT Y h2 q2 t))) 0 0 := by
  refine jM_of (cc := cX3_isBetter) (maxL := 6) (ret := (some .boolean)) (by decide) rfl (Nat.le_of_ble_eq_true rfl) (fun v w' h => Or.inr (Or.inl ⟨_, _, rfl, h.1, jI_z (ite_01 _)⟩)) ?_
  intro x G kr0
  have kr := kr0 _ _ ⟨rfl, rfl⟩
  have G : jG x l D Y cX3_isBetter RX3 wsX3_isBetter 6 ({ frames := 4, cells := 0, slots := 0, locals := 92 } : Room) (some .boolean) "isBetter" := G
  have hinX3 : ∀ w ∈ wsX30, w ∈ wsX3_isBetter := fun _ h => List.mem_cons_of_mem _ (List.mem_append_left _ (List.mem_append_right _ h))
  have f0 := zLo_b t hI ha hp
  have f1 := zLo_b t hI ha ho
  have f2 := hI.wo p hp.1 hp.2
  have f3 := hI.wo o ho.1 ho.2
  have f4 := zWay_b hI hk hp
  have f5 := zWay_b hI hk ho
  show J x 0 0 (wZ Y h q z ++ (pT Y h2 q2 t)) 0 [(0, .ref h), (1, .ref h2), (2, .int (jI k)), (3, .int (jI p)), (4, .int (jI o))] []
  refine j_aload_n G 0 dX3_isBetter_0 rfl ?_
  refine j_aload_n G 1 dX3_isBetter_1 rfl ?_
  refine j_iload_n G 3 dX3_isBetter_2 rfl ?_
  refine j_callV (nA := 2) (As := [.ref h2, .int (jI p)]) (st := []) (wc := (wZ Y h q z ++ (pT Y h2 q2 t))) (wr := []) G (c_X3_standsToLose l D Y h q z h2 q2 t p (by first | assumption | omega) (by first | assumption | omega) (by first | assumption | omega)) dX3_isBetter_3 rfl gX3_isBetter_X3_standsToLose rfl rfl rfl (by decide +kernel) ⟨by decide, by decide⟩ rfl 0 rfl rfl rfl (jLe.nil (jLe.rf _)) (Nat.le_of_ble_eq_true rfl) ⟨Nat.zero_le _, Nat.zero_le _⟩ (fun v_ w_ hp_ => ?_)
  obtain ⟨rfl, rfl⟩ := hp_
  show J x 0 0 (wZ Y h q z ++ (pT Y h2 q2 t)) 6 [(0, .ref h), (1, .ref h2), (2, .int (jI k)), (3, .int (jI p)), (4, .int (jI o))] [.int (jI (zLo z t p))]
  refine j_aload_n G 0 dX3_isBetter_6 rfl ?_
  refine j_aload_n G 1 dX3_isBetter_7 rfl ?_
  refine j_iload G 4 dX3_isBetter_8 rfl ?_
  refine j_callV (nA := 2) (As := [.ref h2, .int (jI o)]) (st := [.int (jI (zLo z t p))]) (wc := (wZ Y h q z ++ (pT Y h2 q2 t))) (wr := []) G (c_X3_standsToLose l D Y h q z h2 q2 t o (by first | assumption | omega) (by first | assumption | omega) (by first | assumption | omega)) dX3_isBetter_10 rfl gX3_isBetter_X3_standsToLose rfl rfl rfl (by decide +kernel) ⟨by decide, by decide⟩ rfl 0 rfl rfl rfl (jLe.nil (jLe.rf _)) (Nat.le_of_ble_eq_true rfl) ⟨Nat.zero_le _, Nat.zero_le _⟩ (fun v_ w_ hp_ => ?_)
  obtain ⟨rfl, rfl⟩ := hp_
  show J x 0 0 (wZ Y h q z ++ (pT Y h2 q2 t)) 13 [(0, .ref h), (1, .ref h2), (2, .int (jI k)), (3, .int (jI p)), (4, .int (jI o))] [.int (jI (zLo z t o)), .int (jI (zLo z t p))]
  refine j_isub G dX3_isBetter_13 ?_
  refine j_istore (lv' := [(5, .int (jI ((zLo z t p) - (zLo z t o)))), (0, .ref h), (1, .ref h2), (2, .int (jI k)), (3, .int (jI p)), (4, .int (jI o))]) G dX3_isBetter_14 (by decide) rfl ?_
  refine j_iload G 0 dX3_isBetter_16 rfl ?_
  refine j_if_eq (tgt := 32) G dX3_isBetter_18 (by decide) (by omega) (fun c18 => ?_) (fun c18 => ?_)
  · refine j_aload_n G 1 dX3_isBetter_32 rfl ?_
    refine j_get (q := 0) (C := RX3) (T := TX3) (N := 13) (v := .ref (q 0)) G 0 hinX3 dX3_isBetter_33 rfl rfl (by decide) (by decide +kernel) rfl ?_
    refine j_iload_n G 4 dX3_isBetter_36 rfl ?_
    refine j_iald (v := z (28 + p)) G 1 dX3_isBetter_37 rfl (by omega) rfl ?_
    refine j_aload_n G 1 dX3_isBetter_38 rfl ?_
    refine j_get (q := 0) (C := RX3) (T := TX3) (N := 13) (v := .ref (q 0)) G 0 hinX3 dX3_isBetter_39 rfl rfl (by decide) (by decide +kernel) rfl ?_
    refine j_iload G 5 dX3_isBetter_42 rfl ?_
    refine j_iald (v := z (28 + o)) G 1 dX3_isBetter_44 rfl (by omega) rfl ?_
    refine j_icmp_eq (tgt := 70) G dX3_isBetter_45 (by decide) (by omega) (by omega) (fun c45 => ?_) (fun c45 => ?_)
    · refine j_aload_n G 1 dX3_isBetter_70 rfl ?_
      refine j_iload_n G 3 dX3_isBetter_71 rfl ?_
      refine j_iload_n G 4 dX3_isBetter_72 rfl ?_
      refine j_callV (nA := 2) (As := [.int (jI k), .int (jI p)]) (st := []) (wc := (wZ Y h q z)) (wr := (pT Y h2 q2 t)) G (c_X3_stepsTo l D Y h q z k p (by first | assumption | omega) (by first | assumption | omega) (by first | assumption | omega)) dX3_isBetter_73 rfl gX3_isBetter_X3_stepsTo rfl rfl rfl (by decide +kernel) ⟨by decide, by decide⟩ rfl 0 rfl rfl rfl (jLe.rf _) (Nat.le_of_ble_eq_true rfl) ⟨Nat.zero_le _, Nat.zero_le _⟩ (fun v_ w_ hp_ => ?_)
      obtain ⟨rfl, rfl⟩ := hp_
      show J x 0 0 (wZ Y h q z ++ (pT Y h2 q2 t)) 76 [(5, .int (jI ((zLo z t p) - (zLo z t o)))), (0, .ref h), (1, .ref h2), (2, .int (jI k)), (3, .int (jI p)), (4, .int (jI o))] [.int (jI (zWay z k p))]
      refine j_aload_n G 1 dX3_isBetter_76 rfl ?_
      refine j_iload_n G 3 dX3_isBetter_77 rfl ?_
      refine j_iload G 5 dX3_isBetter_78 rfl ?_
      refine j_callV (nA := 2) (As := [.int (jI k), .int (jI o)]) (st := [.int (jI (zWay z k p))]) (wc := (wZ Y h q z)) (wr := (pT Y h2 q2 t)) G (c_X3_stepsTo l D Y h q z k o (by first | assumption | omega) (by first | assumption | omega) (by first | assumption | omega)) dX3_isBetter_80 rfl gX3_isBetter_X3_stepsTo rfl rfl rfl (by decide +kernel) ⟨by decide, by decide⟩ rfl 0 rfl rfl rfl (jLe.rf _) (Nat.le_of_ble_eq_true rfl) ⟨Nat.zero_le _, Nat.zero_le _⟩ (fun v_ w_ hp_ => ?_)
      obtain ⟨rfl, rfl⟩ := hp_
      show J x 0 0 (wZ Y h q z ++ (pT Y h2 q2 t)) 83 [(5, .int (jI ((zLo z t p) - (zLo z t o)))), (0, .ref h), (1, .ref h2), (2, .int (jI k)), (3, .int (jI p)), (4, .int (jI o))] [.int (jI (zWay z k o)), .int (jI (zWay z k p))]
      refine j_icmp_ge (tgt := 90) G dX3_isBetter_83 (by decide) (by omega) (by omega) (fun c83 => ?_) (fun c83 => ?_)
      · refine j_iconst G dX3_isBetter_90 (v := 0) rfl ?_
        exact j_reti G dX3_isBetter_91 (by first | rfl | omega | exact ite_T (by omega) | exact ite_F (by omega)) (jLe.rf _) kr
      · refine j_iconst G dX3_isBetter_86 (v := 1) rfl ?_
        refine j_goto (tgt := 91) G dX3_isBetter_87 (by decide) ?_
        exact j_reti G dX3_isBetter_91 (by first | rfl | omega | exact ite_T (by omega) | exact ite_F (by omega)) (jLe.rf _) kr
    · refine j_aload_n G 1 dX3_isBetter_48 rfl ?_
      refine j_get (q := 0) (C := RX3) (T := TX3) (N := 13) (v := .ref (q 0)) G 0 hinX3 dX3_isBetter_49 rfl rfl (by decide) (by decide +kernel) rfl ?_
      refine j_iload_n G 4 dX3_isBetter_52 rfl ?_
      refine j_iald (v := z (28 + p)) G 1 dX3_isBetter_53 rfl (by omega) rfl ?_
      refine j_aload_n G 1 dX3_isBetter_54 rfl ?_
      refine j_get (q := 0) (C := RX3) (T := TX3) (N := 13) (v := .ref (q 0)) G 0 hinX3 dX3_isBetter_55 rfl rfl (by decide) (by decide +kernel) rfl ?_
      refine j_iload G 5 dX3_isBetter_58 rfl ?_
      refine j_iald (v := z (28 + o)) G 1 dX3_isBetter_60 rfl (by omega) rfl ?_
      refine j_icmp_le (tgt := 68) G dX3_isBetter_61 (by decide) (by omega) (by omega) (fun c61 => ?_) (fun c61 => ?_)
      · refine j_iconst G dX3_isBetter_68 (v := 0) rfl ?_
        exact j_reti G dX3_isBetter_69 (by first | rfl | omega | exact ite_T (by omega) | exact ite_F (by omega)) (jLe.rf _) kr
      · refine j_iconst G dX3_isBetter_64 (v := 1) rfl ?_
        refine j_goto (tgt := 69) G dX3_isBetter_65 (by decide) ?_
        exact j_reti G dX3_isBetter_69 (by first | rfl | omega | exact ite_T (by omega) | exact ite_F (by omega)) (jLe.rf _) kr
  · refine j_iload G 0 dX3_isBetter_21 rfl ?_
    refine j_if_le (tgt := 30) G dX3_isBetter_23 (by decide) (by omega) (fun c23 => ?_) (fun c23 => ?_)
    · refine j_iconst G dX3_isBetter_30 (v := 0) rfl ?_
      exact j_reti G dX3_isBetter_31 (by first | rfl | omega | exact ite_T (by omega) | exact ite_F (by omega)) (jLe.rf _) kr
    · refine j_iconst G dX3_isBetter_26 (v := 1) rfl ?_
      refine j_goto (tgt := 31) G dX3_isBetter_27 (by decide) ?_
      exact j_reti G dX3_isBetter_31 (by first | rfl | omega | exact ite_T (by omega) | exact ite_F (by omega)) (jLe.rf _) kr

set_option maxHeartbeats 4000000 in
set_option maxRecDepth 100000 in
theorem c_X3_bestPlot (l : Launch) (D : va_G) (Y : Nat → ClassId) (h : Nat) (q : Nat → Nat) (z : Int → Int) (h2 : Nat) (q2 : Nat → Nat) (t : Int → Int) (k : Int) (hI : Inv z) (ha : 1 ≤ pAll t) (hk : 0 ≤ k ∧ k < 3) : jM l yX3_bestPlot wsX3_bestPlot { frames := 5, cells := 0, slots := 0, locals := 117 } D Y [.ref h, .ref h2, .int (jI k)] (wZ Y h q z ++ (pT Y h2 q2 t)) (fun v_ w_ => v_ = some (.int (jI (zBest z t k 64))) ∧ w_ = (wZ Y h q z ++ (pT Y h2 q2 t))) 0 0 := by
  refine jM_of (cc := cX3_bestPlot) (maxL := 5) (ret := (some .int)) (by decide) rfl (Nat.le_of_ble_eq_true rfl) (fun v w' h => Or.inr (Or.inl ⟨_, _, rfl, h.1, rfl⟩)) ?_
  intro x G kr0
  have kr := kr0 _ _ ⟨rfl, rfl⟩
  have G : jG x l D Y cX3_bestPlot RX3 wsX3_bestPlot 5 ({ frames := 5, cells := 0, slots := 0, locals := 117 } : Room) (some .int) "bestPlot" := G
  show J x 0 0 (wZ Y h q z ++ (pT Y h2 q2 t)) 0 [(0, .ref h), (1, .ref h2), (2, .int (jI k))] []
  refine j_bipush G dX3_bestPlot_0 (v := (-5)) rfl ?_
  refine j_istore_n (lv' := [(3, .int (jI (-5))), (0, .ref h), (1, .ref h2), (2, .int (jI k))]) G dX3_bestPlot_2 (by decide) rfl ?_
  refine j_iconst G dX3_bestPlot_3 (v := 0) rfl ?_
  refine j_istore (lv' := [(4, .int (jI 0)), (3, .int (jI (-5))), (0, .ref h), (1, .ref h2), (2, .int (jI k))]) G dX3_bestPlot_4 (by decide) rfl ?_
  have lp6 : ∀ (n_ : Nat) (i : Int) (s : Int), (0 ≤ i ∧ i ≤ 64) → (s = -5 ∨ 0 ≤ s ∧ s < 64) → (s = zBest z t k i.toNat) → (64 - i) < (n_ : Int) → J x 0 0 (wZ Y h q z ++ (pT Y h2 q2 t)) 6 [(0, .ref h), (1, .ref h2), (2, .int (jI k)), (3, .int (jI s)), (4, .int (jI i))] [] := by
    intro n_
    induction n_ with
    | zero =>
      intro i s hi hb hs hm_
      exact absurd hm_ (by omega)
    | succ n_ ih6 =>
      intro i s hi hb hs hm_
      refine j_iload G 4 dX3_bestPlot_6 rfl ?_
      refine j_bipush G dX3_bestPlot_8 (v := 64) rfl ?_
      refine j_icmp_ge (tgt := 50) G dX3_bestPlot_10 (by decide) (by omega) (by omega) (fun c10 => ?_) (fun c10 => ?_)
      · refine j_iload_n G 3 dX3_bestPlot_50 rfl ?_
        exact j_reti G dX3_bestPlot_51 (by rw [hs, show i = 64 by omega]; rfl) (jLe.rf _) kr
      · refine j_aload_n G 0 dX3_bestPlot_13 rfl ?_
        refine j_iload_n G 2 dX3_bestPlot_14 rfl ?_
        refine j_iload G 4 dX3_bestPlot_15 rfl ?_
        refine j_callV (nA := 2) (As := [.int (jI k), .int (jI i)]) (st := []) (wc := (wZ Y h q z)) (wr := (pT Y h2 q2 t)) G (c_X3_whyNot l D Y h q z k i (by first | assumption | omega) (by first | assumption | omega) (by first | assumption | omega)) dX3_bestPlot_17 rfl gX3_bestPlot_X3_whyNot rfl rfl rfl (by decide +kernel) ⟨by decide, by decide⟩ rfl 0 rfl rfl rfl (jLe.rf _) (Nat.le_of_ble_eq_true rfl) ⟨Nat.zero_le _, Nat.zero_le _⟩ (fun v_ w_ hp_ => ?_)
        obtain ⟨rfl, rfl⟩ := hp_
        show J x 0 0 (wZ Y h q z ++ (pT Y h2 q2 t)) 20 [(0, .ref h), (1, .ref h2), (2, .int (jI k)), (3, .int (jI s)), (4, .int (jI i))] [.int (jI (F_why z k i))]
        have f20 : 0 ≤ F_why z k i ∧ F_why z k i ≤ 3 := by unfold F_why; (repeat' split) <;> omega
        refine j_if_ne (tgt := 44) G dX3_bestPlot_20 (by decide) (by omega) (fun c20 => ?_) (fun c20 => ?_)
        · refine j_iinc (w := i + 1) (lv' := [(4, .int (jI (i + 1))), (0, .ref h), (1, .ref h2), (2, .int (jI k)), (3, .int (jI s))]) G 4 dX3_bestPlot_44 rfl rfl (by decide) rfl ?_
          refine j_goto (tgt := 6) G dX3_bestPlot_47 (by decide) ?_
          refine j_lv [1, 2, 3, 4, 0] (lv' := [(0, .ref h), (1, .ref h2), (2, .int (jI k)), (3, .int (jI s)), (4, .int (jI (i + 1)))]) rfl ?_
          exact ih6 (i + 1) s (by omega) (by omega) (by rw [zBest_S hi.1, ← hs]; split <;> first | rfl | omega) (by omega)
        · refine j_iload_n G 3 dX3_bestPlot_23 rfl ?_
          refine j_bipush G dX3_bestPlot_24 (v := (-5)) rfl ?_
          refine j_icmp_eq (tgt := 41) G dX3_bestPlot_26 (by decide) (by omega) (by omega) (fun c26 => ?_) (fun c26 => ?_)
          · refine j_iload G 4 dX3_bestPlot_41 rfl ?_
            refine j_istore_n (lv' := [(3, .int (jI i)), (0, .ref h), (1, .ref h2), (2, .int (jI k)), (4, .int (jI i))]) G dX3_bestPlot_43 (by decide) rfl ?_
            refine j_iinc (w := i + 1) (lv' := [(4, .int (jI (i + 1))), (3, .int (jI i)), (0, .ref h), (1, .ref h2), (2, .int (jI k))]) G 4 dX3_bestPlot_44 rfl rfl (by decide) rfl ?_
            refine j_goto (tgt := 6) G dX3_bestPlot_47 (by decide) ?_
            refine j_lv [2, 3, 4, 1, 0] (lv' := [(0, .ref h), (1, .ref h2), (2, .int (jI k)), (3, .int (jI i)), (4, .int (jI (i + 1)))]) rfl ?_
            exact ih6 (i + 1) i (by omega) (by omega) (by rw [zBest_S hi.1, ← hs]; split <;> first | rfl | omega) (by omega)
          · refine j_aload_n G 0 dX3_bestPlot_29 rfl ?_
            refine j_aload_n G 1 dX3_bestPlot_30 rfl ?_
            refine j_iload_n G 2 dX3_bestPlot_31 rfl ?_
            refine j_iload G 4 dX3_bestPlot_32 rfl ?_
            refine j_iload_n G 3 dX3_bestPlot_34 rfl ?_
            refine j_callV (nA := 4) (As := [.ref h2, .int (jI k), .int (jI i), .int (jI s)]) (st := []) (wc := (wZ Y h q z ++ (pT Y h2 q2 t))) (wr := []) G (c_X3_isBetter l D Y h q z h2 q2 t k i s (by first | assumption | omega) (by first | assumption | omega) (by first | assumption | omega) (by first | assumption | omega) (by first | assumption | omega)) dX3_bestPlot_35 rfl gX3_bestPlot_X3_isBetter rfl rfl rfl (by decide +kernel) ⟨by decide, by decide⟩ rfl 0 rfl rfl rfl (jLe.nil (jLe.rf _)) (Nat.le_of_ble_eq_true rfl) ⟨Nat.zero_le _, Nat.zero_le _⟩ (fun v_ w_ hp_ => ?_)
            obtain ⟨rfl, rfl⟩ := hp_
            show J x 0 0 (wZ Y h q z ++ (pT Y h2 q2 t)) 38 [(0, .ref h), (1, .ref h2), (2, .int (jI k)), (3, .int (jI s)), (4, .int (jI i))] [.int (jI (if zLo z t s < zLo z t i ∨ (zLo z t i = zLo z t s ∧ (z (28 + s) < z (28 + i) ∨ (z (28 + i) = z (28 + s) ∧ zWay z k i < zWay z k s))) then 1 else 0))]
            refine j_ifz_eq (tgt := 44) G dX3_bestPlot_38 (by decide) (fun c38 => ?_) (fun c38 => ?_)
            · refine j_iinc (w := i + 1) (lv' := [(4, .int (jI (i + 1))), (0, .ref h), (1, .ref h2), (2, .int (jI k)), (3, .int (jI s))]) G 4 dX3_bestPlot_44 rfl rfl (by decide) rfl ?_
              refine j_goto (tgt := 6) G dX3_bestPlot_47 (by decide) ?_
              refine j_lv [1, 2, 3, 4, 0] (lv' := [(0, .ref h), (1, .ref h2), (2, .int (jI k)), (3, .int (jI s)), (4, .int (jI (i + 1)))]) rfl ?_
              exact ih6 (i + 1) s (by omega) (by omega) (by rw [zBest_S hi.1, ← hs]; split <;> first | rfl | omega) (by omega)
            · refine j_iload G 4 dX3_bestPlot_41 rfl ?_
              refine j_istore_n (lv' := [(3, .int (jI i)), (0, .ref h), (1, .ref h2), (2, .int (jI k)), (4, .int (jI i))]) G dX3_bestPlot_43 (by decide) rfl ?_
              refine j_iinc (w := i + 1) (lv' := [(4, .int (jI (i + 1))), (3, .int (jI i)), (0, .ref h), (1, .ref h2), (2, .int (jI k))]) G 4 dX3_bestPlot_44 rfl rfl (by decide) rfl ?_
              refine j_goto (tgt := 6) G dX3_bestPlot_47 (by decide) ?_
              refine j_lv [2, 3, 4, 1, 0] (lv' := [(0, .ref h), (1, .ref h2), (2, .int (jI k)), (3, .int (jI i)), (4, .int (jI (i + 1)))]) rfl ?_
              exact ih6 (i + 1) i (by omega) (by omega) (by rw [zBest_S hi.1, ← hs]; split <;> first | rfl | omega) (by omega)
  refine j_lv [2, 3, 4, 1, 0] (lv' := [(0, .ref h), (1, .ref h2), (2, .int (jI k)), (3, .int (jI (-5))), (4, .int (jI 0))]) rfl ?_
  exact lp6 (Int.toNat ((64 - 0) + 1)) 0 (-5) (by omega) (by omega) (by rfl) (by omega)

set_option maxHeartbeats 4000000 in
set_option maxRecDepth 100000 in
theorem c_X3_worthOfAll (l : Launch) (D : va_G) (Y : Nat → ClassId) (h : Nat) (q : Nat → Nat) (z : Int → Int) (hI : Inv z) : jM l yX3_worthOfAll wsX3_worthOfAll { frames := 0, cells := 0, slots := 0, locals := 0 } D Y [.ref h] (wZ Y h q z) (fun v_ w_ => v_ = some (.int (jI (sumI 64 (fun p => z (28 + p))))) ∧ w_ = (wZ Y h q z)) 0 0 := by
  refine jM_of (cc := cX3_worthOfAll) (maxL := 3) (ret := (some .int)) (by decide) rfl (Nat.le_of_ble_eq_true rfl) (fun v w' h => Or.inr (Or.inl ⟨_, _, rfl, h.1, rfl⟩)) ?_
  intro x G kr0
  have kr := kr0 _ _ ⟨rfl, rfl⟩
  have G : jG x l D Y cX3_worthOfAll RX3 wsX3_worthOfAll 3 ({ frames := 0, cells := 0, slots := 0, locals := 0 } : Room) (some .int) "worthOfAll" := G
  have hinX3 : ∀ w ∈ wsX30, w ∈ wsX3_worthOfAll := fun _ h => List.mem_cons_of_mem _ (List.mem_append_right _ h)
  show J x 0 0 (wZ Y h q z) 0 [(0, .ref h)] []
  refine j_iconst G dX3_worthOfAll_0 (v := 0) rfl ?_
  refine j_istore_n (lv' := [(1, .int (jI 0)), (0, .ref h)]) G dX3_worthOfAll_1 (by decide) rfl ?_
  refine j_iconst G dX3_worthOfAll_2 (v := 0) rfl ?_
  refine j_istore_n (lv' := [(2, .int (jI 0)), (1, .int (jI 0)), (0, .ref h)]) G dX3_worthOfAll_3 (by decide) rfl ?_
  have lp4 : ∀ (n_ : Nat) (i : Int) (s : Int), (0 ≤ i ∧ i ≤ 64) → (s = sumI i.toNat (fun p => z (28 + p))) → (64 - i) < (n_ : Int) → J x 0 0 (wZ Y h q z) 4 [(0, .ref h), (1, .int (jI s)), (2, .int (jI i))] [] := by
    intro n_
    induction n_ with
    | zero =>
      intro i s hi hs hm_
      exact absurd hm_ (by omega)
    | succ n_ ih4 =>
      intro i s hi hs hm_
      refine j_iload_n G 2 dX3_worthOfAll_4 rfl ?_
      refine j_bipush G dX3_worthOfAll_5 (v := 64) rfl ?_
      refine j_icmp_ge (tgt := 25) G dX3_worthOfAll_7 (by decide) (by omega) (by omega) (fun c7 => ?_) (fun c7 => ?_)
      · refine j_iload_n G 1 dX3_worthOfAll_25 rfl ?_
        exact j_reti G dX3_worthOfAll_26 (by rw [hs, show i = 64 by omega]; rfl) (jLe.rf _) kr
      · refine j_iload_n G 1 dX3_worthOfAll_10 rfl ?_
        refine j_aload_n G 0 dX3_worthOfAll_11 rfl ?_
        refine j_get (q := 0) (C := RX3) (T := TX3) (N := 13) (v := .ref (q 0)) G 0 hinX3 dX3_worthOfAll_12 rfl rfl (by decide) (by decide +kernel) rfl ?_
        refine j_iload_n G 2 dX3_worthOfAll_15 rfl ?_
        refine j_iald (v := z (28 + i)) G 1 dX3_worthOfAll_16 rfl (by omega) rfl ?_
        refine j_iadd G dX3_worthOfAll_17 ?_
        refine j_istore_n (lv' := [(1, .int (jI (s + (z (28 + i))))), (0, .ref h), (2, .int (jI i))]) G dX3_worthOfAll_18 (by decide) rfl ?_
        refine j_iinc (w := i + 1) (lv' := [(2, .int (jI (i + 1))), (1, .int (jI (s + (z (28 + i))))), (0, .ref h)]) G 2 dX3_worthOfAll_19 rfl rfl (by decide) rfl ?_
        refine j_goto (tgt := 4) G dX3_worthOfAll_22 (by decide) ?_
        refine j_lv [2, 1, 0] (lv' := [(0, .ref h), (1, .int (jI (s + (z (28 + i))))), (2, .int (jI (i + 1)))]) rfl ?_
        exact ih4 (i + 1) (s + (z (28 + i))) (by omega) (by rw [sumI_S hi.1, hs]; first | done | rfl | rw [if_pos (by omega)] | (rw [if_neg (by omega)]; omega)) (by omega)
  refine j_lv [2, 1, 0] (lv' := [(0, .ref h), (1, .int (jI 0)), (2, .int (jI 0))]) rfl ?_
  exact lp4 (Int.toNat ((64 - 0) + 1)) 0 0 (by omega) (by rfl) (by omega)

set_option maxHeartbeats 4000000 in
set_option maxRecDepth 100000 in
theorem c_X3_endangeredPlots (l : Launch) (D : va_G) (Y : Nat → ClassId) (h : Nat) (q : Nat → Nat) (z : Int → Int) (h2 : Nat) (q2 : Nat → Nat) (t : Int → Int) (hI : Inv z) : jM l yX3_endangeredPlots wsX3_endangeredPlots { frames := 4, cells := 0, slots := 0, locals := 92 } D Y [.ref h, .ref h2] (wZ Y h q z ++ (pT Y h2 q2 t)) (fun v_ w_ => v_ = some (.int (jI (sumI 64 (fun p => if 0 < zHi z t p then 1 else 0)))) ∧ w_ = (wZ Y h q z ++ (pT Y h2 q2 t))) 0 0 := by
  refine jM_of (cc := cX3_endangeredPlots) (maxL := 4) (ret := (some .int)) (by decide) rfl (Nat.le_of_ble_eq_true rfl) (fun v w' h => Or.inr (Or.inl ⟨_, _, rfl, h.1, rfl⟩)) ?_
  intro x G kr0
  have kr := kr0 _ _ ⟨rfl, rfl⟩
  have G : jG x l D Y cX3_endangeredPlots RX3 wsX3_endangeredPlots 4 ({ frames := 4, cells := 0, slots := 0, locals := 92 } : Room) (some .int) "endangeredPlots" := G
  show J x 0 0 (wZ Y h q z ++ (pT Y h2 q2 t)) 0 [(0, .ref h), (1, .ref h2)] []
  refine j_iconst G dX3_endangeredPlots_0 (v := 0) rfl ?_
  refine j_istore_n (lv' := [(2, .int (jI 0)), (0, .ref h), (1, .ref h2)]) G dX3_endangeredPlots_1 (by decide) rfl ?_
  refine j_iconst G dX3_endangeredPlots_2 (v := 0) rfl ?_
  refine j_istore_n (lv' := [(3, .int (jI 0)), (2, .int (jI 0)), (0, .ref h), (1, .ref h2)]) G dX3_endangeredPlots_3 (by decide) rfl ?_
  have lp4 : ∀ (n_ : Nat) (i : Int) (s : Int), (0 ≤ i ∧ i ≤ 64) → (s = sumI i.toNat (fun p => if 0 < zHi z t p then 1 else 0)) → (64 - i) < (n_ : Int) → J x 0 0 (wZ Y h q z ++ (pT Y h2 q2 t)) 4 [(0, .ref h), (1, .ref h2), (2, .int (jI s)), (3, .int (jI i))] [] := by
    intro n_
    induction n_ with
    | zero =>
      intro i s hi hs hm_
      exact absurd hm_ (by omega)
    | succ n_ ih4 =>
      intro i s hi hs hm_
      refine j_iload_n G 3 dX3_endangeredPlots_4 rfl ?_
      refine j_bipush G dX3_endangeredPlots_5 (v := 64) rfl ?_
      refine j_icmp_ge (tgt := 28) G dX3_endangeredPlots_7 (by decide) (by omega) (by omega) (fun c7 => ?_) (fun c7 => ?_)
      · refine j_iload_n G 2 dX3_endangeredPlots_28 rfl ?_
        exact j_reti G dX3_endangeredPlots_29 (by rw [hs, show i = 64 by omega]; rfl) (jLe.rf _) kr
      · refine j_aload_n G 0 dX3_endangeredPlots_10 rfl ?_
        refine j_aload_n G 1 dX3_endangeredPlots_11 rfl ?_
        refine j_iload_n G 3 dX3_endangeredPlots_12 rfl ?_
        refine j_callV (nA := 2) (As := [.ref h2, .int (jI i)]) (st := []) (wc := (wZ Y h q z ++ (pT Y h2 q2 t))) (wr := []) G (c_X3_isEndangeredZ l D Y h q z h2 q2 t i (by first | assumption | exact hI.s1) (by first | assumption | omega)) dX3_endangeredPlots_13 rfl gX3_endangeredPlots_X3_isEndangered rfl rfl rfl (by decide +kernel) ⟨by decide, by decide⟩ rfl 0 rfl rfl rfl (jLe.nil (jLe.rf _)) (Nat.le_of_ble_eq_true rfl) ⟨Nat.zero_le _, Nat.zero_le _⟩ (fun v_ w_ hp_ => ?_)
        obtain ⟨rfl, rfl⟩ := hp_
        show J x 0 0 (wZ Y h q z ++ (pT Y h2 q2 t)) 16 [(0, .ref h), (1, .ref h2), (2, .int (jI s)), (3, .int (jI i))] [.int (jI (if 0 < zHi z t i then 1 else 0))]
        refine j_ifz_eq (tgt := 22) G dX3_endangeredPlots_16 (by decide) (fun c16 => ?_) (fun c16 => ?_)
        · refine j_iinc (w := i + 1) (lv' := [(3, .int (jI (i + 1))), (0, .ref h), (1, .ref h2), (2, .int (jI s))]) G 3 dX3_endangeredPlots_22 rfl rfl (by decide) rfl ?_
          refine j_goto (tgt := 4) G dX3_endangeredPlots_25 (by decide) ?_
          refine j_lv [1, 2, 3, 0] (lv' := [(0, .ref h), (1, .ref h2), (2, .int (jI s)), (3, .int (jI (i + 1)))]) rfl ?_
          exact ih4 (i + 1) s (by omega) (by rw [sumI_S hi.1, hs]; first | done | rfl | rw [if_pos (by omega)] | (rw [if_neg (by omega)]; omega)) (by omega)
        · refine j_iinc (w := s + 1) (lv' := [(2, .int (jI (s + 1))), (0, .ref h), (1, .ref h2), (3, .int (jI i))]) G 2 dX3_endangeredPlots_19 rfl rfl (by decide) rfl ?_
          refine j_iinc (w := i + 1) (lv' := [(3, .int (jI (i + 1))), (2, .int (jI (s + 1))), (0, .ref h), (1, .ref h2)]) G 3 dX3_endangeredPlots_22 rfl rfl (by decide) rfl ?_
          refine j_goto (tgt := 4) G dX3_endangeredPlots_25 (by decide) ?_
          refine j_lv [2, 3, 1, 0] (lv' := [(0, .ref h), (1, .ref h2), (2, .int (jI (s + 1))), (3, .int (jI (i + 1)))]) rfl ?_
          exact ih4 (i + 1) (s + 1) (by omega) (by rw [sumI_S hi.1, hs]; first | done | rfl | rw [if_pos (by omega)] | (rw [if_neg (by omega)]; omega)) (by omega)
  refine j_lv [2, 3, 1, 0] (lv' := [(0, .ref h), (1, .ref h2), (2, .int (jI 0)), (3, .int (jI 0))]) rfl ?_
  exact lp4 (Int.toNat ((64 - 0) + 1)) 0 0 (by omega) (by rfl) (by omega)

set_option maxHeartbeats 4000000 in
set_option maxRecDepth 100000 in
theorem c_X3_doomedPlots (l : Launch) (D : va_G) (Y : Nat → ClassId) (h : Nat) (q : Nat → Nat) (z : Int → Int) (h2 : Nat) (q2 : Nat → Nat) (t : Int → Int) (hI : Inv z) : jM l yX3_doomedPlots wsX3_doomedPlots { frames := 4, cells := 0, slots := 0, locals := 92 } D Y [.ref h, .ref h2] (wZ Y h q z ++ (pT Y h2 q2 t)) (fun v_ w_ => v_ = some (.int (jI (sumI 64 (fun p => if zHi z t p = pAll t then 1 else 0)))) ∧ w_ = (wZ Y h q z ++ (pT Y h2 q2 t))) 0 0 := by
  refine jM_of (cc := cX3_doomedPlots) (maxL := 4) (ret := (some .int)) (by decide) rfl (Nat.le_of_ble_eq_true rfl) (fun v w' h => Or.inr (Or.inl ⟨_, _, rfl, h.1, rfl⟩)) ?_
  intro x G kr0
  have kr := kr0 _ _ ⟨rfl, rfl⟩
  have G : jG x l D Y cX3_doomedPlots RX3 wsX3_doomedPlots 4 ({ frames := 4, cells := 0, slots := 0, locals := 92 } : Room) (some .int) "doomedPlots" := G
  show J x 0 0 (wZ Y h q z ++ (pT Y h2 q2 t)) 0 [(0, .ref h), (1, .ref h2)] []
  refine j_iconst G dX3_doomedPlots_0 (v := 0) rfl ?_
  refine j_istore_n (lv' := [(2, .int (jI 0)), (0, .ref h), (1, .ref h2)]) G dX3_doomedPlots_1 (by decide) rfl ?_
  refine j_iconst G dX3_doomedPlots_2 (v := 0) rfl ?_
  refine j_istore_n (lv' := [(3, .int (jI 0)), (2, .int (jI 0)), (0, .ref h), (1, .ref h2)]) G dX3_doomedPlots_3 (by decide) rfl ?_
  have lp4 : ∀ (n_ : Nat) (i : Int) (s : Int), (0 ≤ i ∧ i ≤ 64) → (s = sumI i.toNat (fun p => if zHi z t p = pAll t then 1 else 0)) → (64 - i) < (n_ : Int) → J x 0 0 (wZ Y h q z ++ (pT Y h2 q2 t)) 4 [(0, .ref h), (1, .ref h2), (2, .int (jI s)), (3, .int (jI i))] [] := by
    intro n_
    induction n_ with
    | zero =>
      intro i s hi hs hm_
      exact absurd hm_ (by omega)
    | succ n_ ih4 =>
      intro i s hi hs hm_
      refine j_iload_n G 3 dX3_doomedPlots_4 rfl ?_
      refine j_bipush G dX3_doomedPlots_5 (v := 64) rfl ?_
      refine j_icmp_ge (tgt := 28) G dX3_doomedPlots_7 (by decide) (by omega) (by omega) (fun c7 => ?_) (fun c7 => ?_)
      · refine j_iload_n G 2 dX3_doomedPlots_28 rfl ?_
        exact j_reti G dX3_doomedPlots_29 (by rw [hs, show i = 64 by omega]; rfl) (jLe.rf _) kr
      · refine j_aload_n G 0 dX3_doomedPlots_10 rfl ?_
        refine j_aload_n G 1 dX3_doomedPlots_11 rfl ?_
        refine j_iload_n G 3 dX3_doomedPlots_12 rfl ?_
        refine j_callV (nA := 2) (As := [.ref h2, .int (jI i)]) (st := []) (wc := (wZ Y h q z ++ (pT Y h2 q2 t))) (wr := []) G (c_X3_isDoomedZ l D Y h q z h2 q2 t i (by first | assumption | exact hI.s1) (by first | assumption | omega)) dX3_doomedPlots_13 rfl gX3_doomedPlots_X3_isDoomed rfl rfl rfl (by decide +kernel) ⟨by decide, by decide⟩ rfl 0 rfl rfl rfl (jLe.nil (jLe.rf _)) (Nat.le_of_ble_eq_true rfl) ⟨Nat.zero_le _, Nat.zero_le _⟩ (fun v_ w_ hp_ => ?_)
        obtain ⟨rfl, rfl⟩ := hp_
        show J x 0 0 (wZ Y h q z ++ (pT Y h2 q2 t)) 16 [(0, .ref h), (1, .ref h2), (2, .int (jI s)), (3, .int (jI i))] [.int (jI (if zHi z t i = pAll t then 1 else 0))]
        refine j_ifz_eq (tgt := 22) G dX3_doomedPlots_16 (by decide) (fun c16 => ?_) (fun c16 => ?_)
        · refine j_iinc (w := i + 1) (lv' := [(3, .int (jI (i + 1))), (0, .ref h), (1, .ref h2), (2, .int (jI s))]) G 3 dX3_doomedPlots_22 rfl rfl (by decide) rfl ?_
          refine j_goto (tgt := 4) G dX3_doomedPlots_25 (by decide) ?_
          refine j_lv [1, 2, 3, 0] (lv' := [(0, .ref h), (1, .ref h2), (2, .int (jI s)), (3, .int (jI (i + 1)))]) rfl ?_
          exact ih4 (i + 1) s (by omega) (by rw [sumI_S hi.1, hs]; first | done | rfl | rw [if_pos (by omega)] | (rw [if_neg (by omega)]; omega)) (by omega)
        · refine j_iinc (w := s + 1) (lv' := [(2, .int (jI (s + 1))), (0, .ref h), (1, .ref h2), (3, .int (jI i))]) G 2 dX3_doomedPlots_19 rfl rfl (by decide) rfl ?_
          refine j_iinc (w := i + 1) (lv' := [(3, .int (jI (i + 1))), (2, .int (jI (s + 1))), (0, .ref h), (1, .ref h2)]) G 3 dX3_doomedPlots_22 rfl rfl (by decide) rfl ?_
          refine j_goto (tgt := 4) G dX3_doomedPlots_25 (by decide) ?_
          refine j_lv [2, 3, 1, 0] (lv' := [(0, .ref h), (1, .ref h2), (2, .int (jI (s + 1))), (3, .int (jI (i + 1)))]) rfl ?_
          exact ih4 (i + 1) (s + 1) (by omega) (by rw [sumI_S hi.1, hs]; first | done | rfl | rw [if_pos (by omega)] | (rw [if_neg (by omega)]; omega)) (by omega)
  refine j_lv [2, 3, 1, 0] (lv' := [(0, .ref h), (1, .ref h2), (2, .int (jI 0)), (3, .int (jI 0))]) rfl ?_
  exact lp4 (Int.toNat ((64 - 0) + 1)) 0 0 (by omega) (by rfl) (by omega)

set_option maxHeartbeats 4000000 in
set_option maxRecDepth 100000 in
theorem c_X3_allStandToLose (l : Launch) (D : va_G) (Y : Nat → ClassId) (h : Nat) (q : Nat → Nat) (z : Int → Int) (h2 : Nat) (q2 : Nat → Nat) (t : Int → Int) (hI : Inv z) (ha : 1 ≤ pAll t) : jM l yX3_allStandToLose wsX3_allStandToLose { frames := 4, cells := 0, slots := 0, locals := 92 } D Y [.ref h, .ref h2] (wZ Y h q z ++ (pT Y h2 q2 t)) (fun v_ w_ => v_ = some (.int (jI (sumI 64 (fun p => zLo z t p)))) ∧ w_ = (wZ Y h q z ++ (pT Y h2 q2 t))) 0 0 := by
  refine jM_of (cc := cX3_allStandToLose) (maxL := 4) (ret := (some .int)) (by decide) rfl (Nat.le_of_ble_eq_true rfl) (fun v w' h => Or.inr (Or.inl ⟨_, _, rfl, h.1, rfl⟩)) ?_
  intro x G kr0
  have kr := kr0 _ _ ⟨rfl, rfl⟩
  have G : jG x l D Y cX3_allStandToLose RX3 wsX3_allStandToLose 4 ({ frames := 4, cells := 0, slots := 0, locals := 92 } : Room) (some .int) "allStandToLose" := G
  show J x 0 0 (wZ Y h q z ++ (pT Y h2 q2 t)) 0 [(0, .ref h), (1, .ref h2)] []
  refine j_iconst G dX3_allStandToLose_0 (v := 0) rfl ?_
  refine j_istore_n (lv' := [(2, .int (jI 0)), (0, .ref h), (1, .ref h2)]) G dX3_allStandToLose_1 (by decide) rfl ?_
  refine j_iconst G dX3_allStandToLose_2 (v := 0) rfl ?_
  refine j_istore_n (lv' := [(3, .int (jI 0)), (2, .int (jI 0)), (0, .ref h), (1, .ref h2)]) G dX3_allStandToLose_3 (by decide) rfl ?_
  have lp4 : ∀ (n_ : Nat) (i : Int) (s : Int), (0 ≤ i ∧ i ≤ 64) → (s = sumI i.toNat (fun p => zLo z t p)) → (64 - i) < (n_ : Int) → J x 0 0 (wZ Y h q z ++ (pT Y h2 q2 t)) 4 [(0, .ref h), (1, .ref h2), (2, .int (jI s)), (3, .int (jI i))] [] := by
    intro n_
    induction n_ with
    | zero =>
      intro i s hi hs hm_
      exact absurd hm_ (by omega)
    | succ n_ ih4 =>
      intro i s hi hs hm_
      refine j_iload_n G 3 dX3_allStandToLose_4 rfl ?_
      refine j_bipush G dX3_allStandToLose_5 (v := 64) rfl ?_
      refine j_icmp_ge (tgt := 25) G dX3_allStandToLose_7 (by decide) (by omega) (by omega) (fun c7 => ?_) (fun c7 => ?_)
      · refine j_iload_n G 2 dX3_allStandToLose_25 rfl ?_
        exact j_reti G dX3_allStandToLose_26 (by rw [hs, show i = 64 by omega]; rfl) (jLe.rf _) kr
      · refine j_iload_n G 2 dX3_allStandToLose_10 rfl ?_
        refine j_aload_n G 0 dX3_allStandToLose_11 rfl ?_
        refine j_aload_n G 1 dX3_allStandToLose_12 rfl ?_
        refine j_iload_n G 3 dX3_allStandToLose_13 rfl ?_
        refine j_callV (nA := 2) (As := [.ref h2, .int (jI i)]) (st := [.int (jI s)]) (wc := (wZ Y h q z ++ (pT Y h2 q2 t))) (wr := []) G (c_X3_standsToLose l D Y h q z h2 q2 t i (by first | assumption | omega) (by first | assumption | omega) (by first | assumption | omega)) dX3_allStandToLose_14 rfl gX3_allStandToLose_X3_standsToLose rfl rfl rfl (by decide +kernel) ⟨by decide, by decide⟩ rfl 0 rfl rfl rfl (jLe.nil (jLe.rf _)) (Nat.le_of_ble_eq_true rfl) ⟨Nat.zero_le _, Nat.zero_le _⟩ (fun v_ w_ hp_ => ?_)
        obtain ⟨rfl, rfl⟩ := hp_
        show J x 0 0 (wZ Y h q z ++ (pT Y h2 q2 t)) 17 [(0, .ref h), (1, .ref h2), (2, .int (jI s)), (3, .int (jI i))] [.int (jI (zLo z t i)), .int (jI s)]
        refine j_iadd G dX3_allStandToLose_17 ?_
        refine j_istore_n (lv' := [(2, .int (jI (s + (zLo z t i)))), (0, .ref h), (1, .ref h2), (3, .int (jI i))]) G dX3_allStandToLose_18 (by decide) rfl ?_
        refine j_iinc (w := i + 1) (lv' := [(3, .int (jI (i + 1))), (2, .int (jI (s + (zLo z t i)))), (0, .ref h), (1, .ref h2)]) G 3 dX3_allStandToLose_19 rfl rfl (by decide) rfl ?_
        refine j_goto (tgt := 4) G dX3_allStandToLose_22 (by decide) ?_
        refine j_lv [2, 3, 1, 0] (lv' := [(0, .ref h), (1, .ref h2), (2, .int (jI (s + (zLo z t i)))), (3, .int (jI (i + 1)))]) rfl ?_
        exact ih4 (i + 1) (s + (zLo z t i)) (by omega) (by rw [sumI_S hi.1, hs]; first | done | rfl | rw [if_pos (by omega)] | (rw [if_neg (by omega)]; omega)) (by omega)
  refine j_lv [2, 3, 1, 0] (lv' := [(0, .ref h), (1, .ref h2), (2, .int (jI 0)), (3, .int (jI 0))]) rfl ?_
  exact lp4 (Int.toNat ((64 - 0) + 1)) 0 0 (by omega) (by rfl) (by omega)

set_option maxHeartbeats 4000000 in
set_option maxRecDepth 100000 in
theorem c_X3_felledPlots (l : Launch) (D : va_G) (Y : Nat → ClassId) (h : Nat) (q : Nat → Nat) (z : Int → Int) (hI : Inv z) : jM l yX3_felledPlots wsX3_felledPlots { frames := 0, cells := 0, slots := 0, locals := 0 } D Y [.ref h] (wZ Y h q z) (fun v_ w_ => v_ = some (.int (jI (sumI 64 (fun p => if ¬ z (156 + p) = 0 then 1 else 0)))) ∧ w_ = (wZ Y h q z)) 0 0 := by
  refine jM_of (cc := cX3_felledPlots) (maxL := 3) (ret := (some .int)) (by decide) rfl (Nat.le_of_ble_eq_true rfl) (fun v w' h => Or.inr (Or.inl ⟨_, _, rfl, h.1, rfl⟩)) ?_
  intro x G kr0
  have kr := kr0 _ _ ⟨rfl, rfl⟩
  have G : jG x l D Y cX3_felledPlots RX3 wsX3_felledPlots 3 ({ frames := 0, cells := 0, slots := 0, locals := 0 } : Room) (some .int) "felledPlots" := G
  have hinX3 : ∀ w ∈ wsX30, w ∈ wsX3_felledPlots := fun _ h => List.mem_cons_of_mem _ (List.mem_append_right _ h)
  show J x 0 0 (wZ Y h q z) 0 [(0, .ref h)] []
  refine j_iconst G dX3_felledPlots_0 (v := 0) rfl ?_
  refine j_istore_n (lv' := [(1, .int (jI 0)), (0, .ref h)]) G dX3_felledPlots_1 (by decide) rfl ?_
  refine j_iconst G dX3_felledPlots_2 (v := 0) rfl ?_
  refine j_istore_n (lv' := [(2, .int (jI 0)), (1, .int (jI 0)), (0, .ref h)]) G dX3_felledPlots_3 (by decide) rfl ?_
  have lp4 : ∀ (n_ : Nat) (i : Int) (s : Int), (0 ≤ i ∧ i ≤ 64) → (s = sumI i.toNat (fun p => if ¬ z (156 + p) = 0 then 1 else 0)) → (64 - i) < (n_ : Int) → J x 0 0 (wZ Y h q z) 4 [(0, .ref h), (1, .int (jI s)), (2, .int (jI i))] [] := by
    intro n_
    induction n_ with
    | zero =>
      intro i s hi hs hm_
      exact absurd hm_ (by omega)
    | succ n_ ih4 =>
      intro i s hi hs hm_
      refine j_iload_n G 2 dX3_felledPlots_4 rfl ?_
      refine j_bipush G dX3_felledPlots_5 (v := 64) rfl ?_
      refine j_icmp_ge (tgt := 28) G dX3_felledPlots_7 (by decide) (by omega) (by omega) (fun c7 => ?_) (fun c7 => ?_)
      · refine j_iload_n G 1 dX3_felledPlots_28 rfl ?_
        exact j_reti G dX3_felledPlots_29 (by rw [hs, show i = 64 by omega]; rfl) (jLe.rf _) kr
      · refine j_aload_n G 0 dX3_felledPlots_10 rfl ?_
        refine j_get (q := 1) (C := RX3) (T := TX3) (N := 13) (v := .ref (q 1)) G 0 hinX3 dX3_felledPlots_11 rfl rfl (by decide) (by decide +kernel) rfl ?_
        refine j_iload_n G 2 dX3_felledPlots_14 rfl ?_
        refine j_zald (v := z (156 + i)) G 2 dX3_felledPlots_15 rfl (by omega) rfl ?_
        have f16 := hI.fe i (by omega) (by omega)
        refine j_if_eq (tgt := 22) G dX3_felledPlots_16 (by decide) (by omega) (fun c16 => ?_) (fun c16 => ?_)
        · refine j_iinc (w := i + 1) (lv' := [(2, .int (jI (i + 1))), (0, .ref h), (1, .int (jI s))]) G 2 dX3_felledPlots_22 rfl rfl (by decide) rfl ?_
          refine j_goto (tgt := 4) G dX3_felledPlots_25 (by decide) ?_
          refine j_lv [1, 2, 0] (lv' := [(0, .ref h), (1, .int (jI s)), (2, .int (jI (i + 1)))]) rfl ?_
          exact ih4 (i + 1) s (by omega) (by rw [sumI_S hi.1, hs]; first | done | rfl | rw [if_pos (by omega)] | (rw [if_neg (by omega)]; omega)) (by omega)
        · refine j_iinc (w := s + 1) (lv' := [(1, .int (jI (s + 1))), (0, .ref h), (2, .int (jI i))]) G 1 dX3_felledPlots_19 rfl rfl (by decide) rfl ?_
          refine j_iinc (w := i + 1) (lv' := [(2, .int (jI (i + 1))), (1, .int (jI (s + 1))), (0, .ref h)]) G 2 dX3_felledPlots_22 rfl rfl (by decide) rfl ?_
          refine j_goto (tgt := 4) G dX3_felledPlots_25 (by decide) ?_
          refine j_lv [2, 1, 0] (lv' := [(0, .ref h), (1, .int (jI (s + 1))), (2, .int (jI (i + 1)))]) rfl ?_
          exact ih4 (i + 1) (s + 1) (by omega) (by rw [sumI_S hi.1, hs]; first | done | rfl | rw [if_pos (by omega)] | (rw [if_neg (by omega)]; omega)) (by omega)
  refine j_lv [2, 1, 0] (lv' := [(0, .ref h), (1, .int (jI 0)), (2, .int (jI 0))]) rfl ?_
  exact lp4 (Int.toNat ((64 - 0) + 1)) 0 0 (by omega) (by rfl) (by omega)

set_option maxHeartbeats 4000000 in
set_option maxRecDepth 100000 in
theorem c_X3_hintsTold (l : Launch) (D : va_G) (Y : Nat → ClassId) (h : Nat) (q : Nat → Nat) (z : Int → Int) (hI : Inv z) : jM l yX3_hintsTold wsX3_hintsTold { frames := 0, cells := 0, slots := 0, locals := 0 } D Y [.ref h] (wZ Y h q z) (fun v_ w_ => v_ = some (.int (jI (sumI 8 (fun r => if ¬ z (7 + r) = -5 then 1 else 0)))) ∧ w_ = (wZ Y h q z)) 0 0 := by
  refine jM_of (cc := cX3_hintsTold) (maxL := 3) (ret := (some .int)) (by decide) rfl (Nat.le_of_ble_eq_true rfl) (fun v w' h => Or.inr (Or.inl ⟨_, _, rfl, h.1, rfl⟩)) ?_
  intro x G kr0
  have kr := kr0 _ _ ⟨rfl, rfl⟩
  have G : jG x l D Y cX3_hintsTold RX3 wsX3_hintsTold 3 ({ frames := 0, cells := 0, slots := 0, locals := 0 } : Room) (some .int) "hintsTold" := G
  have hinX3 : ∀ w ∈ wsX30, w ∈ wsX3_hintsTold := fun _ h => List.mem_cons_of_mem _ (List.mem_append_right _ h)
  show J x 0 0 (wZ Y h q z) 0 [(0, .ref h)] []
  refine j_iconst G dX3_hintsTold_0 (v := 0) rfl ?_
  refine j_istore_n (lv' := [(1, .int (jI 0)), (0, .ref h)]) G dX3_hintsTold_1 (by decide) rfl ?_
  refine j_iconst G dX3_hintsTold_2 (v := 0) rfl ?_
  refine j_istore_n (lv' := [(2, .int (jI 0)), (1, .int (jI 0)), (0, .ref h)]) G dX3_hintsTold_3 (by decide) rfl ?_
  have lp4 : ∀ (n_ : Nat) (i : Int) (s : Int), (0 ≤ i ∧ i ≤ 8) → (s = sumI i.toNat (fun r => if ¬ z (7 + r) = -5 then 1 else 0)) → (8 - i) < (n_ : Int) → J x 0 0 (wZ Y h q z) 4 [(0, .ref h), (1, .int (jI s)), (2, .int (jI i))] [] := by
    intro n_
    induction n_ with
    | zero =>
      intro i s hi hs hm_
      exact absurd hm_ (by omega)
    | succ n_ ih4 =>
      intro i s hi hs hm_
      refine j_iload_n G 2 dX3_hintsTold_4 rfl ?_
      refine j_bipush G dX3_hintsTold_5 (v := 8) rfl ?_
      refine j_icmp_ge (tgt := 30) G dX3_hintsTold_7 (by decide) (by omega) (by omega) (fun c7 => ?_) (fun c7 => ?_)
      · refine j_iload_n G 1 dX3_hintsTold_30 rfl ?_
        exact j_reti G dX3_hintsTold_31 (by rw [hs, show i = 8 by omega]; rfl) (jLe.rf _) kr
      · refine j_aload_n G 0 dX3_hintsTold_10 rfl ?_
        refine j_get (q := 7) (C := RX3) (T := TX3) (N := 13) (v := .ref (q 6)) G 0 hinX3 dX3_hintsTold_11 rfl rfl (by decide) (by decide +kernel) rfl ?_
        refine j_iload_n G 2 dX3_hintsTold_14 rfl ?_
        refine j_iald (v := z (7 + i)) G 7 dX3_hintsTold_15 rfl (by omega) rfl ?_
        have f16 := hI.tR i (by omega) (by omega)
        refine j_bipush G dX3_hintsTold_16 (v := (-5)) rfl ?_
        refine j_icmp_eq (tgt := 24) G dX3_hintsTold_18 (by decide) (by omega) (by omega) (fun c18 => ?_) (fun c18 => ?_)
        · refine j_iinc (w := i + 1) (lv' := [(2, .int (jI (i + 1))), (0, .ref h), (1, .int (jI s))]) G 2 dX3_hintsTold_24 rfl rfl (by decide) rfl ?_
          refine j_goto (tgt := 4) G dX3_hintsTold_27 (by decide) ?_
          refine j_lv [1, 2, 0] (lv' := [(0, .ref h), (1, .int (jI s)), (2, .int (jI (i + 1)))]) rfl ?_
          exact ih4 (i + 1) s (by omega) (by rw [sumI_S hi.1, hs]; first | done | rfl | rw [if_pos (by omega)] | (rw [if_neg (by omega)]; omega)) (by omega)
        · refine j_iinc (w := s + 1) (lv' := [(1, .int (jI (s + 1))), (0, .ref h), (2, .int (jI i))]) G 1 dX3_hintsTold_21 rfl rfl (by decide) rfl ?_
          refine j_iinc (w := i + 1) (lv' := [(2, .int (jI (i + 1))), (1, .int (jI (s + 1))), (0, .ref h)]) G 2 dX3_hintsTold_24 rfl rfl (by decide) rfl ?_
          refine j_goto (tgt := 4) G dX3_hintsTold_27 (by decide) ?_
          refine j_lv [2, 1, 0] (lv' := [(0, .ref h), (1, .int (jI (s + 1))), (2, .int (jI (i + 1)))]) rfl ?_
          exact ih4 (i + 1) (s + 1) (by omega) (by rw [sumI_S hi.1, hs]; first | done | rfl | rw [if_pos (by omega)] | (rw [if_neg (by omega)]; omega)) (by omega)
  refine j_lv [2, 1, 0] (lv' := [(0, .ref h), (1, .int (jI 0)), (2, .int (jI 0))]) rfl ?_
  exact lp4 (Int.toNat ((8 - 0) + 1)) 0 0 (by omega) (by rfl) (by omega)

set_option maxHeartbeats 4000000 in
set_option maxRecDepth 100000 in
theorem c_X3_savedByAll (l : Launch) (D : va_G) (Y : Nat → ClassId) (h : Nat) (q : Nat → Nat) (z : Int → Int)  : jM l yX3_savedByAll wsX3_savedByAll { frames := 0, cells := 0, slots := 0, locals := 0 } D Y [.ref h] (wZ Y h q z) (fun v_ w_ => v_ = some (.int (jI (z 17 + z 21 + z 25))) ∧ w_ = (wZ Y h q z)) 0 0 := by
  refine jM_of (cc := cX3_savedByAll) (maxL := 3) (ret := (some .int)) (by decide) rfl (Nat.le_of_ble_eq_true rfl) (fun v w' h => Or.inr (Or.inl ⟨_, _, rfl, h.1, rfl⟩)) ?_
  intro x G kr0
  have kr := kr0 _ _ ⟨rfl, rfl⟩
  have G : jG x l D Y cX3_savedByAll RX3 wsX3_savedByAll 3 ({ frames := 0, cells := 0, slots := 0, locals := 0 } : Room) (some .int) "savedByAll" := G
  have hinX3 : ∀ w ∈ wsX30, w ∈ wsX3_savedByAll := fun _ h => List.mem_cons_of_mem _ (List.mem_append_right _ h)
  show J x 0 0 (wZ Y h q z) 0 [(0, .ref h)] []
  refine j_iconst G dX3_savedByAll_0 (v := 0) rfl ?_
  refine j_istore_n (lv' := [(1, .int (jI 0)), (0, .ref h)]) G dX3_savedByAll_1 (by decide) rfl ?_
  refine j_iconst G dX3_savedByAll_2 (v := 0) rfl ?_
  refine j_istore_n (lv' := [(2, .int (jI 0)), (1, .int (jI 0)), (0, .ref h)]) G dX3_savedByAll_3 (by decide) rfl ?_
  refine j_iload_n G 0 dX3_savedByAll_4 rfl ?_
  refine j_iconst G dX3_savedByAll_5 (v := 3) rfl ?_
  refine j_icmp_ge (tgt := 24) G dX3_savedByAll_6 (by decide) (by omega) (by omega) (fun c6 => absurd c6 (by omega)) (fun c6 => ?_)
  refine j_iload_n G 1 dX3_savedByAll_9 rfl ?_
  refine j_aload_n G 2 dX3_savedByAll_10 rfl ?_
  refine j_get (q := 5) (C := RX3) (T := TX3) (N := 13) (v := .ref (q 4)) G 0 hinX3 dX3_savedByAll_11 rfl rfl (by decide) (by decide +kernel) rfl ?_
  refine j_iload_n G 0 dX3_savedByAll_14 rfl ?_
  refine j_iald (v := z (17 + 4 * 0)) G 5 dX3_savedByAll_15 rfl (by omega) rfl ?_
  refine j_iadd G dX3_savedByAll_16 ?_
  refine j_istore_n (lv' := [(1, .int (jI (0 + (z (17 + 4 * 0))))), (2, .int (jI 0)), (0, .ref h)]) G dX3_savedByAll_17 (by decide) rfl ?_
  refine j_iinc (w := 1) (lv' := [(2, .int (jI 1)), (1, .int (jI (0 + (z (17 + 4 * 0))))), (0, .ref h)]) G 1 dX3_savedByAll_18 rfl rfl (by decide) rfl ?_
  refine j_goto (tgt := 4) G dX3_savedByAll_21 (by decide) ?_
  refine j_iload_n G 0 dX3_savedByAll_4 rfl ?_
  refine j_iconst G dX3_savedByAll_5 (v := 3) rfl ?_
  refine j_icmp_ge (tgt := 24) G dX3_savedByAll_6 (by decide) (by omega) (by omega) (fun c6 => absurd c6 (by omega)) (fun c6 => ?_)
  refine j_iload_n G 1 dX3_savedByAll_9 rfl ?_
  refine j_aload_n G 2 dX3_savedByAll_10 rfl ?_
  refine j_get (q := 5) (C := RX3) (T := TX3) (N := 13) (v := .ref (q 4)) G 0 hinX3 dX3_savedByAll_11 rfl rfl (by decide) (by decide +kernel) rfl ?_
  refine j_iload_n G 0 dX3_savedByAll_14 rfl ?_
  refine j_iald (v := z (17 + 4 * 1)) G 5 dX3_savedByAll_15 rfl (by omega) rfl ?_
  refine j_iadd G dX3_savedByAll_16 ?_
  refine j_istore_n (lv' := [(1, .int (jI ((0 + (z (17 + 4 * 0))) + (z (17 + 4 * 1))))), (2, .int (jI 1)), (0, .ref h)]) G dX3_savedByAll_17 (by decide) rfl ?_
  refine j_iinc (w := 2) (lv' := [(2, .int (jI 2)), (1, .int (jI ((0 + (z (17 + 4 * 0))) + (z (17 + 4 * 1))))), (0, .ref h)]) G 1 dX3_savedByAll_18 rfl rfl (by decide) rfl ?_
  refine j_goto (tgt := 4) G dX3_savedByAll_21 (by decide) ?_
  refine j_iload_n G 0 dX3_savedByAll_4 rfl ?_
  refine j_iconst G dX3_savedByAll_5 (v := 3) rfl ?_
  refine j_icmp_ge (tgt := 24) G dX3_savedByAll_6 (by decide) (by omega) (by omega) (fun c6 => absurd c6 (by omega)) (fun c6 => ?_)
  refine j_iload_n G 1 dX3_savedByAll_9 rfl ?_
  refine j_aload_n G 2 dX3_savedByAll_10 rfl ?_
  refine j_get (q := 5) (C := RX3) (T := TX3) (N := 13) (v := .ref (q 4)) G 0 hinX3 dX3_savedByAll_11 rfl rfl (by decide) (by decide +kernel) rfl ?_
  refine j_iload_n G 0 dX3_savedByAll_14 rfl ?_
  refine j_iald (v := z (17 + 4 * 2)) G 5 dX3_savedByAll_15 rfl (by omega) rfl ?_
  refine j_iadd G dX3_savedByAll_16 ?_
  refine j_istore_n (lv' := [(1, .int (jI (((0 + (z (17 + 4 * 0))) + (z (17 + 4 * 1))) + (z (17 + 4 * 2))))), (2, .int (jI 2)), (0, .ref h)]) G dX3_savedByAll_17 (by decide) rfl ?_
  refine j_iinc (w := 3) (lv' := [(2, .int (jI 3)), (1, .int (jI (((0 + (z (17 + 4 * 0))) + (z (17 + 4 * 1))) + (z (17 + 4 * 2))))), (0, .ref h)]) G 1 dX3_savedByAll_18 rfl rfl (by decide) rfl ?_
  refine j_goto (tgt := 4) G dX3_savedByAll_21 (by decide) ?_
  refine j_iload_n G 0 dX3_savedByAll_4 rfl ?_
  refine j_iconst G dX3_savedByAll_5 (v := 3) rfl ?_
  refine j_icmp_ge (tgt := 24) G dX3_savedByAll_6 (by decide) (by omega) (by omega) (fun c6 => ?_) (fun c6 => absurd c6 (by omega))
  refine j_iload_n G 1 dX3_savedByAll_24 rfl ?_
  exact j_reti G dX3_savedByAll_25 (by show 0 + z 17 + z 21 + z 25 = _; omega) (jLe.rf _) kr
