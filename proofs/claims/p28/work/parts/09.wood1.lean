set_option maxHeartbeats 4000000 in
set_option maxRecDepth 100000 in
theorem c_X3_copyFrom (l : Launch) (D : va_G) (Y : Nat → ClassId) (h : Nat) (q : Nat → Nat) (wo : Int → Int) (fe : Int → Int) (mu : Int) (pl : Int → Int) (st : Int → Int) (sa : Int → Int) (fl : Int → Int) (to : Int → Int) (se : Int → Int) (da : Int) (lo : Int) (re : Int) (sm : Int) (h2 : Nat) (q2 : Nat → Nat) (wo2 : Int → Int) (fe2 : Int → Int) (mu2 : Int) (pl2 : Int → Int) (st2 : Int → Int) (sa2 : Int → Int) (fl2 : Int → Int) (to2 : Int → Int) (se2 : Int → Int) (da2 : Int) (lo2 : Int) (re2 : Int) (sm2 : Int) (hfe : ∀ j : Int, 0 ≤ j → j < 64 → fe2 j = 0 ∨ fe2 j = 1) : jM l yX3_copyFrom wsX3_copyFrom { frames := 1, cells := 0, slots := 0, locals := 18 } D Y [.ref h, .ref h2] (wV Y h q wo fe mu pl st sa fl to se da lo re sm ++ (wV Y h2 q2 wo2 fe2 mu2 pl2 st2 sa2 fl2 to2 se2 da2 lo2 re2 sm2)) (fun v_ w_ => v_ = none ∧ w_ = (wV Y h q wo2 fe2 mu2 pl2 st2 sa2 fl2 to2 se2 da2 lo2 re2 sm2 ++ (wV Y h2 q2 wo2 fe2 mu2 pl2 st2 sa2 fl2 to2 se2 da2 lo2 re2 sm2))) 0 0 := by
  refine jM_of (cc := cX3_copyFrom) (maxL := 2) (ret := none) (by decide) rfl (Nat.le_of_ble_eq_true rfl) (fun v w' h => Or.inl ⟨rfl, h.1⟩) ?_
  intro x G kr0
  have kr := kr0 _ _ ⟨rfl, rfl⟩
  have G : jG x l D Y cX3_copyFrom RX3 wsX3_copyFrom 2 ({ frames := 1, cells := 0, slots := 0, locals := 18 } : Room) none "copyFrom" := G
  have hinX3 : ∀ w ∈ wsX30, w ∈ wsX3_copyFrom := fun _ h => List.mem_cons_of_mem _ (List.mem_append_right _ h)
  show J x 0 0 (wV Y h q wo fe mu pl st sa fl to se da lo re sm ++ (wV Y h2 q2 wo2 fe2 mu2 pl2 st2 sa2 fl2 to2 se2 da2 lo2 re2 sm2)) 0 [(0, .ref h), (1, .ref h2)] []
  refine j_aload_n G 1 dX3_copyFrom_0 rfl ?_
  refine j_get (q := 0) (C := RX3) (T := TX3) (N := 13) (v := .ref (q2 0)) G 9 hinX3 dX3_copyFrom_1 rfl rfl (by decide) (by decide +kernel) rfl ?_
  refine j_iconst G dX3_copyFrom_4 (v := 0) rfl ?_
  refine j_aload_n G 0 dX3_copyFrom_5 rfl ?_
  refine j_get (q := 0) (C := RX3) (T := TX3) (N := 13) (v := .ref (q 0)) G 0 hinX3 dX3_copyFrom_6 rfl rfl (by decide) (by decide +kernel) rfl ?_
  refine j_iconst G dX3_copyFrom_9 (v := 0) rfl ?_
  refine j_bipush G dX3_copyFrom_10 (v := 64) rfl ?_
  refine j_copy (w2 := wV Y h q wo2 fe mu pl st sa fl to se da lo re sm ++ (wV Y h2 q2 wo2 fe2 mu2 pl2 st2 sa2 fl2 to2 se2 da2 lo2 re2 sm2)) G 10 1 (t := 0) rfl rfl dX3_copyFrom_12 (by decide +kernel) (by decide +kernel) (by decide +kernel) (by decide +kernel) rfl rfl rfl rfl rfl (by decide) (fun _ _ _ => rfl) (by decide) (Nat.le_of_ble_eq_true rfl) rfl ?_
  refine j_aload_n G 1 dX3_copyFrom_15 rfl ?_
  refine j_get (q := 1) (C := RX3) (T := TX3) (N := 13) (v := .ref (q2 1)) G 9 hinX3 dX3_copyFrom_16 rfl rfl (by decide) (by decide +kernel) rfl ?_
  refine j_iconst G dX3_copyFrom_19 (v := 0) rfl ?_
  refine j_aload_n G 0 dX3_copyFrom_20 rfl ?_
  refine j_get (q := 1) (C := RX3) (T := TX3) (N := 13) (v := .ref (q 1)) G 0 hinX3 dX3_copyFrom_21 rfl rfl (by decide) (by decide +kernel) rfl ?_
  refine j_iconst G dX3_copyFrom_24 (v := 0) rfl ?_
  refine j_bipush G dX3_copyFrom_25 (v := 64) rfl ?_
  refine j_copy (w2 := wV Y h q wo2 fe2 mu pl st sa fl to se da lo re sm ++ (wV Y h2 q2 wo2 fe2 mu2 pl2 st2 sa2 fl2 to2 se2 da2 lo2 re2 sm2)) G 11 2 (t := 1) rfl rfl dX3_copyFrom_27 (by decide +kernel) (by decide +kernel) (by decide +kernel) (by decide +kernel) rfl rfl rfl rfl rfl (by decide) (by intro i h0 h1; rcases hfe i h0 h1 with e | e <;> rw [e] <;> rfl) (by decide) (Nat.le_of_ble_eq_true rfl) rfl ?_
  refine j_aload_n G 0 dX3_copyFrom_30 rfl ?_
  refine j_aload_n G 1 dX3_copyFrom_31 rfl ?_
  refine j_get (q := 2) (C := RX3) (T := TX3) (N := 13) (v := .int (jI mu2)) G 9 hinX3 dX3_copyFrom_32 rfl rfl (by decide) (by decide +kernel) rfl ?_
  refine j_put (q := 2) (C := RX3) (T := TX3) (N := 13) (ws' := wV Y h q wo2 fe2 mu2 pl st sa fl to se da lo re sm ++ (wV Y h2 q2 wo2 fe2 mu2 pl2 st2 sa2 fl2 to2 se2 da2 lo2 re2 sm2)) G 0 hinX3 tyX3 tyX3_ok nmX3 dX3_copyFrom_35 rfl rfl (by decide) (by decide +kernel) rfl rfl rfl rfl (Nat.le_of_ble_eq_true rfl) rfl ?_
  refine j_aload_n G 1 dX3_copyFrom_38 rfl ?_
  refine j_get (q := 3) (C := RX3) (T := TX3) (N := 13) (v := .ref (q2 2)) G 9 hinX3 dX3_copyFrom_39 rfl rfl (by decide) (by decide +kernel) rfl ?_
  refine j_iconst G dX3_copyFrom_42 (v := 0) rfl ?_
  refine j_aload_n G 0 dX3_copyFrom_43 rfl ?_
  refine j_get (q := 3) (C := RX3) (T := TX3) (N := 13) (v := .ref (q 2)) G 0 hinX3 dX3_copyFrom_44 rfl rfl (by decide) (by decide +kernel) rfl ?_
  refine j_iconst G dX3_copyFrom_47 (v := 0) rfl ?_
  refine j_iconst G dX3_copyFrom_48 (v := 3) rfl ?_
  refine j_copy (w2 := wV Y h q wo2 fe2 mu2 pl2 st sa fl to se da lo re sm ++ (wV Y h2 q2 wo2 fe2 mu2 pl2 st2 sa2 fl2 to2 se2 da2 lo2 re2 sm2)) G 12 3 (t := 0) rfl rfl dX3_copyFrom_49 (by decide +kernel) (by decide +kernel) (by decide +kernel) (by decide +kernel) rfl rfl rfl rfl rfl (by decide) (fun _ _ _ => rfl) (by decide) (Nat.le_of_ble_eq_true rfl) rfl ?_
  refine j_aload_n G 1 dX3_copyFrom_52 rfl ?_
  refine j_get (q := 4) (C := RX3) (T := TX3) (N := 13) (v := .ref (q2 3)) G 9 hinX3 dX3_copyFrom_53 rfl rfl (by decide) (by decide +kernel) rfl ?_
  refine j_iconst G dX3_copyFrom_56 (v := 0) rfl ?_
  refine j_aload_n G 0 dX3_copyFrom_57 rfl ?_
  refine j_get (q := 4) (C := RX3) (T := TX3) (N := 13) (v := .ref (q 3)) G 0 hinX3 dX3_copyFrom_58 rfl rfl (by decide) (by decide +kernel) rfl ?_
  refine j_iconst G dX3_copyFrom_61 (v := 0) rfl ?_
  refine j_iconst G dX3_copyFrom_62 (v := 3) rfl ?_
  refine j_copy (w2 := wV Y h q wo2 fe2 mu2 pl2 st2 sa fl to se da lo re sm ++ (wV Y h2 q2 wo2 fe2 mu2 pl2 st2 sa2 fl2 to2 se2 da2 lo2 re2 sm2)) G 13 4 (t := 0) rfl rfl dX3_copyFrom_63 (by decide +kernel) (by decide +kernel) (by decide +kernel) (by decide +kernel) rfl rfl rfl rfl rfl (by decide) (fun _ _ _ => rfl) (by decide) (Nat.le_of_ble_eq_true rfl) rfl ?_
  refine j_aload_n G 1 dX3_copyFrom_66 rfl ?_
  refine j_get (q := 5) (C := RX3) (T := TX3) (N := 13) (v := .ref (q2 4)) G 9 hinX3 dX3_copyFrom_67 rfl rfl (by decide) (by decide +kernel) rfl ?_
  refine j_iconst G dX3_copyFrom_70 (v := 0) rfl ?_
  refine j_aload_n G 0 dX3_copyFrom_71 rfl ?_
  refine j_get (q := 5) (C := RX3) (T := TX3) (N := 13) (v := .ref (q 4)) G 0 hinX3 dX3_copyFrom_72 rfl rfl (by decide) (by decide +kernel) rfl ?_
  refine j_iconst G dX3_copyFrom_75 (v := 0) rfl ?_
  refine j_iconst G dX3_copyFrom_76 (v := 3) rfl ?_
  refine j_copy (w2 := wV Y h q wo2 fe2 mu2 pl2 st2 sa2 fl to se da lo re sm ++ (wV Y h2 q2 wo2 fe2 mu2 pl2 st2 sa2 fl2 to2 se2 da2 lo2 re2 sm2)) G 14 5 (t := 0) rfl rfl dX3_copyFrom_77 (by decide +kernel) (by decide +kernel) (by decide +kernel) (by decide +kernel) rfl rfl rfl rfl rfl (by decide) (fun _ _ _ => rfl) (by decide) (Nat.le_of_ble_eq_true rfl) rfl ?_
  refine j_aload_n G 1 dX3_copyFrom_80 rfl ?_
  refine j_get (q := 6) (C := RX3) (T := TX3) (N := 13) (v := .ref (q2 5)) G 9 hinX3 dX3_copyFrom_81 rfl rfl (by decide) (by decide +kernel) rfl ?_
  refine j_iconst G dX3_copyFrom_84 (v := 0) rfl ?_
  refine j_aload_n G 0 dX3_copyFrom_85 rfl ?_
  refine j_get (q := 6) (C := RX3) (T := TX3) (N := 13) (v := .ref (q 5)) G 0 hinX3 dX3_copyFrom_86 rfl rfl (by decide) (by decide +kernel) rfl ?_
  refine j_iconst G dX3_copyFrom_89 (v := 0) rfl ?_
  refine j_iconst G dX3_copyFrom_90 (v := 3) rfl ?_
  refine j_copy (w2 := wV Y h q wo2 fe2 mu2 pl2 st2 sa2 fl2 to se da lo re sm ++ (wV Y h2 q2 wo2 fe2 mu2 pl2 st2 sa2 fl2 to2 se2 da2 lo2 re2 sm2)) G 15 6 (t := 0) rfl rfl dX3_copyFrom_91 (by decide +kernel) (by decide +kernel) (by decide +kernel) (by decide +kernel) rfl rfl rfl rfl rfl (by decide) (fun _ _ _ => rfl) (by decide) (Nat.le_of_ble_eq_true rfl) rfl ?_
  refine j_aload_n G 1 dX3_copyFrom_94 rfl ?_
  refine j_get (q := 7) (C := RX3) (T := TX3) (N := 13) (v := .ref (q2 6)) G 9 hinX3 dX3_copyFrom_95 rfl rfl (by decide) (by decide +kernel) rfl ?_
  refine j_iconst G dX3_copyFrom_98 (v := 0) rfl ?_
  refine j_aload_n G 0 dX3_copyFrom_99 rfl ?_
  refine j_get (q := 7) (C := RX3) (T := TX3) (N := 13) (v := .ref (q 6)) G 0 hinX3 dX3_copyFrom_100 rfl rfl (by decide) (by decide +kernel) rfl ?_
  refine j_iconst G dX3_copyFrom_103 (v := 0) rfl ?_
  refine j_bipush G dX3_copyFrom_104 (v := 8) rfl ?_
  refine j_copy (w2 := wV Y h q wo2 fe2 mu2 pl2 st2 sa2 fl2 to2 se da lo re sm ++ (wV Y h2 q2 wo2 fe2 mu2 pl2 st2 sa2 fl2 to2 se2 da2 lo2 re2 sm2)) G 16 7 (t := 0) rfl rfl dX3_copyFrom_106 (by decide +kernel) (by decide +kernel) (by decide +kernel) (by decide +kernel) rfl rfl rfl rfl rfl (by decide) (fun _ _ _ => rfl) (by decide) (Nat.le_of_ble_eq_true rfl) rfl ?_
  refine j_aload_n G 1 dX3_copyFrom_109 rfl ?_
  refine j_get (q := 8) (C := RX3) (T := TX3) (N := 13) (v := .ref (q2 7)) G 9 hinX3 dX3_copyFrom_110 rfl rfl (by decide) (by decide +kernel) rfl ?_
  refine j_iconst G dX3_copyFrom_113 (v := 0) rfl ?_
  refine j_aload_n G 0 dX3_copyFrom_114 rfl ?_
  refine j_get (q := 8) (C := RX3) (T := TX3) (N := 13) (v := .ref (q 7)) G 0 hinX3 dX3_copyFrom_115 rfl rfl (by decide) (by decide +kernel) rfl ?_
  refine j_iconst G dX3_copyFrom_118 (v := 0) rfl ?_
  refine j_iconst G dX3_copyFrom_119 (v := 3) rfl ?_
  refine j_copy (w2 := wV Y h q wo2 fe2 mu2 pl2 st2 sa2 fl2 to2 se2 da lo re sm ++ (wV Y h2 q2 wo2 fe2 mu2 pl2 st2 sa2 fl2 to2 se2 da2 lo2 re2 sm2)) G 17 8 (t := 0) rfl rfl dX3_copyFrom_120 (by decide +kernel) (by decide +kernel) (by decide +kernel) (by decide +kernel) rfl rfl rfl rfl rfl (by decide) (fun _ _ _ => rfl) (by decide) (Nat.le_of_ble_eq_true rfl) rfl ?_
  refine j_aload_n G 0 dX3_copyFrom_123 rfl ?_
  refine j_aload_n G 1 dX3_copyFrom_124 rfl ?_
  refine j_get (q := 9) (C := RX3) (T := TX3) (N := 13) (v := .int (jI da2)) G 9 hinX3 dX3_copyFrom_125 rfl rfl (by decide) (by decide +kernel) rfl ?_
  refine j_put (q := 9) (C := RX3) (T := TX3) (N := 13) (ws' := wV Y h q wo2 fe2 mu2 pl2 st2 sa2 fl2 to2 se2 da2 lo re sm ++ (wV Y h2 q2 wo2 fe2 mu2 pl2 st2 sa2 fl2 to2 se2 da2 lo2 re2 sm2)) G 0 hinX3 tyX3 tyX3_ok nmX3 dX3_copyFrom_128 rfl rfl (by decide) (by decide +kernel) rfl rfl rfl rfl (Nat.le_of_ble_eq_true rfl) rfl ?_
  refine j_aload_n G 0 dX3_copyFrom_131 rfl ?_
  refine j_aload_n G 1 dX3_copyFrom_132 rfl ?_
  refine j_get (q := 10) (C := RX3) (T := TX3) (N := 13) (v := .int (jI lo2)) G 9 hinX3 dX3_copyFrom_133 rfl rfl (by decide) (by decide +kernel) rfl ?_
  refine j_put (q := 10) (C := RX3) (T := TX3) (N := 13) (ws' := wV Y h q wo2 fe2 mu2 pl2 st2 sa2 fl2 to2 se2 da2 lo2 re sm ++ (wV Y h2 q2 wo2 fe2 mu2 pl2 st2 sa2 fl2 to2 se2 da2 lo2 re2 sm2)) G 0 hinX3 tyX3 tyX3_ok nmX3 dX3_copyFrom_136 rfl rfl (by decide) (by decide +kernel) rfl rfl rfl rfl (Nat.le_of_ble_eq_true rfl) rfl ?_
  refine j_aload_n G 0 dX3_copyFrom_139 rfl ?_
  refine j_aload_n G 1 dX3_copyFrom_140 rfl ?_
  refine j_get (q := 11) (C := RX3) (T := TX3) (N := 13) (v := .int (jI re2)) G 9 hinX3 dX3_copyFrom_141 rfl rfl (by decide) (by decide +kernel) rfl ?_
  refine j_put (q := 11) (C := RX3) (T := TX3) (N := 13) (ws' := wV Y h q wo2 fe2 mu2 pl2 st2 sa2 fl2 to2 se2 da2 lo2 re2 sm ++ (wV Y h2 q2 wo2 fe2 mu2 pl2 st2 sa2 fl2 to2 se2 da2 lo2 re2 sm2)) G 0 hinX3 tyX3 tyX3_ok nmX3 dX3_copyFrom_144 rfl rfl (by decide) (by decide +kernel) rfl rfl rfl rfl (Nat.le_of_ble_eq_true rfl) rfl ?_
  refine j_aload_n G 0 dX3_copyFrom_147 rfl ?_
  refine j_aload_n G 1 dX3_copyFrom_148 rfl ?_
  refine j_get (q := 12) (C := RX3) (T := TX3) (N := 13) (v := .int (jI sm2)) G 9 hinX3 dX3_copyFrom_149 rfl rfl (by decide) (by decide +kernel) rfl ?_
  refine j_put (q := 12) (C := RX3) (T := TX3) (N := 13) (ws' := wV Y h q wo2 fe2 mu2 pl2 st2 sa2 fl2 to2 se2 da2 lo2 re2 sm2 ++ (wV Y h2 q2 wo2 fe2 mu2 pl2 st2 sa2 fl2 to2 se2 da2 lo2 re2 sm2)) G 0 hinX3 tyX3 tyX3_ok nmX3 dX3_copyFrom_152 rfl rfl (by decide) (by decide +kernel) rfl rfl rfl rfl (Nat.le_of_ble_eq_true rfl) rfl ?_
  exact j_retv G dX3_copyFrom_155 (jLe.rf _) kr

set_option maxHeartbeats 4000000 in
set_option maxRecDepth 100000 in
theorem c_X3_stepsTo (l : Launch) (D : va_G) (Y : Nat → ClassId) (h : Nat) (q : Nat → Nat) (z : Int → Int) (k : Int) (p : Int) (hI : Inv z) (hk : 0 ≤ k ∧ k < 3) (hp : 0 ≤ p ∧ p < 64) : jM l yX3_stepsTo wsX3_stepsTo { frames := 1, cells := 0, slots := 0, locals := 13 } D Y [.ref h, .int (jI k), .int (jI p)] (wZ Y h q z) (fun v_ w_ => v_ = some (.int (jI (zWay z k p))) ∧ w_ = (wZ Y h q z)) 0 0 := by
  refine jM_of (cc := cX3_stepsTo) (maxL := 6) (ret := (some .int)) (by decide) rfl (Nat.le_of_ble_eq_true rfl) (fun v w' h => Or.inr (Or.inl ⟨_, _, rfl, h.1, rfl⟩)) ?_
  intro x G kr0
  have kr := kr0 _ _ ⟨rfl, rfl⟩
  have G : jG x l D Y cX3_stepsTo RX3 wsX3_stepsTo 6 ({ frames := 1, cells := 0, slots := 0, locals := 13 } : Room) (some .int) "stepsTo" := G
  have hinX3 : ∀ w ∈ wsX30, w ∈ wsX3_stepsTo := fun _ h => List.mem_cons_of_mem _ (List.mem_append_right _ h)
  have f0 := hI.pl k hk.1 hk.2
  have f1 := hI.mu
  show J x 0 0 (wZ Y h q z) 0 [(0, .ref h), (1, .int (jI k)), (2, .int (jI p))] []
  refine j_aload_n G 0 dX3_stepsTo_0 rfl ?_
  refine j_get (q := 3) (C := RX3) (T := TX3) (N := 13) (v := .ref (q 2)) G 0 hinX3 dX3_stepsTo_1 rfl rfl (by decide) (by decide +kernel) rfl ?_
  refine j_iload_n G 1 dX3_stepsTo_4 rfl ?_
  refine j_iald (v := z (15 + 4 * k)) G 3 dX3_stepsTo_5 rfl (by omega) rfl ?_
  refine j_istore_n (lv' := [(3, .int (jI (z (15 + 4 * k)))), (0, .ref h), (1, .int (jI k)), (2, .int (jI p))]) G dX3_stepsTo_6 (by decide) rfl ?_
  refine j_iload_n G 0 dX3_stepsTo_7 rfl ?_
  refine j_bipush G dX3_stepsTo_8 (v := 8) rfl ?_
  refine j_idiv G dX3_stepsTo_10 (by omega) (by omega) ?_
  refine j_iload_n G 3 dX3_stepsTo_11 rfl ?_
  refine j_bipush G dX3_stepsTo_12 (v := 8) rfl ?_
  refine j_idiv G dX3_stepsTo_14 (by omega) (by omega) ?_
  refine j_isub G dX3_stepsTo_15 ?_
  refine j_mabs G dX3_stepsTo_16 (by decide +kernel) (by decide +kernel) (by decide +kernel) (by decide +kernel) (by decide) (Nat.le_of_ble_eq_true rfl) ⟨Nat.zero_le _, Nat.zero_le _⟩ (by omega) ?_
  refine j_istore (lv' := [(4, .int (jI (if 0 ≤ (((z (15 + 4 * k)) / 8) - (p / 8)) then (((z (15 + 4 * k)) / 8) - (p / 8)) else 0 - (((z (15 + 4 * k)) / 8) - (p / 8))))), (3, .int (jI (z (15 + 4 * k)))), (0, .ref h), (1, .int (jI k)), (2, .int (jI p))]) G dX3_stepsTo_19 (by decide) rfl ?_
  refine j_iload_n G 1 dX3_stepsTo_21 rfl ?_
  refine j_bipush G dX3_stepsTo_22 (v := 8) rfl ?_
  refine j_irem G dX3_stepsTo_24 (by omega) (by omega) ?_
  refine j_iload_n G 4 dX3_stepsTo_25 rfl ?_
  refine j_bipush G dX3_stepsTo_26 (v := 8) rfl ?_
  refine j_irem G dX3_stepsTo_28 (by omega) (by omega) ?_
  refine j_isub G dX3_stepsTo_29 ?_
  refine j_mabs G dX3_stepsTo_30 (by decide +kernel) (by decide +kernel) (by decide +kernel) (by decide +kernel) (by decide) (Nat.le_of_ble_eq_true rfl) ⟨Nat.zero_le _, Nat.zero_le _⟩ (by omega) ?_
  refine j_istore (lv' := [(5, .int (jI (if 0 ≤ (((z (15 + 4 * k)) % 8) - (p % 8)) then (((z (15 + 4 * k)) % 8) - (p % 8)) else 0 - (((z (15 + 4 * k)) % 8) - (p % 8))))), (4, .int (jI (if 0 ≤ (((z (15 + 4 * k)) / 8) - (p / 8)) then (((z (15 + 4 * k)) / 8) - (p / 8)) else 0 - (((z (15 + 4 * k)) / 8) - (p / 8))))), (3, .int (jI (z (15 + 4 * k)))), (0, .ref h), (1, .int (jI k)), (2, .int (jI p))]) G dX3_stepsTo_33 (by decide) rfl ?_
  refine j_iload G 1 dX3_stepsTo_35 rfl ?_
  refine j_iload G 0 dX3_stepsTo_37 rfl ?_
  refine j_iadd G dX3_stepsTo_39 ?_
  refine j_iconst G dX3_stepsTo_40 (v := 1) rfl ?_
  refine j_aload_n G 3 dX3_stepsTo_41 rfl ?_
  refine j_get (q := 2) (C := RX3) (T := TX3) (N := 13) (v := .int (jI (z 92))) G 0 hinX3 dX3_stepsTo_42 rfl rfl (by decide) (by decide +kernel) rfl ?_
  refine j_iconst G dX3_stepsTo_45 (v := 3) rfl ?_
  refine j_idiv G dX3_stepsTo_46 (by omega) (by omega) ?_
  refine j_iadd G dX3_stepsTo_47 ?_
  refine j_imul G dX3_stepsTo_48 ?_
  exact j_reti G dX3_stepsTo_49 (by rfl) (jLe.rf _) kr

set_option maxHeartbeats 4000000 in
set_option maxRecDepth 100000 in
theorem c_X3_whyNot (l : Launch) (D : va_G) (Y : Nat → ClassId) (h : Nat) (q : Nat → Nat) (z : Int → Int) (k : Int) (p : Int) (hI : Inv z) (hk : 0 ≤ k ∧ k < 3) (hp : 0 ≤ p ∧ p < 64) : jM l yX3_whyNot wsX3_whyNot { frames := 2, cells := 0, slots := 0, locals := 38 } D Y [.ref h, .int (jI k), .int (jI p)] (wZ Y h q z) (fun v_ w_ => v_ = some (.int (jI (F_why z k p))) ∧ w_ = (wZ Y h q z)) 0 0 := by
  refine jM_of (cc := cX3_whyNot) (maxL := 4) (ret := (some .int)) (by decide) rfl (Nat.le_of_ble_eq_true rfl) (fun v w' h => Or.inr (Or.inl ⟨_, _, rfl, h.1, rfl⟩)) ?_
  intro x G kr0
  have kr := kr0 _ _ ⟨rfl, rfl⟩
  have G : jG x l D Y cX3_whyNot RX3 wsX3_whyNot 4 ({ frames := 2, cells := 0, slots := 0, locals := 38 } : Room) (some .int) "whyNot" := G
  have hinX3 : ∀ w ∈ wsX30, w ∈ wsX3_whyNot := fun _ h => List.mem_cons_of_mem _ (List.mem_append_right _ h)
  have f0 := hI.wo p hp.1 hp.2
  have f1 := hI.st k hk.1 hk.2
  have f2 := zWay_b hI hk hp
  have f3 := hI.s2
  show J x 0 0 (wZ Y h q z) 0 [(0, .ref h), (1, .int (jI k)), (2, .int (jI p))] []
  refine j_aload_n G 0 dX3_whyNot_0 rfl ?_
  refine j_get (q := 0) (C := RX3) (T := TX3) (N := 13) (v := .ref (q 0)) G 0 hinX3 dX3_whyNot_1 rfl rfl (by decide) (by decide +kernel) rfl ?_
  refine j_iload_n G 2 dX3_whyNot_4 rfl ?_
  refine j_iald (v := z (28 + p)) G 1 dX3_whyNot_5 rfl (by omega) rfl ?_
  refine j_if_ne (tgt := 11) G dX3_whyNot_6 (by decide) (by omega) (fun c6 => ?_) (fun c6 => ?_)
  · refine j_aload_n G 0 dX3_whyNot_11 rfl ?_
    refine j_get (q := 4) (C := RX3) (T := TX3) (N := 13) (v := .ref (q 3)) G 0 hinX3 dX3_whyNot_12 rfl rfl (by decide) (by decide +kernel) rfl ?_
    refine j_iload_n G 1 dX3_whyNot_15 rfl ?_
    refine j_iald (v := z (16 + 4 * k)) G 4 dX3_whyNot_16 rfl (by omega) rfl ?_
    refine j_aload_n G 0 dX3_whyNot_17 rfl ?_
    refine j_iload_n G 1 dX3_whyNot_18 rfl ?_
    refine j_iload_n G 2 dX3_whyNot_19 rfl ?_
    refine j_callV (nA := 2) (As := [.int (jI k), .int (jI p)]) (st := [.int (jI (z (16 + 4 * k)))]) (wc := (wZ Y h q z)) (wr := []) G (c_X3_stepsTo l D Y h q z k p (by first | assumption | omega) (by first | assumption | omega) (by first | assumption | omega)) dX3_whyNot_20 rfl gX3_whyNot_X3_stepsTo rfl rfl rfl (by decide +kernel) ⟨by decide, by decide⟩ rfl 0 rfl rfl rfl (jLe.nil (jLe.rf _)) (Nat.le_of_ble_eq_true rfl) ⟨Nat.zero_le _, Nat.zero_le _⟩ (fun v_ w_ hp_ => ?_)
    obtain ⟨rfl, rfl⟩ := hp_
    show J x 0 0 (wZ Y h q z) 23 [(0, .ref h), (1, .int (jI k)), (2, .int (jI p))] [.int (jI (zWay z k p)), .int (jI (z (16 + 4 * k)))]
    refine j_isub G dX3_whyNot_23 ?_
    refine j_istore_n (lv' := [(3, .int (jI ((z (16 + 4 * k)) - (zWay z k p)))), (0, .ref h), (1, .int (jI k)), (2, .int (jI p))]) G dX3_whyNot_24 (by decide) rfl ?_
    refine j_iload_n G 0 dX3_whyNot_25 rfl ?_
    refine j_if_ge (tgt := 31) G dX3_whyNot_26 (by decide) (by omega) (fun c26 => ?_) (fun c26 => ?_)
    · refine j_iload_n G 0 dX3_whyNot_31 rfl ?_
      refine j_aload_n G 1 dX3_whyNot_32 rfl ?_
      refine j_get (q := 8) (C := RX3) (T := TX3) (N := 13) (v := .ref (q 7)) G 0 hinX3 dX3_whyNot_33 rfl rfl (by decide) (by decide +kernel) rfl ?_
      refine j_iconst G dX3_whyNot_36 (v := 2) rfl ?_
      refine j_iald (v := z 2) G 8 dX3_whyNot_37 rfl (by omega) rfl ?_
      refine j_icmp_ge (tgt := 45) G dX3_whyNot_38 (by decide) (by omega) (by omega) (fun c38 => ?_) (fun c38 => ?_)
      · refine j_iconst G dX3_whyNot_45 (v := 0) rfl ?_
        exact j_reti G dX3_whyNot_46 (by unfold F_why; (repeat' split) <;> first | rfl | omega) (jLe.rf _) kr
      · refine j_iconst G dX3_whyNot_41 (v := 3) rfl ?_
        refine j_goto (tgt := 46) G dX3_whyNot_42 (by decide) ?_
        exact j_reti G dX3_whyNot_46 (by unfold F_why; (repeat' split) <;> first | rfl | omega) (jLe.rf _) kr
    · refine j_iconst G dX3_whyNot_29 (v := 2) rfl ?_
      exact j_reti G dX3_whyNot_30 (by unfold F_why; (repeat' split) <;> first | rfl | omega) (jLe.rf _) kr
  · refine j_iconst G dX3_whyNot_9 (v := 1) rfl ?_
    exact j_reti G dX3_whyNot_10 (by unfold F_why; (repeat' split) <;> first | rfl | omega) (jLe.rf _) kr

set_option maxHeartbeats 4000000 in
set_option maxRecDepth 100000 in
theorem c_X3_plant (l : Launch) (D : va_G) (Y : Nat → ClassId) (h : Nat) (q : Nat → Nat) (z : Int → Int) (p : Int) (w : Int) (hI : Inv z) (hp : -2147483648 ≤ p ∧ p < 2147483648) (hw : -2147483648 ≤ w ∧ w < 2147483648) : jM l yX3_plant wsX3_plant { frames := 1, cells := 0, slots := 0, locals := 22 } D Y [.ref h, .int (jI p), .int (jI w)] (wZ Y h q z) (fun v_ w_ => v_ = some (.int (jI (F_grow z p w))) ∧ w_ = (wZ Y h q (G_grow z p w))) 0 0 := by
  refine jM_of (cc := cX3_plant) (maxL := 4) (ret := (some .int)) (by decide) rfl (Nat.le_of_ble_eq_true rfl) (fun v w' h => Or.inr (Or.inl ⟨_, _, rfl, h.1, rfl⟩)) ?_
  intro x G kr0
  have kr := kr0 _ _ ⟨rfl, rfl⟩
  have G : jG x l D Y cX3_plant RX3 wsX3_plant 4 ({ frames := 1, cells := 0, slots := 0, locals := 22 } : Room) (some .int) "plant" := G
  have hinX3 : ∀ w ∈ wsX30, w ∈ wsX3_plant := fun _ h => List.mem_cons_of_mem _ (List.mem_append_right _ h)
  show J x 0 0 (wZ Y h q z) 0 [(0, .ref h), (1, .int (jI p)), (2, .int (jI w))] []
  refine j_iload_n G 1 dX3_plant_0 rfl ?_
  refine j_iconst G dX3_plant_1 (v := 0) rfl ?_
  refine j_bipush G dX3_plant_2 (v := 63) rfl ?_
  refine j_callSN (host := "StormFelling") (nA := 3) (As := [.int (jI p), .int (jI 0), .int (jI 63)]) (st := []) (wc := []) (wr := (wZ Y h q z)) G (c_X4_isIn l D Y p 0 63 (by first | assumption | omega) (by first | assumption | omega) (by first | assumption | omega)) dX3_plant_4 rfl gX3_plant_X4_isIn_n62 rfl rfl rfl (by decide +kernel) (by decide +kernel) (by decide +kernel) (by decide +kernel) ⟨by decide, by decide⟩ rfl (jLe.rf _) (Nat.le_of_ble_eq_true rfl) ⟨Nat.zero_le _, Nat.zero_le _⟩ (fun v_ w_ hp_ => ?_)
  obtain ⟨rfl, rfl⟩ := hp_
  show J x 0 0 (wZ Y h q z) 7 [(0, .ref h), (1, .int (jI p)), (2, .int (jI w))] [.int (jI (if 0 ≤ p ∧ p ≤ 63 then 1 else 0))]
  refine j_ifz_ne (tgt := 12) G dX3_plant_7 (by decide) (fun c7 => ?_) (fun c7 => ?_)
  · refine j_iload_n G 2 dX3_plant_12 rfl ?_
    refine j_iconst G dX3_plant_13 (v := 0) rfl ?_
    refine j_bipush G dX3_plant_14 (v := 99) rfl ?_
    refine j_callSN (host := "StormFelling") (nA := 3) (As := [.int (jI w), .int (jI 0), .int (jI 99)]) (st := []) (wc := []) (wr := (wZ Y h q z)) G (c_X4_isIn l D Y w 0 99 (by first | assumption | omega) (by first | assumption | omega) (by first | assumption | omega)) dX3_plant_16 rfl gX3_plant_X4_isIn_n62 rfl rfl rfl (by decide +kernel) (by decide +kernel) (by decide +kernel) (by decide +kernel) ⟨by decide, by decide⟩ rfl (jLe.rf _) (Nat.le_of_ble_eq_true rfl) ⟨Nat.zero_le _, Nat.zero_le _⟩ (fun v_ w_ hp_ => ?_)
    obtain ⟨rfl, rfl⟩ := hp_
    show J x 0 0 (wZ Y h q z) 19 [(0, .ref h), (1, .int (jI p)), (2, .int (jI w))] [.int (jI (if 0 ≤ w ∧ w ≤ 99 then 1 else 0))]
    refine j_ifz_ne (tgt := 25) G dX3_plant_19 (by decide) (fun c19 => ?_) (fun c19 => ?_)
    · have f25 := hI.wo p (by omega) (by omega)
      refine j_aload_n G 0 dX3_plant_25 rfl ?_
      refine j_get (q := 0) (C := RX3) (T := TX3) (N := 13) (v := .ref (q 0)) G 0 hinX3 dX3_plant_26 rfl rfl (by decide) (by decide +kernel) rfl ?_
      refine j_iload_n G 1 dX3_plant_29 rfl ?_
      refine j_iald (v := z (28 + p)) G 1 dX3_plant_30 rfl (by omega) rfl ?_
      refine j_istore_n (lv' := [(3, .int (jI (z (28 + p)))), (0, .ref h), (1, .int (jI p)), (2, .int (jI w))]) G dX3_plant_31 (by decide) rfl ?_
      refine j_iload_n G 0 dX3_plant_32 rfl ?_
      refine j_iload_n G 3 dX3_plant_33 rfl ?_
      refine j_icmp_ne (tgt := 40) G dX3_plant_34 (by decide) (by omega) (by omega) (fun c34 => ?_) (fun c34 => ?_)
      · refine j_aload_n G 1 dX3_plant_40 rfl ?_
        refine j_get (q := 0) (C := RX3) (T := TX3) (N := 13) (v := .ref (q 0)) G 0 hinX3 dX3_plant_41 rfl rfl (by decide) (by decide +kernel) rfl ?_
        refine j_iload_n G 2 dX3_plant_44 rfl ?_
        refine j_iload_n G 3 dX3_plant_45 rfl ?_
        refine j_iast (ws' := wV Y h q (upZ (fun j => z (28 + j)) p w) (fun j => z (156 + j)) (z 92) (fun j => z (15 + 4 * j)) (fun j => z (16 + 4 * j)) (fun j => z (17 + 4 * j)) (fun j => z (18 + 4 * j)) (fun j => z (7 + j)) (fun j => z j) (z 3) (z 4) (z 5) (z 6)) G 1 dX3_plant_46 rfl (by omega) rfl ?_
        refine j_iload_n G 0 dX3_plant_47 rfl ?_
        exact j_reti G dX3_plant_48 (by unfold F_grow; (repeat' split) <;> first | rfl | omega) (by rw [show G_grow z p w = upZ z (28 + p) w from if_pos (by omega)]; refine (wV_le (fun j h0 h1 => ?_) (fun j h0 h1 => ?_) ?_ (fun j h0 h1 => ?_) (fun j h0 h1 => ?_) (fun j h0 h1 => ?_) (fun j h0 h1 => ?_) (fun j h0 h1 => ?_) (fun j h0 h1 => ?_) ?_ ?_ ?_ ?_).le <;> (first | rfl | (simp only [upZ]; (repeat' split) <;> first | rfl | omega | grind))) kr
      · refine j_bipush G dX3_plant_37 (v := (-5)) rfl ?_
        exact j_reti G dX3_plant_39 (by unfold F_grow; (repeat' split) <;> first | rfl | omega) (by rw [show G_grow z p w = upZ z (28 + p) w from if_pos (by omega)]; refine (wV_le (fun j h0 h1 => ?_) (fun j h0 h1 => ?_) ?_ (fun j h0 h1 => ?_) (fun j h0 h1 => ?_) (fun j h0 h1 => ?_) (fun j h0 h1 => ?_) (fun j h0 h1 => ?_) (fun j h0 h1 => ?_) ?_ ?_ ?_ ?_).le <;> (first | rfl | (simp only [upZ]; (repeat' split) <;> first | rfl | omega | grind))) kr
    · refine j_bipush G dX3_plant_22 (v := (-2)) rfl ?_
      exact j_reti G dX3_plant_24 (by unfold F_grow; (repeat' split) <;> first | rfl | omega) (by rw [show G_grow z p w = z from if_neg (by omega)]; exact jLe.rf _) kr
  · refine j_iconst G dX3_plant_10 (v := (-1)) rfl ?_
    exact j_reti G dX3_plant_11 (by unfold F_grow; (repeat' split) <;> first | rfl | omega) (by rw [show G_grow z p w = z from if_neg (by omega)]; exact jLe.rf _) kr

set_option maxHeartbeats 4000000 in
set_option maxRecDepth 100000 in
theorem c_X3_getWet (l : Launch) (D : va_G) (Y : Nat → ClassId) (h : Nat) (q : Nat → Nat) (z : Int → Int) (m : Int) (hI : Inv z) (hm : -2147483648 ≤ m ∧ m < 2147483648) : jM l yX3_getWet wsX3_getWet { frames := 1, cells := 0, slots := 0, locals := 22 } D Y [.ref h, .int (jI m)] (wZ Y h q z) (fun v_ w_ => v_ = some (.int (jI (F_rain z m))) ∧ w_ = (wZ Y h q (G_rain z m))) 0 0 := by
  refine jM_of (cc := cX3_getWet) (maxL := 2) (ret := (some .int)) (by decide) rfl (Nat.le_of_ble_eq_true rfl) (fun v w' h => Or.inr (Or.inl ⟨_, _, rfl, h.1, rfl⟩)) ?_
  intro x G kr0
  have kr := kr0 _ _ ⟨rfl, rfl⟩
  have G : jG x l D Y cX3_getWet RX3 wsX3_getWet 2 ({ frames := 1, cells := 0, slots := 0, locals := 22 } : Room) (some .int) "getWet" := G
  have hinX3 : ∀ w ∈ wsX30, w ∈ wsX3_getWet := fun _ h => List.mem_cons_of_mem _ (List.mem_append_right _ h)
  show J x 0 0 (wZ Y h q z) 0 [(0, .ref h), (1, .int (jI m))] []
  refine j_iload_n G 1 dX3_getWet_0 rfl ?_
  refine j_iconst G dX3_getWet_1 (v := 1) rfl ?_
  refine j_bipush G dX3_getWet_2 (v := 9) rfl ?_
  refine j_callSN (host := "StormFelling") (nA := 3) (As := [.int (jI m), .int (jI 1), .int (jI 9)]) (st := []) (wc := []) (wr := (wZ Y h q z)) G (c_X4_isIn l D Y m 1 9 (by first | assumption | omega) (by first | assumption | omega) (by first | assumption | omega)) dX3_getWet_4 rfl gX3_getWet_X4_isIn_n62 rfl rfl rfl (by decide +kernel) (by decide +kernel) (by decide +kernel) (by decide +kernel) ⟨by decide, by decide⟩ rfl (jLe.rf _) (Nat.le_of_ble_eq_true rfl) ⟨Nat.zero_le _, Nat.zero_le _⟩ (fun v_ w_ hp_ => ?_)
  obtain ⟨rfl, rfl⟩ := hp_
  show J x 0 0 (wZ Y h q z) 7 [(0, .ref h), (1, .int (jI m))] [.int (jI (if 1 ≤ m ∧ m ≤ 9 then 1 else 0))]
  refine j_ifz_ne (tgt := 13) G dX3_getWet_7 (by decide) (fun c7 => ?_) (fun c7 => ?_)
  · have f13 := hI.mu
    refine j_aload_n G 0 dX3_getWet_13 rfl ?_
    refine j_bipush G dX3_getWet_14 (v := 9) rfl ?_
    refine j_aload_n G 0 dX3_getWet_16 rfl ?_
    refine j_get (q := 2) (C := RX3) (T := TX3) (N := 13) (v := .int (jI (z 92))) G 0 hinX3 dX3_getWet_17 rfl rfl (by decide) (by decide +kernel) rfl ?_
    refine j_iload_n G 1 dX3_getWet_20 rfl ?_
    refine j_iadd G dX3_getWet_21 ?_
    refine j_mmin G dX3_getWet_22 (by decide +kernel) (by decide +kernel) (by decide +kernel) (by decide +kernel) (by decide) (Nat.le_of_ble_eq_true rfl) ⟨Nat.zero_le _, Nat.zero_le _⟩ (by omega) (by omega) ?_
    obtain ⟨mu2, e_mu2, h_mu2⟩ : ∃ y : Int, y = (if ((z 92) + m) < 9 then ((z 92) + m) else 9) ∧ (y = z 92 + m ∧ z 92 + m ≤ 9 ∨ y = 9 ∧ 9 < z 92 + m) := ⟨_, rfl, by split <;> omega⟩
    rw [← e_mu2]
    refine j_put (q := 2) (C := RX3) (T := TX3) (N := 13) (ws' := wV Y h q (fun j => z (28 + j)) (fun j => z (156 + j)) mu2 (fun j => z (15 + 4 * j)) (fun j => z (16 + 4 * j)) (fun j => z (17 + 4 * j)) (fun j => z (18 + 4 * j)) (fun j => z (7 + j)) (fun j => z j) (z 3) (z 4) (z 5) (z 6)) G 0 hinX3 tyX3 tyX3_ok nmX3 dX3_getWet_25 rfl rfl (by decide) (by decide +kernel) rfl rfl rfl rfl (Nat.le_of_ble_eq_true rfl) rfl ?_
    refine j_aload_n G 0 dX3_getWet_28 rfl ?_
    refine j_get (q := 2) (C := RX3) (T := TX3) (N := 13) (v := .int (jI mu2)) G 0 hinX3 dX3_getWet_29 rfl rfl (by decide) (by decide +kernel) rfl ?_
    refine j_bipush G dX3_getWet_32 (v := 9) rfl ?_
    refine j_icmp_ne (tgt := 42) G dX3_getWet_34 (by decide) (by omega) (by omega) (fun c34 => ?_) (fun c34 => ?_)
    · refine j_iconst G dX3_getWet_42 (v := 0) rfl ?_
      exact j_reti G dX3_getWet_43 (by unfold F_rain; (repeat' split) <;> first | rfl | omega) (by rw [show G_rain z m = GR z m from if_pos (by omega)]; refine (wV_le (fun j h0 h1 => ?_) (fun j h0 h1 => ?_) ?_ (fun j h0 h1 => ?_) (fun j h0 h1 => ?_) (fun j h0 h1 => ?_) (fun j h0 h1 => ?_) (fun j h0 h1 => ?_) (fun j h0 h1 => ?_) ?_ ?_ ?_ ?_).le <;> (first | rfl | (simp only [GR]; (repeat' split) <;> first | rfl | omega))) kr
    · refine j_bipush G dX3_getWet_37 (v := 64) rfl ?_
      refine j_goto (tgt := 43) G dX3_getWet_39 (by decide) ?_
      exact j_reti G dX3_getWet_43 (by unfold F_rain; (repeat' split) <;> first | rfl | omega) (by rw [show G_rain z m = GR z m from if_pos (by omega)]; refine (wV_le (fun j h0 h1 => ?_) (fun j h0 h1 => ?_) ?_ (fun j h0 h1 => ?_) (fun j h0 h1 => ?_) (fun j h0 h1 => ?_) (fun j h0 h1 => ?_) (fun j h0 h1 => ?_) (fun j h0 h1 => ?_) ?_ ?_ ?_ ?_).le <;> (first | rfl | (simp only [GR]; (repeat' split) <;> first | rfl | omega))) kr
  · refine j_bipush G dX3_getWet_10 (v := (-2)) rfl ?_
    exact j_reti G dX3_getWet_12 (by unfold F_rain; (repeat' split) <;> first | rfl | omega) (by rw [show G_rain z m = z from if_neg (by omega)]; exact jLe.rf _) kr

set_option maxHeartbeats 4000000 in
set_option maxRecDepth 100000 in
theorem c_X3_passDays (l : Launch) (D : va_G) (Y : Nat → ClassId) (h : Nat) (q : Nat → Nat) (z : Int → Int) (n : Int) (hI : Inv z) (hn : -2147483648 ≤ n ∧ n < 2147483648) : jM l yX3_passDays wsX3_passDays { frames := 1, cells := 0, slots := 0, locals := 22 } D Y [.ref h, .int (jI n)] (wZ Y h q z) (fun v_ w_ => v_ = some (.int (jI (F_end z n))) ∧ w_ = (wZ Y h q (G_end z n))) 0 0 := by
  refine jM_of (cc := cX3_passDays) (maxL := 3) (ret := (some .int)) (by decide) rfl (Nat.le_of_ble_eq_true rfl) (fun v w' h => Or.inr (Or.inl ⟨_, _, rfl, h.1, rfl⟩)) ?_
  intro x G kr0
  have kr := kr0 _ _ ⟨rfl, rfl⟩
  have G : jG x l D Y cX3_passDays RX3 wsX3_passDays 3 ({ frames := 1, cells := 0, slots := 0, locals := 22 } : Room) (some .int) "passDays" := G
  have hinX3 : ∀ w ∈ wsX30, w ∈ wsX3_passDays := fun _ h => List.mem_cons_of_mem _ (List.mem_append_right _ h)
  show J x 0 0 (wZ Y h q z) 0 [(0, .ref h), (1, .int (jI n))] []
  refine j_iload_n G 1 dX3_passDays_0 rfl ?_
  refine j_iconst G dX3_passDays_1 (v := 1) rfl ?_
  refine j_bipush G dX3_passDays_2 (v := 99) rfl ?_
  refine j_callSN (host := "StormFelling") (nA := 3) (As := [.int (jI n), .int (jI 1), .int (jI 99)]) (st := []) (wc := []) (wr := (wZ Y h q z)) G (c_X4_isIn l D Y n 1 99 (by first | assumption | omega) (by first | assumption | omega) (by first | assumption | omega)) dX3_passDays_4 rfl gX3_passDays_X4_isIn_n62 rfl rfl rfl (by decide +kernel) (by decide +kernel) (by decide +kernel) (by decide +kernel) ⟨by decide, by decide⟩ rfl (jLe.rf _) (Nat.le_of_ble_eq_true rfl) ⟨Nat.zero_le _, Nat.zero_le _⟩ (fun v_ w_ hp_ => ?_)
  obtain ⟨rfl, rfl⟩ := hp_
  show J x 0 0 (wZ Y h q z) 7 [(0, .ref h), (1, .int (jI n))] [.int (jI (if 1 ≤ n ∧ n ≤ 99 then 1 else 0))]
  refine j_ifz_ne (tgt := 13) G dX3_passDays_7 (by decide) (fun c7 => ?_) (fun c7 => ?_)
  · have f13 := hI.mu
    have f14 := hI.da
    refine j_aload_n G 0 dX3_passDays_13 rfl ?_
    refine j_get (q := 9) (C := RX3) (T := TX3) (N := 13) (v := .int (jI (z 3))) G 0 hinX3 dX3_passDays_14 rfl rfl (by decide) (by decide +kernel) rfl ?_
    refine j_iload_n G 1 dX3_passDays_17 rfl ?_
    refine j_iadd G dX3_passDays_18 ?_
    refine j_sipush G dX3_passDays_19 (v := 9999) rfl ?_
    refine j_icmp_le (tgt := 28) G dX3_passDays_22 (by decide) (by omega) (by omega) (fun c22 => ?_) (fun c22 => ?_)
    · refine j_aload_n G 0 dX3_passDays_28 rfl ?_
      refine j_dup G dX3_passDays_29 rfl ?_
      refine j_get (q := 9) (C := RX3) (T := TX3) (N := 13) (v := .int (jI (z 3))) G 0 hinX3 dX3_passDays_30 rfl rfl (by decide) (by decide +kernel) rfl ?_
      refine j_iload_n G 1 dX3_passDays_33 rfl ?_
      refine j_iadd G dX3_passDays_34 ?_
      refine j_put (q := 9) (C := RX3) (T := TX3) (N := 13) (ws' := wV Y h q (fun j => z (28 + j)) (fun j => z (156 + j)) (z 92) (fun j => z (15 + 4 * j)) (fun j => z (16 + 4 * j)) (fun j => z (17 + 4 * j)) (fun j => z (18 + 4 * j)) (fun j => z (7 + j)) (fun j => z j) ((z 3) + n) (z 4) (z 5) (z 6)) G 0 hinX3 tyX3 tyX3_ok nmX3 dX3_passDays_35 rfl rfl (by decide) (by decide +kernel) rfl rfl rfl rfl (Nat.le_of_ble_eq_true rfl) rfl ?_
      refine j_aload_n G 0 dX3_passDays_38 rfl ?_
      refine j_iconst G dX3_passDays_39 (v := 0) rfl ?_
      refine j_aload_n G 0 dX3_passDays_40 rfl ?_
      refine j_get (q := 2) (C := RX3) (T := TX3) (N := 13) (v := .int (jI (z 92))) G 0 hinX3 dX3_passDays_41 rfl rfl (by decide) (by decide +kernel) rfl ?_
      refine j_iload_n G 1 dX3_passDays_44 rfl ?_
      refine j_isub G dX3_passDays_45 ?_
      refine j_mmax G dX3_passDays_46 (by decide +kernel) (by decide +kernel) (by decide +kernel) (by decide +kernel) (by decide) (Nat.le_of_ble_eq_true rfl) ⟨Nat.zero_le _, Nat.zero_le _⟩ (by omega) (by omega) ?_
      obtain ⟨mu2, e_mu2, h_mu2⟩ : ∃ y : Int, y = (if 0 < ((z 92) - n) then ((z 92) - n) else 0) ∧ (y = z 92 - n ∧ n < z 92 ∨ y = 0 ∧ z 92 ≤ n) := ⟨_, rfl, by split <;> omega⟩
      rw [← e_mu2]
      refine j_put (q := 2) (C := RX3) (T := TX3) (N := 13) (ws' := wV Y h q (fun j => z (28 + j)) (fun j => z (156 + j)) mu2 (fun j => z (15 + 4 * j)) (fun j => z (16 + 4 * j)) (fun j => z (17 + 4 * j)) (fun j => z (18 + 4 * j)) (fun j => z (7 + j)) (fun j => z j) ((z 3) + n) (z 4) (z 5) (z 6)) G 0 hinX3 tyX3 tyX3_ok nmX3 dX3_passDays_49 rfl rfl (by decide) (by decide +kernel) rfl rfl rfl rfl (Nat.le_of_ble_eq_true rfl) rfl ?_
      refine j_iconst G dX3_passDays_52 (v := 0) rfl ?_
      refine j_istore_n (lv' := [(2, .int (jI 0)), (0, .ref h), (1, .int (jI n))]) G dX3_passDays_53 (by decide) rfl ?_
      refine j_iload_n G 0 dX3_passDays_54 rfl ?_
      refine j_iconst G dX3_passDays_55 (v := 3) rfl ?_
      refine j_icmp_ge (tgt := 77) G dX3_passDays_56 (by decide) (by omega) (by omega) (fun c56 => absurd c56 (by omega)) (fun c56 => ?_)
      refine j_aload_n G 1 dX3_passDays_59 rfl ?_
      refine j_get (q := 4) (C := RX3) (T := TX3) (N := 13) (v := .ref (q 3)) G 0 hinX3 dX3_passDays_60 rfl rfl (by decide) (by decide +kernel) rfl ?_
      refine j_iload_n G 0 dX3_passDays_63 rfl ?_
      refine j_aload_n G 1 dX3_passDays_64 rfl ?_
      refine j_get (q := 8) (C := RX3) (T := TX3) (N := 13) (v := .ref (q 7)) G 0 hinX3 dX3_passDays_65 rfl rfl (by decide) (by decide +kernel) rfl ?_
      refine j_iconst G dX3_passDays_68 (v := 0) rfl ?_
      refine j_iald (v := z 0) G 8 dX3_passDays_69 rfl (by omega) rfl ?_
      refine j_iast (ws' := wV Y h q (fun j => z (28 + j)) (fun j => z (156 + j)) mu2 (fun j => z (15 + 4 * j)) (upZ (fun j => z (16 + 4 * j)) 0 (z 0)) (fun j => z (17 + 4 * j)) (fun j => z (18 + 4 * j)) (fun j => z (7 + j)) (fun j => z j) ((z 3) + n) (z 4) (z 5) (z 6)) G 4 dX3_passDays_70 rfl (by omega) rfl ?_
      refine j_iinc (w := 1) (lv' := [(2, .int (jI 1)), (0, .ref h), (1, .int (jI n))]) G 0 dX3_passDays_71 rfl rfl (by decide) rfl ?_
      refine j_goto (tgt := 54) G dX3_passDays_74 (by decide) ?_
      refine j_iload_n G 0 dX3_passDays_54 rfl ?_
      refine j_iconst G dX3_passDays_55 (v := 3) rfl ?_
      refine j_icmp_ge (tgt := 77) G dX3_passDays_56 (by decide) (by omega) (by omega) (fun c56 => absurd c56 (by omega)) (fun c56 => ?_)
      refine j_aload_n G 1 dX3_passDays_59 rfl ?_
      refine j_get (q := 4) (C := RX3) (T := TX3) (N := 13) (v := .ref (q 3)) G 0 hinX3 dX3_passDays_60 rfl rfl (by decide) (by decide +kernel) rfl ?_
      refine j_iload_n G 0 dX3_passDays_63 rfl ?_
      refine j_aload_n G 1 dX3_passDays_64 rfl ?_
      refine j_get (q := 8) (C := RX3) (T := TX3) (N := 13) (v := .ref (q 7)) G 0 hinX3 dX3_passDays_65 rfl rfl (by decide) (by decide +kernel) rfl ?_
      refine j_iconst G dX3_passDays_68 (v := 0) rfl ?_
      refine j_iald (v := z 0) G 8 dX3_passDays_69 rfl (by omega) rfl ?_
      refine j_iast (ws' := wV Y h q (fun j => z (28 + j)) (fun j => z (156 + j)) mu2 (fun j => z (15 + 4 * j)) (upZ (upZ (fun j => z (16 + 4 * j)) 0 (z 0)) 1 (z 0)) (fun j => z (17 + 4 * j)) (fun j => z (18 + 4 * j)) (fun j => z (7 + j)) (fun j => z j) ((z 3) + n) (z 4) (z 5) (z 6)) G 4 dX3_passDays_70 rfl (by omega) rfl ?_
      refine j_iinc (w := 2) (lv' := [(2, .int (jI 2)), (0, .ref h), (1, .int (jI n))]) G 0 dX3_passDays_71 rfl rfl (by decide) rfl ?_
      refine j_goto (tgt := 54) G dX3_passDays_74 (by decide) ?_
      refine j_iload_n G 0 dX3_passDays_54 rfl ?_
      refine j_iconst G dX3_passDays_55 (v := 3) rfl ?_
      refine j_icmp_ge (tgt := 77) G dX3_passDays_56 (by decide) (by omega) (by omega) (fun c56 => absurd c56 (by omega)) (fun c56 => ?_)
      refine j_aload_n G 1 dX3_passDays_59 rfl ?_
      refine j_get (q := 4) (C := RX3) (T := TX3) (N := 13) (v := .ref (q 3)) G 0 hinX3 dX3_passDays_60 rfl rfl (by decide) (by decide +kernel) rfl ?_
      refine j_iload_n G 0 dX3_passDays_63 rfl ?_
      refine j_aload_n G 1 dX3_passDays_64 rfl ?_
      refine j_get (q := 8) (C := RX3) (T := TX3) (N := 13) (v := .ref (q 7)) G 0 hinX3 dX3_passDays_65 rfl rfl (by decide) (by decide +kernel) rfl ?_
      refine j_iconst G dX3_passDays_68 (v := 0) rfl ?_
      refine j_iald (v := z 0) G 8 dX3_passDays_69 rfl (by omega) rfl ?_
      refine j_iast (ws' := wV Y h q (fun j => z (28 + j)) (fun j => z (156 + j)) mu2 (fun j => z (15 + 4 * j)) (upZ (upZ (upZ (fun j => z (16 + 4 * j)) 0 (z 0)) 1 (z 0)) 2 (z 0)) (fun j => z (17 + 4 * j)) (fun j => z (18 + 4 * j)) (fun j => z (7 + j)) (fun j => z j) ((z 3) + n) (z 4) (z 5) (z 6)) G 4 dX3_passDays_70 rfl (by omega) rfl ?_
      refine j_iinc (w := 3) (lv' := [(2, .int (jI 3)), (0, .ref h), (1, .int (jI n))]) G 0 dX3_passDays_71 rfl rfl (by decide) rfl ?_
      refine j_goto (tgt := 54) G dX3_passDays_74 (by decide) ?_
      refine j_iload_n G 0 dX3_passDays_54 rfl ?_
      refine j_iconst G dX3_passDays_55 (v := 3) rfl ?_
      refine j_icmp_ge (tgt := 77) G dX3_passDays_56 (by decide) (by omega) (by omega) (fun c56 => ?_) (fun c56 => absurd c56 (by omega))
      refine j_aload_n G 1 dX3_passDays_77 rfl ?_
      refine j_get (q := 9) (C := RX3) (T := TX3) (N := 13) (v := .int (jI ((z 3) + n))) G 0 hinX3 dX3_passDays_78 rfl rfl (by decide) (by decide +kernel) rfl ?_
      exact j_reti G dX3_passDays_81 (by unfold F_end; (repeat' split) <;> first | rfl | omega) (by rw [show G_end z n = GE z n from if_pos (by omega)]; refine (wV_le (fun j h0 h1 => ?_) (fun j h0 h1 => ?_) ?_ (fun j h0 h1 => ?_) (fun j h0 h1 => ?_) (fun j h0 h1 => ?_) (fun j h0 h1 => ?_) (fun j h0 h1 => ?_) (fun j h0 h1 => ?_) ?_ ?_ ?_ ?_).le <;> (first | rfl | (simp only [GE, upZ]; (repeat' split) <;> first | rfl | omega | (exact congrArg z (by omega))))) kr
    · refine j_bipush G dX3_passDays_25 (v := (-3)) rfl ?_
      exact j_reti G dX3_passDays_27 (by unfold F_end; (repeat' split) <;> first | rfl | omega) (by rw [show G_end z n = z from if_neg (by omega)]; exact jLe.rf _) kr
  · refine j_bipush G dX3_passDays_10 (v := (-2)) rfl ?_
    exact j_reti G dX3_passDays_12 (by unfold F_end; (repeat' split) <;> first | rfl | omega) (by rw [show G_end z n = z from if_neg (by omega)]; exact jLe.rf _) kr

set_option maxHeartbeats 4000000 in
set_option maxRecDepth 100000 in
theorem c_X3_changeSetting (l : Launch) (D : va_G) (Y : Nat → ClassId) (h : Nat) (q : Nat → Nat) (z : Int → Int) (i : Int) (v : Int) (hI : Inv z) (hi : -2147483648 ≤ i ∧ i < 2147483648) (hv : -2147483648 ≤ v ∧ v < 2147483648) : jM l yX3_changeSetting wsX3_changeSetting { frames := 1, cells := 0, slots := 0, locals := 22 } D Y [.ref h, .int (jI i), .int (jI v)] (wZ Y h q z) (fun v_ w_ => v_ = some (.int (jI (F_set z i v))) ∧ w_ = (wZ Y h q (G_set z i v))) 0 0 := by
  refine jM_of (cc := cX3_changeSetting) (maxL := 4) (ret := (some .int)) (by decide) rfl (Nat.le_of_ble_eq_true rfl) (fun v w' h => Or.inr (Or.inl ⟨_, _, rfl, h.1, rfl⟩)) ?_
  intro x G kr0
  have kr := kr0 _ _ ⟨rfl, rfl⟩
  have G : jG x l D Y cX3_changeSetting RX3 wsX3_changeSetting 4 ({ frames := 1, cells := 0, slots := 0, locals := 22 } : Room) (some .int) "changeSetting" := G
  have hinX3 : ∀ w ∈ wsX30, w ∈ wsX3_changeSetting := fun _ h => List.mem_cons_of_mem _ (List.mem_append_right _ h)
  show J x 0 0 (wZ Y h q z) 0 [(0, .ref h), (1, .int (jI i)), (2, .int (jI v))] []
  refine j_iload_n G 1 dX3_changeSetting_0 rfl ?_
  refine j_iconst G dX3_changeSetting_1 (v := 0) rfl ?_
  refine j_iconst G dX3_changeSetting_2 (v := 2) rfl ?_
  refine j_callSN (host := "StormFelling") (nA := 3) (As := [.int (jI i), .int (jI 0), .int (jI 2)]) (st := []) (wc := []) (wr := (wZ Y h q z)) G (c_X4_isIn l D Y i 0 2 (by first | assumption | omega) (by first | assumption | omega) (by first | assumption | omega)) dX3_changeSetting_3 rfl gX3_changeSetting_X4_isIn_n62 rfl rfl rfl (by decide +kernel) (by decide +kernel) (by decide +kernel) (by decide +kernel) ⟨by decide, by decide⟩ rfl (jLe.rf _) (Nat.le_of_ble_eq_true rfl) ⟨Nat.zero_le _, Nat.zero_le _⟩ (fun v_ w_ hp_ => ?_)
  obtain ⟨rfl, rfl⟩ := hp_
  show J x 0 0 (wZ Y h q z) 6 [(0, .ref h), (1, .int (jI i)), (2, .int (jI v))] [.int (jI (if 0 ≤ i ∧ i ≤ 2 then 1 else 0))]
  refine j_ifz_ne (tgt := 11) G dX3_changeSetting_6 (by decide) (fun c6 => ?_) (fun c6 => ?_)
  · refine j_iload_n G 2 dX3_changeSetting_11 rfl ?_
    refine j_sget (host := "StormFelling") G (jST_all G).1 dX3_changeSetting_12 (by decide +kernel) (fun t1 h_t1 => ?_)
    refine j_iload_n G 1 dX3_changeSetting_15 rfl ?_
    refine j_tald (v := sLo i) G h_t1 dX3_changeSetting_16 (by omega) (sLo_t (by omega)) ?_
    refine j_sget (host := "StormFelling") G (jST_all G).2.2 dX3_changeSetting_17 (by decide +kernel) (fun t2 h_t2 => ?_)
    refine j_iload_n G 1 dX3_changeSetting_20 rfl ?_
    refine j_tald (v := sHi i) G h_t2 dX3_changeSetting_21 (by omega) (sHi_t (by omega)) ?_
    have f22 := sLo_b i
    have f23 := sHi_b i
    refine j_callSN (host := "StormFelling") (nA := 3) (As := [.int (jI v), .int (jI (sLo i)), .int (jI (sHi i))]) (st := []) (wc := []) (wr := (wZ Y h q z)) G (c_X4_isIn l D Y v (sLo i) (sHi i) (by first | assumption | omega) (by first | assumption | omega) (by first | assumption | omega)) dX3_changeSetting_22 rfl gX3_changeSetting_X4_isIn_n62 rfl rfl rfl (by decide +kernel) (by decide +kernel) (by decide +kernel) (by decide +kernel) ⟨by decide, by decide⟩ rfl (jLe.rf _) (Nat.le_of_ble_eq_true rfl) ⟨Nat.zero_le _, Nat.zero_le _⟩ (fun v_ w_ hp_ => ?_)
    obtain ⟨rfl, rfl⟩ := hp_
    show J x 0 0 (wZ Y h q z) 25 [(0, .ref h), (1, .int (jI i)), (2, .int (jI v))] [.int (jI (if (sLo i) ≤ v ∧ v ≤ (sHi i) then 1 else 0))]
    refine j_ifz_ne (tgt := 31) G dX3_changeSetting_25 (by decide) (fun c25 => ?_) (fun c25 => ?_)
    · have f31 : -2147483648 ≤ z i ∧ z i < 2147483648 := by
        have a0 := hI.s0
        have a1 := hI.s1
        have a2 := hI.s2
        rcases (show i = 0 ∨ i = 1 ∨ i = 2 by omega) with e | e | e <;> subst e <;> omega
      refine j_aload_n G 0 dX3_changeSetting_31 rfl ?_
      refine j_get (q := 8) (C := RX3) (T := TX3) (N := 13) (v := .ref (q 7)) G 0 hinX3 dX3_changeSetting_32 rfl rfl (by decide) (by decide +kernel) rfl ?_
      refine j_iload_n G 1 dX3_changeSetting_35 rfl ?_
      refine j_iald (v := z i) G 8 dX3_changeSetting_36 rfl (by omega) rfl ?_
      refine j_istore_n (lv' := [(3, .int (jI (z i))), (0, .ref h), (1, .int (jI i)), (2, .int (jI v))]) G dX3_changeSetting_37 (by decide) rfl ?_
      refine j_iload_n G 0 dX3_changeSetting_38 rfl ?_
      refine j_iload_n G 3 dX3_changeSetting_39 rfl ?_
      refine j_icmp_ne (tgt := 46) G dX3_changeSetting_40 (by decide) (by omega) (by omega) (fun c40 => ?_) (fun c40 => ?_)
      · refine j_aload_n G 1 dX3_changeSetting_46 rfl ?_
        refine j_get (q := 8) (C := RX3) (T := TX3) (N := 13) (v := .ref (q 7)) G 0 hinX3 dX3_changeSetting_47 rfl rfl (by decide) (by decide +kernel) rfl ?_
        refine j_iload_n G 2 dX3_changeSetting_50 rfl ?_
        refine j_iload_n G 3 dX3_changeSetting_51 rfl ?_
        refine j_iast (ws' := wV Y h q (fun j => z (28 + j)) (fun j => z (156 + j)) (z 92) (fun j => z (15 + 4 * j)) (fun j => z (16 + 4 * j)) (fun j => z (17 + 4 * j)) (fun j => z (18 + 4 * j)) (fun j => z (7 + j)) (upZ (fun j => z j) i v) (z 3) (z 4) (z 5) (z 6)) G 8 dX3_changeSetting_52 rfl (by omega) rfl ?_
        refine j_iload_n G 0 dX3_changeSetting_53 rfl ?_
        exact j_reti G dX3_changeSetting_54 (by unfold F_set; (repeat' split) <;> first | rfl | omega) (by rw [show G_set z i v = upZ z i v from if_pos (by omega)]; refine (wV_le (fun j h0 h1 => ?_) (fun j h0 h1 => ?_) ?_ (fun j h0 h1 => ?_) (fun j h0 h1 => ?_) (fun j h0 h1 => ?_) (fun j h0 h1 => ?_) (fun j h0 h1 => ?_) (fun j h0 h1 => ?_) ?_ ?_ ?_ ?_).le <;> (first | rfl | (simp only [upZ]; (repeat' split) <;> first | rfl | omega | grind))) kr
      · refine j_bipush G dX3_changeSetting_43 (v := (-5)) rfl ?_
        exact j_reti G dX3_changeSetting_45 (by unfold F_set; (repeat' split) <;> first | rfl | omega) (by rw [show G_set z i v = upZ z i v from if_pos (by omega)]; refine (wV_le (fun j h0 h1 => ?_) (fun j h0 h1 => ?_) ?_ (fun j h0 h1 => ?_) (fun j h0 h1 => ?_) (fun j h0 h1 => ?_) (fun j h0 h1 => ?_) (fun j h0 h1 => ?_) (fun j h0 h1 => ?_) ?_ ?_ ?_ ?_).le <;> (first | rfl | (simp only [upZ]; (repeat' split) <;> first | rfl | omega | grind))) kr
    · refine j_bipush G dX3_changeSetting_28 (v := (-2)) rfl ?_
      exact j_reti G dX3_changeSetting_30 (by unfold F_set; (repeat' split) <;> first | rfl | omega) (by rw [show G_set z i v = z from if_neg (by omega)]; exact jLe.rf _) kr
  · refine j_iconst G dX3_changeSetting_9 (v := (-1)) rfl ?_
    exact j_reti G dX3_changeSetting_10 (by unfold F_set; (repeat' split) <;> first | rfl | omega) (by rw [show G_set z i v = z from if_neg (by omega)]; exact jLe.rf _) kr

set_option maxHeartbeats 4000000 in
set_option maxRecDepth 100000 in
theorem c_X3_sendCrew (l : Launch) (D : va_G) (Y : Nat → ClassId) (h : Nat) (q : Nat → Nat) (z : Int → Int) (k : Int) (p : Int) (hI : Inv z) (hk : -2147483648 ≤ k ∧ k < 2147483648) (hp : -2147483648 ≤ p ∧ p < 2147483648) : jM l yX3_sendCrew wsX3_sendCrew { frames := 2, cells := 0, slots := 0, locals := 38 } D Y [.ref h, .int (jI k), .int (jI p)] (wZ Y h q z) (fun v_ w_ => v_ = some (.int (jI (F_go z k p))) ∧ w_ = (wZ Y h q (G_go z k p))) 0 0 := by
  refine jM_of (cc := cX3_sendCrew) (maxL := 4) (ret := (some .int)) (by decide) rfl (Nat.le_of_ble_eq_true rfl) (fun v w' h => Or.inr (Or.inl ⟨_, _, rfl, h.1, rfl⟩)) ?_
  intro x G kr0
  have kr := kr0 _ _ ⟨rfl, rfl⟩
  have G : jG x l D Y cX3_sendCrew RX3 wsX3_sendCrew 4 ({ frames := 2, cells := 0, slots := 0, locals := 38 } : Room) (some .int) "sendCrew" := G
  have hinX3 : ∀ w ∈ wsX30, w ∈ wsX3_sendCrew := fun _ h => List.mem_cons_of_mem _ (List.mem_append_right _ h)
  show J x 0 0 (wZ Y h q z) 0 [(0, .ref h), (1, .int (jI k)), (2, .int (jI p))] []
  refine j_iload_n G 1 dX3_sendCrew_0 rfl ?_
  refine j_iconst G dX3_sendCrew_1 (v := 0) rfl ?_
  refine j_iconst G dX3_sendCrew_2 (v := 2) rfl ?_
  refine j_callSN (host := "StormFelling") (nA := 3) (As := [.int (jI k), .int (jI 0), .int (jI 2)]) (st := []) (wc := []) (wr := (wZ Y h q z)) G (c_X4_isIn l D Y k 0 2 (by first | assumption | omega) (by first | assumption | omega) (by first | assumption | omega)) dX3_sendCrew_3 rfl gX3_sendCrew_X4_isIn_n62 rfl rfl rfl (by decide +kernel) (by decide +kernel) (by decide +kernel) (by decide +kernel) ⟨by decide, by decide⟩ rfl (jLe.rf _) (Nat.le_of_ble_eq_true rfl) ⟨Nat.zero_le _, Nat.zero_le _⟩ (fun v_ w_ hp_ => ?_)
  obtain ⟨rfl, rfl⟩ := hp_
  show J x 0 0 (wZ Y h q z) 6 [(0, .ref h), (1, .int (jI k)), (2, .int (jI p))] [.int (jI (if 0 ≤ k ∧ k ≤ 2 then 1 else 0))]
  refine j_ifz_eq (tgt := 19) G dX3_sendCrew_6 (by decide) (fun c6 => ?_) (fun c6 => ?_)
  · refine j_iconst G dX3_sendCrew_19 (v := (-1)) rfl ?_
    exact j_reti G dX3_sendCrew_20 (by unfold F_go; (repeat' split) <;> first | rfl | omega) (by rw [show G_go z k p = z from if_neg (by omega)]; exact jLe.rf _) kr
  · refine j_iload_n G 2 dX3_sendCrew_9 rfl ?_
    refine j_iconst G dX3_sendCrew_10 (v := 0) rfl ?_
    refine j_bipush G dX3_sendCrew_11 (v := 63) rfl ?_
    refine j_callSN (host := "StormFelling") (nA := 3) (As := [.int (jI p), .int (jI 0), .int (jI 63)]) (st := []) (wc := []) (wr := (wZ Y h q z)) G (c_X4_isIn l D Y p 0 63 (by first | assumption | omega) (by first | assumption | omega) (by first | assumption | omega)) dX3_sendCrew_13 rfl gX3_sendCrew_X4_isIn_n62 rfl rfl rfl (by decide +kernel) (by decide +kernel) (by decide +kernel) (by decide +kernel) ⟨by decide, by decide⟩ rfl (jLe.rf _) (Nat.le_of_ble_eq_true rfl) ⟨Nat.zero_le _, Nat.zero_le _⟩ (fun v_ w_ hp_ => ?_)
    obtain ⟨rfl, rfl⟩ := hp_
    show J x 0 0 (wZ Y h q z) 16 [(0, .ref h), (1, .int (jI k)), (2, .int (jI p))] [.int (jI (if 0 ≤ p ∧ p ≤ 63 then 1 else 0))]
    refine j_ifz_ne (tgt := 21) G dX3_sendCrew_16 (by decide) (fun c16 => ?_) (fun c16 => ?_)
    · refine j_aload_n G 0 dX3_sendCrew_21 rfl ?_
      refine j_iload_n G 1 dX3_sendCrew_22 rfl ?_
      refine j_iload_n G 2 dX3_sendCrew_23 rfl ?_
      refine j_callV (nA := 2) (As := [.int (jI k), .int (jI p)]) (st := []) (wc := (wZ Y h q z)) (wr := []) G (c_X3_stepsTo l D Y h q z k p (by first | assumption | omega) (by first | assumption | omega) (by first | assumption | omega)) dX3_sendCrew_24 rfl gX3_sendCrew_X3_stepsTo rfl rfl rfl (by decide +kernel) ⟨by decide, by decide⟩ rfl 0 rfl rfl rfl (jLe.nil (jLe.rf _)) (Nat.le_of_ble_eq_true rfl) ⟨Nat.zero_le _, Nat.zero_le _⟩ (fun v_ w_ hp_ => ?_)
      obtain ⟨rfl, rfl⟩ := hp_
      show J x 0 0 (wZ Y h q z) 27 [(0, .ref h), (1, .int (jI k)), (2, .int (jI p))] [.int (jI (zWay z k p))]
      have f27 := zWay_b hI (k := k) (p := p) (by omega) (by omega)
      have f28 := hI.st k (by omega) (by omega)
      have f29 := hI.pl k (by omega) (by omega)
      refine j_istore_n (lv' := [(3, .int (jI (zWay z k p))), (0, .ref h), (1, .int (jI k)), (2, .int (jI p))]) G dX3_sendCrew_27 (by decide) rfl ?_
      refine j_iload_n G 0 dX3_sendCrew_28 rfl ?_
      refine j_aload_n G 1 dX3_sendCrew_29 rfl ?_
      refine j_get (q := 4) (C := RX3) (T := TX3) (N := 13) (v := .ref (q 3)) G 0 hinX3 dX3_sendCrew_30 rfl rfl (by decide) (by decide +kernel) rfl ?_
      refine j_iload_n G 2 dX3_sendCrew_33 rfl ?_
      refine j_iald (v := z (16 + 4 * k)) G 4 dX3_sendCrew_34 rfl (by omega) rfl ?_
      refine j_icmp_le (tgt := 41) G dX3_sendCrew_35 (by decide) (by omega) (by omega) (fun c35 => ?_) (fun c35 => ?_)
      · refine j_aload_n G 1 dX3_sendCrew_41 rfl ?_
        refine j_get (q := 3) (C := RX3) (T := TX3) (N := 13) (v := .ref (q 2)) G 0 hinX3 dX3_sendCrew_42 rfl rfl (by decide) (by decide +kernel) rfl ?_
        refine j_iload_n G 2 dX3_sendCrew_45 rfl ?_
        refine j_iald (v := z (15 + 4 * k)) G 3 dX3_sendCrew_46 rfl (by omega) rfl ?_
        refine j_iload_n G 3 dX3_sendCrew_47 rfl ?_
        refine j_icmp_ne (tgt := 54) G dX3_sendCrew_48 (by decide) (by omega) (by omega) (fun c48 => ?_) (fun c48 => ?_)
        · refine j_aload_n G 1 dX3_sendCrew_54 rfl ?_
          refine j_get (q := 3) (C := RX3) (T := TX3) (N := 13) (v := .ref (q 2)) G 0 hinX3 dX3_sendCrew_55 rfl rfl (by decide) (by decide +kernel) rfl ?_
          refine j_iload_n G 2 dX3_sendCrew_58 rfl ?_
          refine j_iload_n G 3 dX3_sendCrew_59 rfl ?_
          refine j_iast (ws' := wV Y h q (fun j => z (28 + j)) (fun j => z (156 + j)) (z 92) (upZ (fun j => z (15 + 4 * j)) k p) (fun j => z (16 + 4 * j)) (fun j => z (17 + 4 * j)) (fun j => z (18 + 4 * j)) (fun j => z (7 + j)) (fun j => z j) (z 3) (z 4) (z 5) (z 6)) G 3 dX3_sendCrew_60 rfl (by omega) rfl ?_
          refine j_aload_n G 1 dX3_sendCrew_61 rfl ?_
          refine j_get (q := 4) (C := RX3) (T := TX3) (N := 13) (v := .ref (q 3)) G 0 hinX3 dX3_sendCrew_62 rfl rfl (by decide) (by decide +kernel) rfl ?_
          refine j_iload_n G 2 dX3_sendCrew_65 rfl ?_
          refine j_dup2 G dX3_sendCrew_66 rfl rfl ?_
          refine j_iald (v := z (16 + 4 * k)) G 4 dX3_sendCrew_67 rfl (by omega) rfl ?_
          refine j_iload_n G 0 dX3_sendCrew_68 rfl ?_
          refine j_isub G dX3_sendCrew_69 ?_
          refine j_iast (ws' := wV Y h q (fun j => z (28 + j)) (fun j => z (156 + j)) (z 92) (upZ (fun j => z (15 + 4 * j)) k p) (upZ (fun j => z (16 + 4 * j)) k ((z (16 + 4 * k)) - (zWay z k p))) (fun j => z (17 + 4 * j)) (fun j => z (18 + 4 * j)) (fun j => z (7 + j)) (fun j => z j) (z 3) (z 4) (z 5) (z 6)) G 4 dX3_sendCrew_70 rfl (by omega) rfl ?_
          refine j_aload_n G 1 dX3_sendCrew_71 rfl ?_
          refine j_get (q := 4) (C := RX3) (T := TX3) (N := 13) (v := .ref (q 3)) G 0 hinX3 dX3_sendCrew_72 rfl rfl (by decide) (by decide +kernel) rfl ?_
          refine j_iload_n G 2 dX3_sendCrew_75 rfl ?_
          refine j_iald (v := (upZ (fun j => z (16 + 4 * j)) k ((z (16 + 4 * k)) - (zWay z k p))) k) G 4 dX3_sendCrew_76 rfl (by omega) rfl ?_
          exact j_reti G dX3_sendCrew_77 (by rw [upZ_eq _ _ _ rfl]; unfold F_go; (repeat' split) <;> first | rfl | omega) (by rw [show G_go z k p = GG z k p from if_pos (by omega)]; refine (wV_le (fun j h0 h1 => ?_) (fun j h0 h1 => ?_) ?_ (fun j h0 h1 => ?_) (fun j h0 h1 => ?_) (fun j h0 h1 => ?_) (fun j h0 h1 => ?_) (fun j h0 h1 => ?_) (fun j h0 h1 => ?_) ?_ ?_ ?_ ?_).le <;> (first | rfl | (simp only [GG, upZ]; (repeat' split) <;> first | rfl | omega | grind))) kr
        · refine j_bipush G dX3_sendCrew_51 (v := (-5)) rfl ?_
          exact j_reti G dX3_sendCrew_53 (by unfold F_go; (repeat' split) <;> first | rfl | omega) (by have e0 := zWay_0 (z := z) (k := k) (p := p) (by omega); rw [show G_go z k p = GG z k p from if_pos (by omega)]; refine (wV_le (fun j h0 h1 => ?_) (fun j h0 h1 => ?_) ?_ (fun j h0 h1 => ?_) (fun j h0 h1 => ?_) (fun j h0 h1 => ?_) (fun j h0 h1 => ?_) (fun j h0 h1 => ?_) (fun j h0 h1 => ?_) ?_ ?_ ?_ ?_).le <;> (first | rfl | (simp only [GG, e0, upZ]; (repeat' split) <;> first | rfl | omega | grind))) kr
      · refine j_bipush G dX3_sendCrew_38 (v := (-4)) rfl ?_
        exact j_reti G dX3_sendCrew_40 (by unfold F_go; (repeat' split) <;> first | rfl | omega) (by rw [show G_go z k p = z from if_neg (by omega)]; exact jLe.rf _) kr
    · refine j_iconst G dX3_sendCrew_19 (v := (-1)) rfl ?_
      exact j_reti G dX3_sendCrew_20 (by unfold F_go; (repeat' split) <;> first | rfl | omega) (by rw [show G_go z k p = z from if_neg (by omega)]; exact jLe.rf _) kr

set_option maxHeartbeats 4000000 in
set_option maxRecDepth 100000 in
theorem c_X3_fellHere (l : Launch) (D : va_G) (Y : Nat → ClassId) (h : Nat) (q : Nat → Nat) (z : Int → Int) (k : Int) (hI : Inv z) (hk : -2147483648 ≤ k ∧ k < 2147483648) : jM l yX3_fellHere wsX3_fellHere { frames := 1, cells := 0, slots := 0, locals := 22 } D Y [.ref h, .int (jI k)] (wZ Y h q z) (fun v_ w_ => v_ = some (.int (jI (F_fell z k))) ∧ w_ = (wZ Y h q (G_fell z k))) 0 0 := by
  refine jM_of (cc := cX3_fellHere) (maxL := 4) (ret := (some .int)) (by decide) rfl (Nat.le_of_ble_eq_true rfl) (fun v w' h => Or.inr (Or.inl ⟨_, _, rfl, h.1, rfl⟩)) ?_
  intro x G kr0
  have kr := kr0 _ _ ⟨rfl, rfl⟩
  have G : jG x l D Y cX3_fellHere RX3 wsX3_fellHere 4 ({ frames := 1, cells := 0, slots := 0, locals := 22 } : Room) (some .int) "fellHere" := G
  have hinX3 : ∀ w ∈ wsX30, w ∈ wsX3_fellHere := fun _ h => List.mem_cons_of_mem _ (List.mem_append_right _ h)
  show J x 0 0 (wZ Y h q z) 0 [(0, .ref h), (1, .int (jI k))] []
  refine j_iload_n G 1 dX3_fellHere_0 rfl ?_
  refine j_iconst G dX3_fellHere_1 (v := 0) rfl ?_
  refine j_iconst G dX3_fellHere_2 (v := 2) rfl ?_
  refine j_callSN (host := "StormFelling") (nA := 3) (As := [.int (jI k), .int (jI 0), .int (jI 2)]) (st := []) (wc := []) (wr := (wZ Y h q z)) G (c_X4_isIn l D Y k 0 2 (by first | assumption | omega) (by first | assumption | omega) (by first | assumption | omega)) dX3_fellHere_3 rfl gX3_fellHere_X4_isIn_n62 rfl rfl rfl (by decide +kernel) (by decide +kernel) (by decide +kernel) (by decide +kernel) ⟨by decide, by decide⟩ rfl (jLe.rf _) (Nat.le_of_ble_eq_true rfl) ⟨Nat.zero_le _, Nat.zero_le _⟩ (fun v_ w_ hp_ => ?_)
  obtain ⟨rfl, rfl⟩ := hp_
  show J x 0 0 (wZ Y h q z) 6 [(0, .ref h), (1, .int (jI k))] [.int (jI (if 0 ≤ k ∧ k ≤ 2 then 1 else 0))]
  refine j_ifz_ne (tgt := 11) G dX3_fellHere_6 (by decide) (fun c6 => ?_) (fun c6 => ?_)
  · have f11 := hI.st k (by omega) (by omega)
    have f12 := hI.pl k (by omega) (by omega)
    have f13 := hI.s2
    have f14 := hI.wo (z (15 + 4 * k)) (by omega) (by omega)
    refine j_aload_n G 0 dX3_fellHere_11 rfl ?_
    refine j_get (q := 8) (C := RX3) (T := TX3) (N := 13) (v := .ref (q 7)) G 0 hinX3 dX3_fellHere_12 rfl rfl (by decide) (by decide +kernel) rfl ?_
    refine j_iconst G dX3_fellHere_15 (v := 2) rfl ?_
    refine j_iald (v := z 2) G 8 dX3_fellHere_16 rfl (by omega) rfl ?_
    refine j_aload_n G 0 dX3_fellHere_17 rfl ?_
    refine j_get (q := 4) (C := RX3) (T := TX3) (N := 13) (v := .ref (q 3)) G 0 hinX3 dX3_fellHere_18 rfl rfl (by decide) (by decide +kernel) rfl ?_
    refine j_iload_n G 1 dX3_fellHere_21 rfl ?_
    refine j_iald (v := z (16 + 4 * k)) G 4 dX3_fellHere_22 rfl (by omega) rfl ?_
    refine j_icmp_le (tgt := 29) G dX3_fellHere_23 (by decide) (by omega) (by omega) (fun c23 => ?_) (fun c23 => ?_)
    · refine j_aload_n G 0 dX3_fellHere_29 rfl ?_
      refine j_get (q := 3) (C := RX3) (T := TX3) (N := 13) (v := .ref (q 2)) G 0 hinX3 dX3_fellHere_30 rfl rfl (by decide) (by decide +kernel) rfl ?_
      refine j_iload_n G 1 dX3_fellHere_33 rfl ?_
      refine j_iald (v := z (15 + 4 * k)) G 3 dX3_fellHere_34 rfl (by omega) rfl ?_
      refine j_istore_n (lv' := [(2, .int (jI (z (15 + 4 * k)))), (0, .ref h), (1, .int (jI k))]) G dX3_fellHere_35 (by decide) rfl ?_
      refine j_aload_n G 1 dX3_fellHere_36 rfl ?_
      refine j_get (q := 0) (C := RX3) (T := TX3) (N := 13) (v := .ref (q 0)) G 0 hinX3 dX3_fellHere_37 rfl rfl (by decide) (by decide +kernel) rfl ?_
      refine j_iload_n G 0 dX3_fellHere_40 rfl ?_
      refine j_iald (v := z (28 + (z (15 + 4 * k)))) G 1 dX3_fellHere_41 rfl (by omega) rfl ?_
      refine j_istore_n (lv' := [(3, .int (jI (z (28 + (z (15 + 4 * k)))))), (2, .int (jI (z (15 + 4 * k)))), (0, .ref h), (1, .int (jI k))]) G dX3_fellHere_42 (by decide) rfl ?_
      refine j_iload_n G 0 dX3_fellHere_43 rfl ?_
      refine j_if_ne (tgt := 50) G dX3_fellHere_44 (by decide) (by omega) (fun c44 => ?_) (fun c44 => ?_)
      · refine j_aload_n G 2 dX3_fellHere_50 rfl ?_
        refine j_get (q := 0) (C := RX3) (T := TX3) (N := 13) (v := .ref (q 0)) G 0 hinX3 dX3_fellHere_51 rfl rfl (by decide) (by decide +kernel) rfl ?_
        refine j_iload_n G 1 dX3_fellHere_54 rfl ?_
        refine j_iconst G dX3_fellHere_55 (v := 0) rfl ?_
        refine j_iast (ws' := wV Y h q (upZ (fun j => z (28 + j)) (z (15 + 4 * k)) 0) (fun j => z (156 + j)) (z 92) (fun j => z (15 + 4 * j)) (fun j => z (16 + 4 * j)) (fun j => z (17 + 4 * j)) (fun j => z (18 + 4 * j)) (fun j => z (7 + j)) (fun j => z j) (z 3) (z 4) (z 5) (z 6)) G 1 dX3_fellHere_56 rfl (by omega) rfl ?_
        refine j_aload_n G 2 dX3_fellHere_57 rfl ?_
        refine j_get (q := 1) (C := RX3) (T := TX3) (N := 13) (v := .ref (q 1)) G 0 hinX3 dX3_fellHere_58 rfl rfl (by decide) (by decide +kernel) rfl ?_
        refine j_iload_n G 1 dX3_fellHere_61 rfl ?_
        refine j_iconst G dX3_fellHere_62 (v := 1) rfl ?_
        refine j_zast (ws' := wV Y h q (upZ (fun j => z (28 + j)) (z (15 + 4 * k)) 0) (upZ (fun j => z (156 + j)) (z (15 + 4 * k)) 1) (z 92) (fun j => z (15 + 4 * j)) (fun j => z (16 + 4 * j)) (fun j => z (17 + 4 * j)) (fun j => z (18 + 4 * j)) (fun j => z (7 + j)) (fun j => z j) (z 3) (z 4) (z 5) (z 6)) G 2 dX3_fellHere_63 rfl (by omega) (by omega) rfl ?_
        refine j_aload_n G 2 dX3_fellHere_64 rfl ?_
        refine j_get (q := 4) (C := RX3) (T := TX3) (N := 13) (v := .ref (q 3)) G 0 hinX3 dX3_fellHere_65 rfl rfl (by decide) (by decide +kernel) rfl ?_
        refine j_iload_n G 3 dX3_fellHere_68 rfl ?_
        refine j_dup2 G dX3_fellHere_69 rfl rfl ?_
        refine j_iald (v := z (16 + 4 * k)) G 4 dX3_fellHere_70 rfl (by omega) rfl ?_
        refine j_aload_n G 2 dX3_fellHere_71 rfl ?_
        refine j_get (q := 8) (C := RX3) (T := TX3) (N := 13) (v := .ref (q 7)) G 0 hinX3 dX3_fellHere_72 rfl rfl (by decide) (by decide +kernel) rfl ?_
        refine j_iconst G dX3_fellHere_75 (v := 2) rfl ?_
        refine j_iald (v := z 2) G 8 dX3_fellHere_76 rfl (by omega) rfl ?_
        refine j_isub G dX3_fellHere_77 ?_
        refine j_iast (ws' := wV Y h q (upZ (fun j => z (28 + j)) (z (15 + 4 * k)) 0) (upZ (fun j => z (156 + j)) (z (15 + 4 * k)) 1) (z 92) (fun j => z (15 + 4 * j)) (upZ (fun j => z (16 + 4 * j)) k ((z (16 + 4 * k)) - (z 2))) (fun j => z (17 + 4 * j)) (fun j => z (18 + 4 * j)) (fun j => z (7 + j)) (fun j => z j) (z 3) (z 4) (z 5) (z 6)) G 4 dX3_fellHere_78 rfl (by omega) rfl ?_
        refine j_aload_n G 2 dX3_fellHere_79 rfl ?_
        refine j_get (q := 5) (C := RX3) (T := TX3) (N := 13) (v := .ref (q 4)) G 0 hinX3 dX3_fellHere_80 rfl rfl (by decide) (by decide +kernel) rfl ?_
        refine j_iload_n G 3 dX3_fellHere_83 rfl ?_
        refine j_dup2 G dX3_fellHere_84 rfl rfl ?_
        refine j_iald (v := z (17 + 4 * k)) G 5 dX3_fellHere_85 rfl (by omega) rfl ?_
        refine j_iload_n G 0 dX3_fellHere_86 rfl ?_
        refine j_iadd G dX3_fellHere_87 ?_
        refine j_iast (ws' := wV Y h q (upZ (fun j => z (28 + j)) (z (15 + 4 * k)) 0) (upZ (fun j => z (156 + j)) (z (15 + 4 * k)) 1) (z 92) (fun j => z (15 + 4 * j)) (upZ (fun j => z (16 + 4 * j)) k ((z (16 + 4 * k)) - (z 2))) (upZ (fun j => z (17 + 4 * j)) k ((z (17 + 4 * k)) + (z (28 + (z (15 + 4 * k)))))) (fun j => z (18 + 4 * j)) (fun j => z (7 + j)) (fun j => z j) (z 3) (z 4) (z 5) (z 6)) G 5 dX3_fellHere_88 rfl (by omega) rfl ?_
        refine j_aload_n G 2 dX3_fellHere_89 rfl ?_
        refine j_get (q := 6) (C := RX3) (T := TX3) (N := 13) (v := .ref (q 5)) G 0 hinX3 dX3_fellHere_90 rfl rfl (by decide) (by decide +kernel) rfl ?_
        refine j_iload_n G 3 dX3_fellHere_93 rfl ?_
        refine j_dup2 G dX3_fellHere_94 rfl rfl ?_
        refine j_iald (v := z (18 + 4 * k)) G 6 dX3_fellHere_95 rfl (by omega) rfl ?_
        refine j_iconst G dX3_fellHere_96 (v := 1) rfl ?_
        refine j_iadd G dX3_fellHere_97 ?_
        refine j_iast (ws' := wV Y h q (upZ (fun j => z (28 + j)) (z (15 + 4 * k)) 0) (upZ (fun j => z (156 + j)) (z (15 + 4 * k)) 1) (z 92) (fun j => z (15 + 4 * j)) (upZ (fun j => z (16 + 4 * j)) k ((z (16 + 4 * k)) - (z 2))) (upZ (fun j => z (17 + 4 * j)) k ((z (17 + 4 * k)) + (z (28 + (z (15 + 4 * k)))))) (upZ (fun j => z (18 + 4 * j)) k ((z (18 + 4 * k)) + 1)) (fun j => z (7 + j)) (fun j => z j) (z 3) (z 4) (z 5) (z 6)) G 6 dX3_fellHere_98 rfl (by omega) rfl ?_
        refine j_iload_n G 0 dX3_fellHere_99 rfl ?_
        exact j_reti G dX3_fellHere_100 (by unfold F_fell; (repeat' split) <;> first | rfl | omega) (by rw [show G_fell z k = GF z k from if_pos (by omega)]; refine (wV_le (fun j h0 h1 => ?_) (fun j h0 h1 => ?_) ?_ (fun j h0 h1 => ?_) (fun j h0 h1 => ?_) (fun j h0 h1 => ?_) (fun j h0 h1 => ?_) (fun j h0 h1 => ?_) (fun j h0 h1 => ?_) ?_ ?_ ?_ ?_).le <;> (first | rfl | (simp only [GF, upZ]; (repeat' split) <;> first | rfl | omega | grind))) kr
      · refine j_bipush G dX3_fellHere_47 (v := (-5)) rfl ?_
        exact j_reti G dX3_fellHere_49 (by unfold F_fell; (repeat' split) <;> first | rfl | omega) (by rw [show G_fell z k = z from if_neg (by omega)]; exact jLe.rf _) kr
    · refine j_bipush G dX3_fellHere_26 (v := (-4)) rfl ?_
      exact j_reti G dX3_fellHere_28 (by unfold F_fell; (repeat' split) <;> first | rfl | omega) (by rw [show G_fell z k = z from if_neg (by omega)]; exact jLe.rf _) kr
  · refine j_iconst G dX3_fellHere_9 (v := (-1)) rfl ?_
    exact j_reti G dX3_fellHere_10 (by unfold F_fell; (repeat' split) <;> first | rfl | omega) (by rw [show G_fell z k = z from if_neg (by omega)]; exact jLe.rf _) kr
