set_option maxHeartbeats 4000000 in
set_option maxRecDepth 100000 in
theorem c_X4_isIn (l : Launch) (D : va_G) (Y : Nat → ClassId) (v : Int) (a : Int) (b : Int) (hv : -2147483648 ≤ v ∧ v < 2147483648) (ha : -2147483648 ≤ a ∧ a < 2147483648) (hb : -2147483648 ≤ b ∧ b < 2147483648) : jM l yX4_isIn wsX4_isIn { frames := 0, cells := 0, slots := 0, locals := 0 } D Y [.int (jI v), .int (jI a), .int (jI b)] ([]) (fun v_ w_ => v_ = some (.int (jI (if a ≤ v ∧ v ≤ b then 1 else 0))) ∧ w_ = ([])) 0 0 := by
  refine jM_of (cc := cX4_isIn) (maxL := 3) (ret := (some .boolean)) (by decide) rfl (Nat.le_of_ble_eq_true rfl) (fun v w' h => Or.inr (Or.inl ⟨_, _, rfl, h.1, jI_z (ite_01 _)⟩)) ?_
  intro x G kr0
  have kr := kr0 _ _ ⟨rfl, rfl⟩
  have G : jG x l D Y cX4_isIn RX4 wsX4_isIn 3 ({ frames := 0, cells := 0, slots := 0, locals := 0 } : Room) (some .boolean) "isIn" := G
  show J x 0 0 ([]) 0 [(0, .int (jI v)), (1, .int (jI a)), (2, .int (jI b))] []
  refine j_iload_n G 0 dX4_isIn_0 rfl ?_
  refine j_iload_n G 1 dX4_isIn_1 rfl ?_
  refine j_icmp_lt (tgt := 14) G dX4_isIn_2 (by decide) (by omega) (by omega) (fun c2 => ?_) (fun c2 => ?_)
  · refine j_iconst G dX4_isIn_14 (v := 0) rfl ?_
    exact j_reti G dX4_isIn_15 (by first | rfl | omega | exact ite_T (by omega) | exact ite_F (by omega)) (jLe.rf _) kr
  · refine j_iload_n G 0 dX4_isIn_5 rfl ?_
    refine j_iload_n G 2 dX4_isIn_6 rfl ?_
    refine j_icmp_gt (tgt := 14) G dX4_isIn_7 (by decide) (by omega) (by omega) (fun c7 => ?_) (fun c7 => ?_)
    · refine j_iconst G dX4_isIn_14 (v := 0) rfl ?_
      exact j_reti G dX4_isIn_15 (by first | rfl | omega | exact ite_T (by omega) | exact ite_F (by omega)) (jLe.rf _) kr
    · refine j_iconst G dX4_isIn_10 (v := 1) rfl ?_
      refine j_goto (tgt := 15) G dX4_isIn_11 (by decide) ?_
      exact j_reti G dX4_isIn_15 (by first | rfl | omega | exact ite_T (by omega) | exact ite_F (by omega)) (jLe.rf _) kr

set_option maxHeartbeats 4000000 in
set_option maxRecDepth 100000 in
theorem c_X4_isError (l : Launch) (D : va_G) (Y : Nat → ClassId) (v : Int) (hv : -2147483648 ≤ v ∧ v < 2147483648) : jM l yX4_isError wsX4_isError { frames := 0, cells := 0, slots := 0, locals := 0 } D Y [.int (jI v)] ([]) (fun v_ w_ => v_ = some (.int (jI (if v < 0 ∧ ¬ v = -5 then 1 else 0))) ∧ w_ = ([])) 0 0 := by
  refine jM_of (cc := cX4_isError) (maxL := 1) (ret := (some .boolean)) (by decide) rfl (Nat.le_of_ble_eq_true rfl) (fun v w' h => Or.inr (Or.inl ⟨_, _, rfl, h.1, jI_z (ite_01 _)⟩)) ?_
  intro x G kr0
  have kr := kr0 _ _ ⟨rfl, rfl⟩
  have G : jG x l D Y cX4_isError RX4 wsX4_isError 1 ({ frames := 0, cells := 0, slots := 0, locals := 0 } : Room) (some .boolean) "isError" := G
  show J x 0 0 ([]) 0 [(0, .int (jI v))] []
  refine j_iload_n G 0 dX4_isError_0 rfl ?_
  refine j_if_ge (tgt := 14) G dX4_isError_1 (by decide) (by omega) (fun c1 => ?_) (fun c1 => ?_)
  · refine j_iconst G dX4_isError_14 (v := 0) rfl ?_
    exact j_reti G dX4_isError_15 (by first | rfl | omega | exact ite_T (by omega) | exact ite_F (by omega)) (jLe.rf _) kr
  · refine j_iload_n G 0 dX4_isError_4 rfl ?_
    refine j_bipush G dX4_isError_5 (v := (-5)) rfl ?_
    refine j_icmp_eq (tgt := 14) G dX4_isError_7 (by decide) (by omega) (by omega) (fun c7 => ?_) (fun c7 => ?_)
    · refine j_iconst G dX4_isError_14 (v := 0) rfl ?_
      exact j_reti G dX4_isError_15 (by first | rfl | omega | exact ite_T (by omega) | exact ite_F (by omega)) (jLe.rf _) kr
    · refine j_iconst G dX4_isError_10 (v := 1) rfl ?_
      refine j_goto (tgt := 15) G dX4_isError_11 (by decide) ?_
      exact j_reti G dX4_isError_15 (by first | rfl | omega | exact ite_T (by omega) | exact ite_F (by omega)) (jLe.rf _) kr

set_option maxHeartbeats 4000000 in
set_option maxRecDepth 100000 in
theorem c_X2_isOpen (l : Launch) (D : va_G) (Y : Nat → ClassId) (a : Nat) (t : Int → Int) (p : Int) (hp : 0 ≤ p ∧ p < 64) (ht : ∀ r : Int, 0 ≤ r → r < 8 → -2147483648 ≤ t r ∧ t r < 2147483648) : jM l yX2_isOpen wsX2_isOpen { frames := 0, cells := 0, slots := 0, locals := 0 } D Y [.ref a, .int (jI p)] ([aN Y a 8 t]) (fun v_ w_ => v_ = some (.int (jI (if t (p / 8) = -5 ∨ t (p / 8) = p % 8 then 1 else 0))) ∧ w_ = ([aN Y a 8 t])) 0 0 := by
  refine jM_of (cc := cX2_isOpen) (maxL := 3) (ret := (some .boolean)) (by decide) rfl (Nat.le_of_ble_eq_true rfl) (fun v w' h => Or.inr (Or.inl ⟨_, _, rfl, h.1, jI_z (ite_01 _)⟩)) ?_
  intro x G kr0
  have kr := kr0 _ _ ⟨rfl, rfl⟩
  have G : jG x l D Y cX2_isOpen RX2 wsX2_isOpen 3 ({ frames := 0, cells := 0, slots := 0, locals := 0 } : Room) (some .boolean) "isOpen" := G
  show J x 0 0 ([aN Y a 8 t]) 0 [(0, .ref a), (1, .int (jI p))] []
  refine j_aload_n G 0 dX2_isOpen_0 rfl ?_
  refine j_iload_n G 1 dX2_isOpen_1 rfl ?_
  refine j_bipush G dX2_isOpen_2 (v := 8) rfl ?_
  refine j_idiv G dX2_isOpen_4 (by omega) (by omega) ?_
  refine j_iald (v := t (p / 8)) G 0 dX2_isOpen_5 rfl (by omega) rfl ?_
  refine j_istore_n (lv' := [(2, .int (jI (t (p / 8)))), (0, .ref a), (1, .int (jI p))]) G dX2_isOpen_6 (by decide) rfl ?_
  have f1 := ht (p / 8) (by omega) (by omega)
  refine j_iload_n G 0 dX2_isOpen_7 rfl ?_
  refine j_bipush G dX2_isOpen_8 (v := (-5)) rfl ?_
  refine j_icmp_eq (tgt := 21) G dX2_isOpen_10 (by decide) (by omega) (by omega) (fun c10 => ?_) (fun c10 => ?_)
  · refine j_iconst G dX2_isOpen_21 (v := 1) rfl ?_
    refine j_goto (tgt := 26) G dX2_isOpen_22 (by decide) ?_
    exact j_reti G dX2_isOpen_26 (by first | rfl | omega | exact ite_T (by omega) | exact ite_F (by omega)) (jLe.rf _) kr
  · refine j_iload_n G 0 dX2_isOpen_13 rfl ?_
    refine j_iload_n G 2 dX2_isOpen_14 rfl ?_
    refine j_bipush G dX2_isOpen_15 (v := 8) rfl ?_
    refine j_irem G dX2_isOpen_17 (by omega) (by omega) ?_
    refine j_icmp_ne (tgt := 25) G dX2_isOpen_18 (by decide) (by omega) (by omega) (fun c18 => ?_) (fun c18 => ?_)
    · refine j_iconst G dX2_isOpen_25 (v := 0) rfl ?_
      exact j_reti G dX2_isOpen_26 (by first | rfl | omega | exact ite_T (by omega) | exact ite_F (by omega)) (jLe.rf _) kr
    · refine j_iconst G dX2_isOpen_21 (v := 1) rfl ?_
      refine j_goto (tgt := 26) G dX2_isOpen_22 (by decide) ?_
      exact j_reti G dX2_isOpen_26 (by first | rfl | omega | exact ite_T (by omega) | exact ite_F (by omega)) (jLe.rf _) kr

set_option maxHeartbeats 4000000 in
set_option maxRecDepth 100000 in
theorem c_X2_around (l : Launch) (D : va_G) (Y : Nat → ClassId) (a : Nat) (f : Int → Int) (p : Int) (hp : 0 ≤ p ∧ p < 64) : jM l yX2_around wsX2_around { frames := 0, cells := 0, slots := 0, locals := 0 } D Y [.ref a, .int (jI p)] ([aN Y a 64 f]) (fun v_ w_ => v_ = some (.int (jI (pAr f p))) ∧ w_ = ([aN Y a 64 f])) 0 0 := by
  refine jM_of (cc := cX2_around) (maxL := 3) (ret := (some .int)) (by decide) rfl (Nat.le_of_ble_eq_true rfl) (fun v w' h => Or.inr (Or.inl ⟨_, _, rfl, h.1, rfl⟩)) ?_
  intro x G kr0
  have kr := kr0 _ _ ⟨rfl, rfl⟩
  have G : jG x l D Y cX2_around RX2 wsX2_around 3 ({ frames := 0, cells := 0, slots := 0, locals := 0 } : Room) (some .int) "around" := G
  show J x 0 0 ([aN Y a 64 f]) 0 [(0, .ref a), (1, .int (jI p))] []
  refine j_aload_n G 0 dX2_around_0 rfl ?_
  refine j_iload_n G 1 dX2_around_1 rfl ?_
  refine j_iald (v := f p) G 0 dX2_around_2 rfl (by omega) rfl ?_
  refine j_istore_n (lv' := [(2, .int (jI (f p))), (0, .ref a), (1, .int (jI p))]) G dX2_around_3 (by decide) rfl ?_
  refine j_iload_n G 2 dX2_around_4 rfl ?_
  refine j_bipush G dX2_around_5 (v := 8) rfl ?_
  refine j_irem G dX2_around_7 (by omega) (by omega) ?_
  refine j_if_le (tgt := 19) G dX2_around_8 (by decide) (by omega) (fun c8 => ?_) (fun c8 => ?_)
  · refine j_iload_n G 2 dX2_around_19 rfl ?_
    refine j_bipush G dX2_around_20 (v := 8) rfl ?_
    refine j_irem G dX2_around_22 (by omega) (by omega) ?_
    refine j_bipush G dX2_around_23 (v := 7) rfl ?_
    refine j_icmp_ge (tgt := 36) G dX2_around_25 (by decide) (by omega) (by omega) (fun c25 => ?_) (fun c25 => ?_)
    · refine j_iload_n G 0 dX2_around_36 rfl ?_
      exact j_reti G dX2_around_37 (by simp only [pAr]; (repeat' split) <;> omega) (jLe.rf _) kr
    · refine j_iload_n G 0 dX2_around_28 rfl ?_
      refine j_aload_n G 1 dX2_around_29 rfl ?_
      refine j_iload_n G 2 dX2_around_30 rfl ?_
      refine j_iconst G dX2_around_31 (v := 1) rfl ?_
      refine j_iadd G dX2_around_32 ?_
      refine j_iald (v := f (p + 1)) G 0 dX2_around_33 rfl (by omega) rfl ?_
      refine j_iadd G dX2_around_34 ?_
      refine j_istore_n (lv' := [(2, .int (jI ((f p) + (f (p + 1))))), (0, .ref a), (1, .int (jI p))]) G dX2_around_35 (by decide) rfl ?_
      refine j_iload_n G 0 dX2_around_36 rfl ?_
      exact j_reti G dX2_around_37 (by simp only [pAr]; (repeat' split) <;> omega) (jLe.rf _) kr
  · refine j_iload_n G 0 dX2_around_11 rfl ?_
    refine j_aload_n G 1 dX2_around_12 rfl ?_
    refine j_iload_n G 2 dX2_around_13 rfl ?_
    refine j_iconst G dX2_around_14 (v := 1) rfl ?_
    refine j_isub G dX2_around_15 ?_
    refine j_iald (v := f (p - 1)) G 0 dX2_around_16 rfl (by omega) rfl ?_
    refine j_iadd G dX2_around_17 ?_
    refine j_istore_n (lv' := [(2, .int (jI ((f p) + (f (p - 1))))), (0, .ref a), (1, .int (jI p))]) G dX2_around_18 (by decide) rfl ?_
    refine j_iload_n G 2 dX2_around_19 rfl ?_
    refine j_bipush G dX2_around_20 (v := 8) rfl ?_
    refine j_irem G dX2_around_22 (by omega) (by omega) ?_
    refine j_bipush G dX2_around_23 (v := 7) rfl ?_
    refine j_icmp_ge (tgt := 36) G dX2_around_25 (by decide) (by omega) (by omega) (fun c25 => ?_) (fun c25 => ?_)
    · refine j_iload_n G 0 dX2_around_36 rfl ?_
      exact j_reti G dX2_around_37 (by simp only [pAr]; (repeat' split) <;> omega) (jLe.rf _) kr
    · refine j_iload_n G 0 dX2_around_28 rfl ?_
      refine j_aload_n G 1 dX2_around_29 rfl ?_
      refine j_iload_n G 2 dX2_around_30 rfl ?_
      refine j_iconst G dX2_around_31 (v := 1) rfl ?_
      refine j_iadd G dX2_around_32 ?_
      refine j_iald (v := f (p + 1)) G 0 dX2_around_33 rfl (by omega) rfl ?_
      refine j_iadd G dX2_around_34 ?_
      refine j_istore_n (lv' := [(2, .int (jI (((f p) + (f (p - 1))) + (f (p + 1))))), (0, .ref a), (1, .int (jI p))]) G dX2_around_35 (by decide) rfl ?_
      refine j_iload_n G 0 dX2_around_36 rfl ?_
      exact j_reti G dX2_around_37 (by simp only [pAr]; (repeat' split) <;> omega) (jLe.rf _) kr

set_option maxHeartbeats 4000000 in
set_option maxRecDepth 100000 in
theorem c_X2_follow (l : Launch) (D : va_G) (Y : Nat → ClassId) (h : Nat) (q : Nat → Nat) (ab : Int → Int) (be : Int → Int) (al : Int) (a : Nat) (t : Int → Int) (ht : ∀ r : Int, 0 ≤ r → r < 8 → -2147483648 ≤ t r ∧ t r < 2147483648) : jM l yX2_follow wsX2_follow { frames := 1, cells := 0, slots := 0, locals := 22 } D Y [.ref h, .ref a] (pV Y h q ab be al ++ ([aN Y a 8 t])) (fun v_ w_ => v_ = none ∧ w_ = (pT Y h q t ++ ([aN Y a 8 t]))) 0 0 := by
  refine jM_of (cc := cX2_follow) (maxL := 3) (ret := none) (by decide) rfl (Nat.le_of_ble_eq_true rfl) (fun v w' h => Or.inl ⟨rfl, h.1⟩) ?_
  intro x G kr0
  have kr := kr0 _ _ ⟨rfl, rfl⟩
  have G : jG x l D Y cX2_follow RX2 wsX2_follow 3 ({ frames := 1, cells := 0, slots := 0, locals := 22 } : Room) none "follow" := G
  have hinX2 : ∀ w ∈ wsX20, w ∈ wsX2_follow := fun _ h => List.mem_cons_of_mem _ (List.mem_append_right _ h)
  show J x 0 0 (pV Y h q ab be al ++ ([aN Y a 8 t])) 0 [(0, .ref h), (1, .ref a)] []
  refine j_iconst G dX2_follow_0 (v := 0) rfl ?_
  refine j_istore_n (lv' := [(2, .int (jI 0)), (0, .ref h), (1, .ref a)]) G dX2_follow_1 (by decide) rfl ?_
  have lp2 : ∀ (n_ : Nat) (i : Int) (f : Int → Int), (0 ≤ i ∧ i ≤ 64) → (∀ j : Int, 0 ≤ j → j < i → f j = pAb t j) → (64 - i) < (n_ : Int) → J x 0 0 (pV Y h q f be al ++ ([aN Y a 8 t])) 2 [(0, .ref h), (1, .ref a), (2, .int (jI i))] [] := by
    intro n_
    induction n_ with
    | zero =>
      intro i f hi hf hm_
      exact absurd hm_ (by omega)
    | succ n_ ih2 =>
      intro i f hi hf hm_
      refine j_iload_n G 2 dX2_follow_2 rfl ?_
      refine j_bipush G dX2_follow_3 (v := 64) rfl ?_
      refine j_icmp_ge (tgt := 65) G dX2_follow_5 (by decide) (by omega) (by omega) (fun c5 => ?_) (fun c5 => ?_)
      · refine j_bipush G dX2_follow_65 (v := 63) rfl ?_
        refine j_istore_n (lv' := [(2, .int (jI 63)), (0, .ref h), (1, .ref a)]) G dX2_follow_67 (by decide) rfl ?_
        have lp68 : ∀ (n_ : Nat) (i : Int) (g : Int → Int), (-1 ≤ i ∧ i ≤ 63) → (∀ j : Int, i < j → j < 64 → g j = pBe t j) → (i + 1) < (n_ : Int) → J x 0 0 (pV Y h q f g al ++ ([aN Y a 8 t])) 68 [(0, .ref h), (1, .ref a), (2, .int (jI i))] [] := by
          intro n_
          induction n_ with
          | zero =>
            intro i g hi hg hm_
            exact absurd hm_ (by omega)
          | succ n_ ih68 =>
            intro i g hi hg hm_
            refine j_iload_n G 2 dX2_follow_68 rfl ?_
            refine j_if_lt (tgt := 129) G dX2_follow_69 (by decide) (by omega) (fun c69 => ?_) (fun c69 => ?_)
            · refine j_aload_n G 0 dX2_follow_129 rfl ?_
              refine j_iconst G dX2_follow_130 (v := 0) rfl ?_
              refine j_put (q := 2) (C := RX2) (T := TX2) (N := 3) (ws' := pV Y h q f g 0 ++ ([aN Y a 8 t])) G 0 hinX2 tyX2 tyX2_ok nmX2 dX2_follow_131 rfl rfl (by decide) (by decide +kernel) rfl rfl rfl rfl (Nat.le_of_ble_eq_true rfl) rfl ?_
              refine j_iconst G dX2_follow_134 (v := 0) rfl ?_
              refine j_istore_n (lv' := [(2, .int (jI 0)), (0, .ref h), (1, .ref a)]) G dX2_follow_135 (by decide) rfl ?_
              have lp136 : ∀ (n_ : Nat) (i : Int) (s : Int), (0 ≤ i ∧ i ≤ 8) → (s = sumI i.toNat (pBe t)) → (8 - i) < (n_ : Int) → J x 0 0 (pV Y h q f g s ++ ([aN Y a 8 t])) 136 [(0, .ref h), (1, .ref a), (2, .int (jI i))] [] := by
                intro n_
                induction n_ with
                | zero =>
                  intro i s hi hs hm_
                  exact absurd hm_ (by omega)
                | succ n_ ih136 =>
                  intro i s hi hs hm_
                  refine j_iload_n G 2 dX2_follow_136 rfl ?_
                  refine j_bipush G dX2_follow_137 (v := 8) rfl ?_
                  refine j_icmp_ge (tgt := 163) G dX2_follow_139 (by decide) (by omega) (by omega) (fun c139 => ?_) (fun c139 => ?_)
                  · exact j_retv G dX2_follow_163 ((wLe.app (pV_le (fun j h0 h1 => hf j h0 (by omega)) (fun j h0 h1 => hg j (by omega) (by omega)) (by rw [hs, show i = 8 by omega]; rfl)) (wLe.rf _)).le) kr
                  · refine j_aload_n G 0 dX2_follow_142 rfl ?_
                    refine j_dup G dX2_follow_143 rfl ?_
                    refine j_get (q := 2) (C := RX2) (T := TX2) (N := 3) (v := .int (jI s)) G 0 hinX2 dX2_follow_144 rfl rfl (by decide) (by decide +kernel) rfl ?_
                    refine j_aload_n G 0 dX2_follow_147 rfl ?_
                    refine j_get (q := 1) (C := RX2) (T := TX2) (N := 3) (v := .ref (q 1)) G 0 hinX2 dX2_follow_148 rfl rfl (by decide) (by decide +kernel) rfl ?_
                    refine j_iload_n G 2 dX2_follow_151 rfl ?_
                    refine j_iald (v := g i) G 2 dX2_follow_152 rfl (by omega) rfl ?_
                    refine j_iadd G dX2_follow_153 ?_
                    refine j_put (q := 2) (C := RX2) (T := TX2) (N := 3) (ws' := pV Y h q f g (s + (g i)) ++ ([aN Y a 8 t])) G 0 hinX2 tyX2 tyX2_ok nmX2 dX2_follow_154 rfl rfl (by decide) (by decide +kernel) rfl rfl rfl rfl (Nat.le_of_ble_eq_true rfl) rfl ?_
                    refine j_iinc (w := i + 1) (lv' := [(2, .int (jI (i + 1))), (0, .ref h), (1, .ref a)]) G 2 dX2_follow_157 rfl rfl (by decide) rfl ?_
                    refine j_goto (tgt := 136) G dX2_follow_160 (by decide) ?_
                    refine j_lv [1, 2, 0] (lv' := [(0, .ref h), (1, .ref a), (2, .int (jI (i + 1)))]) rfl ?_
                    exact ih136 (i + 1) (s + (g i)) (by omega) (by rw [sumI_S hi.1, hs, hg i (by omega) (by omega)]) (by omega)
              refine j_lv [1, 2, 0] (lv' := [(0, .ref h), (1, .ref a), (2, .int (jI 0))]) rfl ?_
              exact lp136 (Int.toNat ((8 - 0) + 1)) 0 0 (by omega) (by rfl) (by omega)
            · refine j_aload_n G 1 dX2_follow_72 rfl ?_
              refine j_iload_n G 2 dX2_follow_73 rfl ?_
              refine j_callS (nA := 2) (As := [.ref a, .int (jI i)]) (st := []) (wc := ([aN Y a 8 t])) (wr := (pV Y h q f g al)) G (c_X2_isOpen l D Y a t i (by first | assumption | omega) (by first | assumption | omega)) dX2_follow_74 rfl gX2_follow_X2_isOpen rfl rfl rfl (by decide +kernel) ⟨by decide, by decide⟩ rfl (jLe.pos [3, 0, 1, 2] rfl rfl) (Nat.le_of_ble_eq_true rfl) ⟨Nat.zero_le _, Nat.zero_le _⟩ (fun v_ w_ hp_ => ?_)
              obtain ⟨rfl, rfl⟩ := hp_
              refine j_conv (ws' := pV Y h q f g al ++ ([aN Y a 8 t])) (jLe.pos [1, 2, 3, 0] rfl rfl) ?_
              show J x 0 0 (pV Y h q f g al ++ ([aN Y a 8 t])) 77 [(0, .ref h), (1, .ref a), (2, .int (jI i))] [.int (jI (if t (i / 8) = -5 ∨ t (i / 8) = i % 8 then 1 else 0))]
              refine j_ifz_ne (tgt := 90) G dX2_follow_77 (by decide) (fun c77 => ?_) (fun c77 => ?_)
              · refine j_iload_n G 2 dX2_follow_90 rfl ?_
                refine j_bipush G dX2_follow_91 (v := 56) rfl ?_
                refine j_icmp_lt (tgt := 106) G dX2_follow_93 (by decide) (by omega) (by omega) (fun c93 => ?_) (fun c93 => ?_)
                · refine j_aload_n G 0 dX2_follow_106 rfl ?_
                  refine j_get (q := 1) (C := RX2) (T := TX2) (N := 3) (v := .ref (q 1)) G 0 hinX2 dX2_follow_107 rfl rfl (by decide) (by decide +kernel) rfl ?_
                  refine j_iload_n G 2 dX2_follow_110 rfl ?_
                  refine j_aload_n G 0 dX2_follow_111 rfl ?_
                  refine j_get (q := 1) (C := RX2) (T := TX2) (N := 3) (v := .ref (q 1)) G 0 hinX2 dX2_follow_112 rfl rfl (by decide) (by decide +kernel) rfl ?_
                  refine j_iload_n G 2 dX2_follow_115 rfl ?_
                  refine j_bipush G dX2_follow_116 (v := 8) rfl ?_
                  refine j_iadd G dX2_follow_118 ?_
                  refine j_callS (nA := 2) (As := [.ref (q 1), .int (jI (i + 8))]) (st := [.int (jI i), .ref (q 1)]) (wc := ([aN Y (q 1) 64 g])) (wr := [ob h 2 [.ref (q 0), .ref (q 1), .int (jI al)], aN Y (q 0) 64 f, aN Y a 8 t]) G (c_X2_around l D Y (q 1) g (i + 8) (by first | assumption | omega)) dX2_follow_119 rfl gX2_follow_X2_around rfl rfl rfl (by decide +kernel) ⟨by decide, by decide⟩ rfl (jLe.pos [2, 0, 1, 3] rfl rfl) (Nat.le_of_ble_eq_true rfl) ⟨Nat.zero_le _, Nat.zero_le _⟩ (fun v_ w_ hp_ => ?_)
                  obtain ⟨rfl, rfl⟩ := hp_
                  refine j_conv (ws' := pV Y h q f g al ++ ([aN Y a 8 t])) (jLe.pos [1, 2, 0, 3] rfl rfl) ?_
                  show J x 0 0 (pV Y h q f g al ++ ([aN Y a 8 t])) 122 [(0, .ref h), (1, .ref a), (2, .int (jI i))] [.int (jI (pAr g (i + 8))), .int (jI i), .ref (q 1)]
                  refine j_iast (ws' := pV Y h q f (upZ g i (pAr g (i + 8))) al ++ ([aN Y a 8 t])) G 2 dX2_follow_122 rfl (by omega) rfl ?_
                  refine j_iinc (w := i + (-1)) (lv' := [(2, .int (jI (i + (-1)))), (0, .ref h), (1, .ref a)]) G 2 dX2_follow_123 rfl rfl (by decide) rfl ?_
                  refine j_goto (tgt := 68) G dX2_follow_126 (by decide) ?_
                  refine j_lv [1, 2, 0] (lv' := [(0, .ref h), (1, .ref a), (2, .int (jI (i + (-1))))]) rfl ?_
                  exact ih68 (i + (-1)) (upZ g i (pAr g (i + 8))) (by omega) (by exact upZ_down hg (by first | exact (pBe_no (by omega) (by assumption)).symm | exact (pBe_1 (by omega) (by assumption)).symm | exact (pAr_congr (hg _ (by omega) (by omega)) (fun _ => hg _ (by omega) (by omega)) (fun _ => hg _ (by omega) (by omega))).trans (pBe_S (by omega) (by assumption)).symm)) (by omega)
                · refine j_aload_n G 0 dX2_follow_96 rfl ?_
                  refine j_get (q := 1) (C := RX2) (T := TX2) (N := 3) (v := .ref (q 1)) G 0 hinX2 dX2_follow_97 rfl rfl (by decide) (by decide +kernel) rfl ?_
                  refine j_iload_n G 2 dX2_follow_100 rfl ?_
                  refine j_iconst G dX2_follow_101 (v := 1) rfl ?_
                  refine j_iast (ws' := pV Y h q f (upZ g i 1) al ++ ([aN Y a 8 t])) G 2 dX2_follow_102 rfl (by omega) rfl ?_
                  refine j_goto (tgt := 123) G dX2_follow_103 (by decide) ?_
                  refine j_iinc (w := i + (-1)) (lv' := [(2, .int (jI (i + (-1)))), (0, .ref h), (1, .ref a)]) G 2 dX2_follow_123 rfl rfl (by decide) rfl ?_
                  refine j_goto (tgt := 68) G dX2_follow_126 (by decide) ?_
                  refine j_lv [1, 2, 0] (lv' := [(0, .ref h), (1, .ref a), (2, .int (jI (i + (-1))))]) rfl ?_
                  exact ih68 (i + (-1)) (upZ g i 1) (by omega) (by exact upZ_down hg (by first | exact (pBe_no (by omega) (by assumption)).symm | exact (pBe_1 (by omega) (by assumption)).symm | exact (pAr_congr (hg _ (by omega) (by omega)) (fun _ => hg _ (by omega) (by omega)) (fun _ => hg _ (by omega) (by omega))).trans (pBe_S (by omega) (by assumption)).symm)) (by omega)
              · refine j_aload_n G 0 dX2_follow_80 rfl ?_
                refine j_get (q := 1) (C := RX2) (T := TX2) (N := 3) (v := .ref (q 1)) G 0 hinX2 dX2_follow_81 rfl rfl (by decide) (by decide +kernel) rfl ?_
                refine j_iload_n G 2 dX2_follow_84 rfl ?_
                refine j_iconst G dX2_follow_85 (v := 0) rfl ?_
                refine j_iast (ws' := pV Y h q f (upZ g i 0) al ++ ([aN Y a 8 t])) G 2 dX2_follow_86 rfl (by omega) rfl ?_
                refine j_goto (tgt := 123) G dX2_follow_87 (by decide) ?_
                refine j_iinc (w := i + (-1)) (lv' := [(2, .int (jI (i + (-1)))), (0, .ref h), (1, .ref a)]) G 2 dX2_follow_123 rfl rfl (by decide) rfl ?_
                refine j_goto (tgt := 68) G dX2_follow_126 (by decide) ?_
                refine j_lv [1, 2, 0] (lv' := [(0, .ref h), (1, .ref a), (2, .int (jI (i + (-1))))]) rfl ?_
                exact ih68 (i + (-1)) (upZ g i 0) (by omega) (by exact upZ_down hg (by first | exact (pBe_no (by omega) (by assumption)).symm | exact (pBe_1 (by omega) (by assumption)).symm | exact (pAr_congr (hg _ (by omega) (by omega)) (fun _ => hg _ (by omega) (by omega)) (fun _ => hg _ (by omega) (by omega))).trans (pBe_S (by omega) (by assumption)).symm)) (by omega)
        refine j_lv [1, 2, 0] (lv' := [(0, .ref h), (1, .ref a), (2, .int (jI 63))]) rfl ?_
        exact lp68 (Int.toNat ((63 + 1) + 1)) 63 be (by omega) (by intro j h0 h1; omega) (by omega)
      · refine j_aload_n G 1 dX2_follow_8 rfl ?_
        refine j_iload_n G 2 dX2_follow_9 rfl ?_
        refine j_callS (nA := 2) (As := [.ref a, .int (jI i)]) (st := []) (wc := ([aN Y a 8 t])) (wr := (pV Y h q f be al)) G (c_X2_isOpen l D Y a t i (by first | assumption | omega) (by first | assumption | omega)) dX2_follow_10 rfl gX2_follow_X2_isOpen rfl rfl rfl (by decide +kernel) ⟨by decide, by decide⟩ rfl (jLe.pos [3, 0, 1, 2] rfl rfl) (Nat.le_of_ble_eq_true rfl) ⟨Nat.zero_le _, Nat.zero_le _⟩ (fun v_ w_ hp_ => ?_)
        obtain ⟨rfl, rfl⟩ := hp_
        refine j_conv (ws' := pV Y h q f be al ++ ([aN Y a 8 t])) (jLe.pos [1, 2, 3, 0] rfl rfl) ?_
        show J x 0 0 (pV Y h q f be al ++ ([aN Y a 8 t])) 13 [(0, .ref h), (1, .ref a), (2, .int (jI i))] [.int (jI (if t (i / 8) = -5 ∨ t (i / 8) = i % 8 then 1 else 0))]
        refine j_ifz_ne (tgt := 26) G dX2_follow_13 (by decide) (fun c13 => ?_) (fun c13 => ?_)
        · refine j_iload_n G 2 dX2_follow_26 rfl ?_
          refine j_bipush G dX2_follow_27 (v := 8) rfl ?_
          refine j_icmp_ge (tgt := 42) G dX2_follow_29 (by decide) (by omega) (by omega) (fun c29 => ?_) (fun c29 => ?_)
          · refine j_aload_n G 0 dX2_follow_42 rfl ?_
            refine j_get (q := 0) (C := RX2) (T := TX2) (N := 3) (v := .ref (q 0)) G 0 hinX2 dX2_follow_43 rfl rfl (by decide) (by decide +kernel) rfl ?_
            refine j_iload_n G 2 dX2_follow_46 rfl ?_
            refine j_aload_n G 0 dX2_follow_47 rfl ?_
            refine j_get (q := 0) (C := RX2) (T := TX2) (N := 3) (v := .ref (q 0)) G 0 hinX2 dX2_follow_48 rfl rfl (by decide) (by decide +kernel) rfl ?_
            refine j_iload_n G 2 dX2_follow_51 rfl ?_
            refine j_bipush G dX2_follow_52 (v := 8) rfl ?_
            refine j_isub G dX2_follow_54 ?_
            refine j_callS (nA := 2) (As := [.ref (q 0), .int (jI (i - 8))]) (st := [.int (jI i), .ref (q 0)]) (wc := ([aN Y (q 0) 64 f])) (wr := [ob h 2 [.ref (q 0), .ref (q 1), .int (jI al)], aN Y (q 1) 64 be, aN Y a 8 t]) G (c_X2_around l D Y (q 0) f (i - 8) (by first | assumption | omega)) dX2_follow_55 rfl gX2_follow_X2_around rfl rfl rfl (by decide +kernel) ⟨by decide, by decide⟩ rfl (jLe.pos [1, 0, 2, 3] rfl rfl) (Nat.le_of_ble_eq_true rfl) ⟨Nat.zero_le _, Nat.zero_le _⟩ (fun v_ w_ hp_ => ?_)
            obtain ⟨rfl, rfl⟩ := hp_
            refine j_conv (ws' := pV Y h q f be al ++ ([aN Y a 8 t])) (jLe.pos [1, 0, 2, 3] rfl rfl) ?_
            show J x 0 0 (pV Y h q f be al ++ ([aN Y a 8 t])) 58 [(0, .ref h), (1, .ref a), (2, .int (jI i))] [.int (jI (pAr f (i - 8))), .int (jI i), .ref (q 0)]
            refine j_iast (ws' := pV Y h q (upZ f i (pAr f (i - 8))) be al ++ ([aN Y a 8 t])) G 1 dX2_follow_58 rfl (by omega) rfl ?_
            refine j_iinc (w := i + 1) (lv' := [(2, .int (jI (i + 1))), (0, .ref h), (1, .ref a)]) G 2 dX2_follow_59 rfl rfl (by decide) rfl ?_
            refine j_goto (tgt := 2) G dX2_follow_62 (by decide) ?_
            refine j_lv [1, 2, 0] (lv' := [(0, .ref h), (1, .ref a), (2, .int (jI (i + 1)))]) rfl ?_
            exact ih2 (i + 1) (upZ f i (pAr f (i - 8))) (by omega) (by exact upZ_step hf (by first | exact (pAb_no (by omega) (by assumption)).symm | exact (pAb_1 (by omega) (by assumption)).symm | exact (pAr_congr (hf _ (by omega) (by omega)) (fun _ => hf _ (by omega) (by omega)) (fun _ => hf _ (by omega) (by omega))).trans (pAb_S (by omega) (by assumption)).symm)) (by omega)
          · refine j_aload_n G 0 dX2_follow_32 rfl ?_
            refine j_get (q := 0) (C := RX2) (T := TX2) (N := 3) (v := .ref (q 0)) G 0 hinX2 dX2_follow_33 rfl rfl (by decide) (by decide +kernel) rfl ?_
            refine j_iload_n G 2 dX2_follow_36 rfl ?_
            refine j_iconst G dX2_follow_37 (v := 1) rfl ?_
            refine j_iast (ws' := pV Y h q (upZ f i 1) be al ++ ([aN Y a 8 t])) G 1 dX2_follow_38 rfl (by omega) rfl ?_
            refine j_goto (tgt := 59) G dX2_follow_39 (by decide) ?_
            refine j_iinc (w := i + 1) (lv' := [(2, .int (jI (i + 1))), (0, .ref h), (1, .ref a)]) G 2 dX2_follow_59 rfl rfl (by decide) rfl ?_
            refine j_goto (tgt := 2) G dX2_follow_62 (by decide) ?_
            refine j_lv [1, 2, 0] (lv' := [(0, .ref h), (1, .ref a), (2, .int (jI (i + 1)))]) rfl ?_
            exact ih2 (i + 1) (upZ f i 1) (by omega) (by exact upZ_step hf (by first | exact (pAb_no (by omega) (by assumption)).symm | exact (pAb_1 (by omega) (by assumption)).symm | exact (pAr_congr (hf _ (by omega) (by omega)) (fun _ => hf _ (by omega) (by omega)) (fun _ => hf _ (by omega) (by omega))).trans (pAb_S (by omega) (by assumption)).symm)) (by omega)
        · refine j_aload_n G 0 dX2_follow_16 rfl ?_
          refine j_get (q := 0) (C := RX2) (T := TX2) (N := 3) (v := .ref (q 0)) G 0 hinX2 dX2_follow_17 rfl rfl (by decide) (by decide +kernel) rfl ?_
          refine j_iload_n G 2 dX2_follow_20 rfl ?_
          refine j_iconst G dX2_follow_21 (v := 0) rfl ?_
          refine j_iast (ws' := pV Y h q (upZ f i 0) be al ++ ([aN Y a 8 t])) G 1 dX2_follow_22 rfl (by omega) rfl ?_
          refine j_goto (tgt := 59) G dX2_follow_23 (by decide) ?_
          refine j_iinc (w := i + 1) (lv' := [(2, .int (jI (i + 1))), (0, .ref h), (1, .ref a)]) G 2 dX2_follow_59 rfl rfl (by decide) rfl ?_
          refine j_goto (tgt := 2) G dX2_follow_62 (by decide) ?_
          refine j_lv [1, 2, 0] (lv' := [(0, .ref h), (1, .ref a), (2, .int (jI (i + 1)))]) rfl ?_
          exact ih2 (i + 1) (upZ f i 0) (by omega) (by exact upZ_step hf (by first | exact (pAb_no (by omega) (by assumption)).symm | exact (pAb_1 (by omega) (by assumption)).symm | exact (pAr_congr (hf _ (by omega) (by omega)) (fun _ => hf _ (by omega) (by omega)) (fun _ => hf _ (by omega) (by omega))).trans (pAb_S (by omega) (by assumption)).symm)) (by omega)
  refine j_lv [1, 2, 0] (lv' := [(0, .ref h), (1, .ref a), (2, .int (jI 0))]) rfl ?_
  exact lp2 (Int.toNat ((64 - 0) + 1)) 0 ab (by omega) (by intro j h0 h1; omega) (by omega)

set_option maxHeartbeats 4000000 in
set_option maxRecDepth 100000 in
theorem c_X2_through (l : Launch) (D : va_G) (Y : Nat → ClassId) (h : Nat) (q : Nat → Nat) (ab : Int → Int) (be : Int → Int) (al : Int) (p : Int) (hp : 0 ≤ p ∧ p < 64) : jM l yX2_through wsX2_through { frames := 0, cells := 0, slots := 0, locals := 0 } D Y [.ref h, .int (jI p)] (pV Y h q ab be al) (fun v_ w_ => v_ = some (.int (jI (ab p * be p))) ∧ w_ = (pV Y h q ab be al)) 0 0 := by
  refine jM_of (cc := cX2_through) (maxL := 2) (ret := (some .int)) (by decide) rfl (Nat.le_of_ble_eq_true rfl) (fun v w' h => Or.inr (Or.inl ⟨_, _, rfl, h.1, rfl⟩)) ?_
  intro x G kr0
  have kr := kr0 _ _ ⟨rfl, rfl⟩
  have G : jG x l D Y cX2_through RX2 wsX2_through 2 ({ frames := 0, cells := 0, slots := 0, locals := 0 } : Room) (some .int) "through" := G
  have hinX2 : ∀ w ∈ wsX20, w ∈ wsX2_through := fun _ h => List.mem_cons_of_mem _ (List.mem_append_right _ h)
  show J x 0 0 (pV Y h q ab be al) 0 [(0, .ref h), (1, .int (jI p))] []
  refine j_aload_n G 0 dX2_through_0 rfl ?_
  refine j_get (q := 0) (C := RX2) (T := TX2) (N := 3) (v := .ref (q 0)) G 0 hinX2 dX2_through_1 rfl rfl (by decide) (by decide +kernel) rfl ?_
  refine j_iload_n G 1 dX2_through_4 rfl ?_
  refine j_iald (v := ab p) G 1 dX2_through_5 rfl (by omega) rfl ?_
  refine j_aload_n G 0 dX2_through_6 rfl ?_
  refine j_get (q := 1) (C := RX2) (T := TX2) (N := 3) (v := .ref (q 1)) G 0 hinX2 dX2_through_7 rfl rfl (by decide) (by decide +kernel) rfl ?_
  refine j_iload_n G 1 dX2_through_10 rfl ?_
  refine j_iald (v := be p) G 2 dX2_through_11 rfl (by omega) rfl ?_
  refine j_imul G dX2_through_12 ?_
  exact j_reti G dX2_through_13 (by first | rfl | omega | exact ite_T (by omega) | exact ite_F (by omega)) (jLe.rf _) kr

set_option maxHeartbeats 4000000 in
set_option maxRecDepth 100000 in
theorem c_X2_within (l : Launch) (D : va_G) (Y : Nat → ClassId) (h : Nat) (q : Nat → Nat) (ab : Int → Int) (be : Int → Int) (al : Int) (p : Int) (w : Int) (hp : 0 ≤ p ∧ p < 64) (hw : 0 ≤ w ∧ w ≤ 2) : jM l yX2_within wsX2_within { frames := 1, cells := 0, slots := 0, locals := 21 } D Y [.ref h, .int (jI p), .int (jI w)] (pV Y h q ab be al) (fun v_ w_ => v_ = some (.int (jI (pHi (fun j => ab j * be j) p w))) ∧ w_ = (pV Y h q ab be al)) 0 0 := by
  refine jM_of (cc := cX2_within) (maxL := 8) (ret := (some .int)) (by decide) rfl (Nat.le_of_ble_eq_true rfl) (fun v w' h => Or.inr (Or.inl ⟨_, _, rfl, h.1, rfl⟩)) ?_
  intro x G kr0
  have kr := kr0 _ _ ⟨rfl, rfl⟩
  have G : jG x l D Y cX2_within RX2 wsX2_within 8 ({ frames := 1, cells := 0, slots := 0, locals := 21 } : Room) (some .int) "within" := G
  show J x 0 0 (pV Y h q ab be al) 0 [(0, .ref h), (1, .int (jI p)), (2, .int (jI w))] []
  refine j_iload_n G 1 dX2_within_0 rfl ?_
  refine j_iload_n G 1 dX2_within_1 rfl ?_
  refine j_bipush G dX2_within_2 (v := 8) rfl ?_
  refine j_irem G dX2_within_4 (by omega) (by omega) ?_
  refine j_isub G dX2_within_5 ?_
  refine j_istore_n (lv' := [(3, .int (jI (p - (p % 8)))), (0, .ref h), (1, .int (jI p)), (2, .int (jI w))]) G dX2_within_6 (by decide) rfl ?_
  refine j_iload_n G 0 dX2_within_7 rfl ?_
  refine j_iload_n G 2 dX2_within_8 rfl ?_
  refine j_iload_n G 3 dX2_within_9 rfl ?_
  refine j_isub G dX2_within_10 ?_
  refine j_mmax G dX2_within_11 (by decide +kernel) (by decide +kernel) (by decide +kernel) (by decide +kernel) (by decide) (Nat.le_of_ble_eq_true rfl) ⟨Nat.zero_le _, Nat.zero_le _⟩ (by omega) (by omega) ?_
  obtain ⟨lo, e_lo, h_lo⟩ : ∃ y : Int, y = (if (p - (p % 8)) < (p - w) then (p - w) else (p - (p % 8))) ∧ (y = p - p % 8 ∧ p - w ≤ p - p % 8 ∨ y = p - w ∧ p - p % 8 < p - w) := ⟨_, rfl, by split <;> omega⟩
  rw [← e_lo]
  refine j_istore (lv' := [(4, .int (jI lo)), (3, .int (jI (p - (p % 8)))), (0, .ref h), (1, .int (jI p)), (2, .int (jI w))]) G dX2_within_14 (by decide) rfl ?_
  refine j_iload_n G 1 dX2_within_16 rfl ?_
  refine j_bipush G dX2_within_17 (v := 8) rfl ?_
  refine j_iadd G dX2_within_19 ?_
  refine j_iconst G dX2_within_20 (v := 1) rfl ?_
  refine j_isub G dX2_within_21 ?_
  refine j_iload_n G 3 dX2_within_22 rfl ?_
  refine j_iload_n G 4 dX2_within_23 rfl ?_
  refine j_iadd G dX2_within_24 ?_
  refine j_mmin G dX2_within_25 (by decide +kernel) (by decide +kernel) (by decide +kernel) (by decide +kernel) (by decide) (Nat.le_of_ble_eq_true rfl) ⟨Nat.zero_le _, Nat.zero_le _⟩ (by omega) (by omega) ?_
  obtain ⟨hi, e_hi, h_hi⟩ : ∃ y : Int, y = (if (p + w) < (((p - (p % 8)) + 8) - 1) then (p + w) else (((p - (p % 8)) + 8) - 1)) ∧ (y = p - p % 8 + 7 ∧ p - p % 8 + 7 ≤ p + w ∨ y = p + w ∧ p + w < p - p % 8 + 7) := ⟨_, rfl, by split <;> omega⟩
  rw [← e_hi]
  refine j_istore (lv' := [(5, .int (jI hi)), (4, .int (jI lo)), (3, .int (jI (p - (p % 8)))), (0, .ref h), (1, .int (jI p)), (2, .int (jI w))]) G dX2_within_28 (by decide) rfl ?_
  refine j_iconst G dX2_within_30 (v := 0) rfl ?_
  refine j_istore (lv' := [(6, .int (jI 0)), (5, .int (jI hi)), (4, .int (jI lo)), (3, .int (jI (p - (p % 8)))), (0, .ref h), (1, .int (jI p)), (2, .int (jI w))]) G dX2_within_31 (by decide) rfl ?_
  refine j_iload G 2 dX2_within_33 rfl ?_
  refine j_istore (lv' := [(7, .int (jI lo)), (6, .int (jI 0)), (5, .int (jI hi)), (4, .int (jI lo)), (3, .int (jI (p - (p % 8)))), (0, .ref h), (1, .int (jI p)), (2, .int (jI w))]) G dX2_within_35 (by decide) rfl ?_
  have lp37 : ∀ (n_ : Nat) (i : Int) (s : Int), (lo ≤ i ∧ i ≤ hi + 1) → (s = sumI (i - (p - p % 8)).toNat (fun c => if -w ≤ c - p % 8 ∧ c - p % 8 ≤ w then ab (p / 8 * 8 + c) * be (p / 8 * 8 + c) else 0)) → (hi + 1 - i) < (n_ : Int) → J x 0 0 (pV Y h q ab be al) 37 [(0, .ref h), (1, .int (jI p)), (2, .int (jI w)), (3, .int (jI (p - (p % 8)))), (5, .int (jI hi)), (6, .int (jI s)), (7, .int (jI i))] [] := by
    intro n_
    induction n_ with
    | zero =>
      intro i s hi2 hs hm_
      exact absurd hm_ (by omega)
    | succ n_ ih37 =>
      intro i s hi2 hs hm_
      refine j_iload G 6 dX2_within_37 rfl ?_
      refine j_iload G 4 dX2_within_39 rfl ?_
      refine j_icmp_gt (tgt := 61) G dX2_within_41 (by decide) (by omega) (by omega) (fun c41 => ?_) (fun c41 => ?_)
      · refine j_iload G 5 dX2_within_61 rfl ?_
        exact j_reti G dX2_within_63 (by rw [hs]; symm; refine (sumI_tail 8 (by omega) (fun j h0 h1 => if_neg (fun z => ?_))); omega) (jLe.rf _) kr
      · refine j_iload G 5 dX2_within_44 rfl ?_
        refine j_aload_n G 0 dX2_within_46 rfl ?_
        refine j_iload G 6 dX2_within_47 rfl ?_
        refine j_callV (nA := 1) (As := [.int (jI i)]) (st := [.int (jI s)]) (wc := (pV Y h q ab be al)) (wr := []) G (c_X2_through l D Y h q ab be al i (by first | assumption | omega)) dX2_within_49 rfl gX2_within_X2_through rfl rfl rfl (by decide +kernel) ⟨by decide, by decide⟩ rfl 0 rfl rfl rfl (jLe.nil (jLe.rf _)) (Nat.le_of_ble_eq_true rfl) ⟨Nat.zero_le _, Nat.zero_le _⟩ (fun v_ w_ hp_ => ?_)
        obtain ⟨rfl, rfl⟩ := hp_
        show J x 0 0 (pV Y h q ab be al) 52 [(0, .ref h), (1, .int (jI p)), (2, .int (jI w)), (3, .int (jI (p - (p % 8)))), (5, .int (jI hi)), (6, .int (jI s)), (7, .int (jI i))] [.int (jI (ab i * be i)), .int (jI s)]
        refine j_iadd G dX2_within_52 ?_
        refine j_istore (lv' := [(6, .int (jI (s + (ab i * be i)))), (0, .ref h), (1, .int (jI p)), (2, .int (jI w)), (3, .int (jI (p - (p % 8)))), (5, .int (jI hi)), (7, .int (jI i))]) G dX2_within_53 (by decide) rfl ?_
        refine j_iinc (w := i + 1) (lv' := [(7, .int (jI (i + 1))), (6, .int (jI (s + (ab i * be i)))), (0, .ref h), (1, .int (jI p)), (2, .int (jI w)), (3, .int (jI (p - (p % 8)))), (5, .int (jI hi))]) G 6 dX2_within_55 rfl rfl (by decide) rfl ?_
        refine j_goto (tgt := 37) G dX2_within_58 (by decide) ?_
        refine j_lv [2, 3, 4, 5, 6, 1, 0] (lv' := [(0, .ref h), (1, .int (jI p)), (2, .int (jI w)), (3, .int (jI (p - (p % 8)))), (5, .int (jI hi)), (6, .int (jI (s + (ab i * be i)))), (7, .int (jI (i + 1)))]) rfl ?_
        exact ih37 (i + 1) (s + (ab i * be i)) (by omega) (by rw [show i + 1 - (p - p % 8) = i - (p - p % 8) + 1 by omega, sumI_S (by omega), hs, if_pos (by omega), show p / 8 * 8 + (i - (p - p % 8)) = i by omega]) (by omega)
  refine j_lv [5, 6, 7, 4, 2, 1, 0] (lv' := [(0, .ref h), (1, .int (jI p)), (2, .int (jI w)), (3, .int (jI (p - (p % 8)))), (5, .int (jI hi)), (6, .int (jI 0)), (7, .int (jI lo))]) rfl ?_
  exact lp37 (Int.toNat ((hi + 1 - lo) + 1)) lo 0 (by omega) (by symm; refine sumI_0 _ (fun j h0 h1 => if_neg (fun z => ?_)); omega) (by omega)

set_option maxHeartbeats 4000000 in
set_option maxRecDepth 100000 in
theorem c_X2_leastColumn (l : Launch) (D : va_G) (Y : Nat → ClassId) (h : Nat) (q : Nat → Nat) (ab : Int → Int) (be : Int → Int) (al : Int) (r : Int) (hr : 0 ≤ r ∧ r < 8) (hn : ∀ c : Int, 0 ≤ c → c < 8 → 0 ≤ ab (r * 8 + c) * be (r * 8 + c) ∧ ab (r * 8 + c) * be (r * 8 + c) < 2147483648) (he : ∃ c : Int, 0 ≤ c ∧ c < 8 ∧ 0 < ab (r * 8 + c) * be (r * 8 + c)) : jM l yX2_leastColumn wsX2_leastColumn { frames := 1, cells := 0, slots := 0, locals := 21 } D Y [.ref h, .int (jI r)] (pV Y h q ab be al) (fun v_ w_ => v_ = some (.int (jI (cLeast (fun c => ab (r * 8 + c) * be (r * 8 + c)) 8))) ∧ w_ = (pV Y h q ab be al)) 0 0 := by
  refine jM_of (cc := cX2_leastColumn) (maxL := 3) (ret := (some .int)) (by decide) rfl (Nat.le_of_ble_eq_true rfl) (fun v w' h => Or.inr (Or.inl ⟨_, _, rfl, h.1, rfl⟩)) ?_
  intro x G kr0
  have kr := kr0 _ _ ⟨rfl, rfl⟩
  have G : jG x l D Y cX2_leastColumn RX2 wsX2_leastColumn 3 ({ frames := 1, cells := 0, slots := 0, locals := 21 } : Room) (some .int) "leastColumn" := G
  show J x 0 0 (pV Y h q ab be al) 0 [(0, .ref h), (1, .int (jI r))] []
  refine j_iconst G dX2_leastColumn_0 (v := 0) rfl ?_
  refine j_istore_n (lv' := [(2, .int (jI 0)), (0, .ref h), (1, .int (jI r))]) G dX2_leastColumn_1 (by decide) rfl ?_
  have lp2 : ∀ (n_ : Nat) (i : Int), (0 ≤ i ∧ i ≤ 7) → (∀ j : Int, 0 ≤ j → j < i → ¬ 0 < ab (r * 8 + j) * be (r * 8 + j)) → (7 - i) < (n_ : Int) → J x 0 0 (pV Y h q ab be al) 2 [(0, .ref h), (1, .int (jI r)), (2, .int (jI i))] [] := by
    intro n_
    induction n_ with
    | zero =>
      intro i hi hz hm_
      exact absurd hm_ (by omega)
    | succ n_ ih2 =>
      intro i hi hz hm_
      refine j_iload_n G 2 dX2_leastColumn_2 rfl ?_
      refine j_bipush G dX2_leastColumn_3 (v := 7) rfl ?_
      refine j_icmp_ge (tgt := 27) G dX2_leastColumn_5 (by decide) (by omega) (by omega) (fun c5 => ?_) (fun c5 => ?_)
      · refine j_iload_n G 2 dX2_leastColumn_27 rfl ?_
        exact j_reti G dX2_leastColumn_28 (by symm; refine cLeast_at (o := fun c => ab (r * 8 + c) * be (r * 8 + c)) (by omega) hz ?_ 8 (by omega); first | (show 0 < ab (r * 8 + i) * be (r * 8 + i); omega) | (obtain ⟨c, a0, a1, a2⟩ := he; exact if e : c = i then (by rw [← e]; exact a2) else absurd a2 (hz c a0 (by omega)))) (jLe.rf _) kr
      · have f8 := hn i (by omega) (by omega)
        refine j_aload_n G 0 dX2_leastColumn_8 rfl ?_
        refine j_iload_n G 1 dX2_leastColumn_9 rfl ?_
        refine j_bipush G dX2_leastColumn_10 (v := 8) rfl ?_
        refine j_imul G dX2_leastColumn_12 ?_
        refine j_iload_n G 2 dX2_leastColumn_13 rfl ?_
        refine j_iadd G dX2_leastColumn_14 ?_
        refine j_callV (nA := 1) (As := [.int (jI ((r * 8) + i))]) (st := []) (wc := (pV Y h q ab be al)) (wr := []) G (c_X2_through l D Y h q ab be al ((r * 8) + i) (by first | assumption | omega)) dX2_leastColumn_15 rfl gX2_leastColumn_X2_through rfl rfl rfl (by decide +kernel) ⟨by decide, by decide⟩ rfl 0 rfl rfl rfl (jLe.nil (jLe.rf _)) (Nat.le_of_ble_eq_true rfl) ⟨Nat.zero_le _, Nat.zero_le _⟩ (fun v_ w_ hp_ => ?_)
        obtain ⟨rfl, rfl⟩ := hp_
        show J x 0 0 (pV Y h q ab be al) 18 [(0, .ref h), (1, .int (jI r)), (2, .int (jI i))] [.int (jI (ab ((r * 8) + i) * be ((r * 8) + i)))]
        refine j_if_ne (tgt := 27) G dX2_leastColumn_18 (by decide) (by omega) (fun c18 => ?_) (fun c18 => ?_)
        · refine j_iload_n G 2 dX2_leastColumn_27 rfl ?_
          exact j_reti G dX2_leastColumn_28 (by symm; refine cLeast_at (o := fun c => ab (r * 8 + c) * be (r * 8 + c)) (by omega) hz ?_ 8 (by omega); first | (show 0 < ab (r * 8 + i) * be (r * 8 + i); omega) | (obtain ⟨c, a0, a1, a2⟩ := he; exact if e : c = i then (by rw [← e]; exact a2) else absurd a2 (hz c a0 (by omega)))) (jLe.rf _) kr
        · refine j_iinc (w := i + 1) (lv' := [(2, .int (jI (i + 1))), (0, .ref h), (1, .int (jI r))]) G 2 dX2_leastColumn_21 rfl rfl (by decide) rfl ?_
          refine j_goto (tgt := 2) G dX2_leastColumn_24 (by decide) ?_
          refine j_lv [1, 2, 0] (lv' := [(0, .ref h), (1, .int (jI r)), (2, .int (jI (i + 1)))]) rfl ?_
          exact ih2 (i + 1) (by omega) (by intro j h0 h1; exact if e : j = i then (by rw [e]; omega) else hz j h0 (by omega)) (by omega)
  refine j_lv [1, 2, 0] (lv' := [(0, .ref h), (1, .int (jI r)), (2, .int (jI 0))]) rfl ?_
  exact lp2 (Int.toNat ((7 - 0) + 1)) 0 (by omega) (by intro j h0 h1; omega) (by omega)

set_option maxHeartbeats 4000000 in
set_option maxRecDepth 100000 in
theorem c_X2_greatestColumn (l : Launch) (D : va_G) (Y : Nat → ClassId) (h : Nat) (q : Nat → Nat) (ab : Int → Int) (be : Int → Int) (al : Int) (r : Int) (hr : 0 ≤ r ∧ r < 8) (hn : ∀ c : Int, 0 ≤ c → c < 8 → 0 ≤ ab (r * 8 + c) * be (r * 8 + c) ∧ ab (r * 8 + c) * be (r * 8 + c) < 2147483648) (he : ∃ c : Int, 0 ≤ c ∧ c < 8 ∧ 0 < ab (r * 8 + c) * be (r * 8 + c)) : jM l yX2_greatestColumn wsX2_greatestColumn { frames := 1, cells := 0, slots := 0, locals := 21 } D Y [.ref h, .int (jI r)] (pV Y h q ab be al) (fun v_ w_ => v_ = some (.int (jI (cMost (fun c => ab (r * 8 + c) * be (r * 8 + c)) 8))) ∧ w_ = (pV Y h q ab be al)) 0 0 := by
  refine jM_of (cc := cX2_greatestColumn) (maxL := 3) (ret := (some .int)) (by decide) rfl (Nat.le_of_ble_eq_true rfl) (fun v w' h => Or.inr (Or.inl ⟨_, _, rfl, h.1, rfl⟩)) ?_
  intro x G kr0
  have kr := kr0 _ _ ⟨rfl, rfl⟩
  have G : jG x l D Y cX2_greatestColumn RX2 wsX2_greatestColumn 3 ({ frames := 1, cells := 0, slots := 0, locals := 21 } : Room) (some .int) "greatestColumn" := G
  show J x 0 0 (pV Y h q ab be al) 0 [(0, .ref h), (1, .int (jI r))] []
  refine j_bipush G dX2_greatestColumn_0 (v := 7) rfl ?_
  refine j_istore_n (lv' := [(2, .int (jI 7)), (0, .ref h), (1, .int (jI r))]) G dX2_greatestColumn_2 (by decide) rfl ?_
  have lp3 : ∀ (n_ : Nat) (i : Int), (0 ≤ i ∧ i ≤ 7) → (∀ j : Int, i < j → j < 8 → ¬ 0 < ab (r * 8 + j) * be (r * 8 + j)) → (i) < (n_ : Int) → J x 0 0 (pV Y h q ab be al) 3 [(0, .ref h), (1, .int (jI r)), (2, .int (jI i))] [] := by
    intro n_
    induction n_ with
    | zero =>
      intro i hi hz hm_
      exact absurd hm_ (by omega)
    | succ n_ ih3 =>
      intro i hi hz hm_
      refine j_iload_n G 2 dX2_greatestColumn_3 rfl ?_
      refine j_if_le (tgt := 26) G dX2_greatestColumn_4 (by decide) (by omega) (fun c4 => ?_) (fun c4 => ?_)
      · refine j_iload_n G 2 dX2_greatestColumn_26 rfl ?_
        exact j_reti G dX2_greatestColumn_27 (by symm; refine cMost_at (o := fun c => ab (r * 8 + c) * be (r * 8 + c)) (by omega) ?_ 8 (by omega) (fun j h0 h1 => hz j h0 (by omega)); first | (show 0 < ab (r * 8 + i) * be (r * 8 + i); omega) | (obtain ⟨c, a0, a1, a2⟩ := he; exact if e : c = i then (by rw [← e]; exact a2) else absurd a2 (hz c (by omega) a1))) (jLe.rf _) kr
      · have f8 := hn i (by omega) (by omega)
        refine j_aload_n G 0 dX2_greatestColumn_7 rfl ?_
        refine j_iload_n G 1 dX2_greatestColumn_8 rfl ?_
        refine j_bipush G dX2_greatestColumn_9 (v := 8) rfl ?_
        refine j_imul G dX2_greatestColumn_11 ?_
        refine j_iload_n G 2 dX2_greatestColumn_12 rfl ?_
        refine j_iadd G dX2_greatestColumn_13 ?_
        refine j_callV (nA := 1) (As := [.int (jI ((r * 8) + i))]) (st := []) (wc := (pV Y h q ab be al)) (wr := []) G (c_X2_through l D Y h q ab be al ((r * 8) + i) (by first | assumption | omega)) dX2_greatestColumn_14 rfl gX2_greatestColumn_X2_through rfl rfl rfl (by decide +kernel) ⟨by decide, by decide⟩ rfl 0 rfl rfl rfl (jLe.nil (jLe.rf _)) (Nat.le_of_ble_eq_true rfl) ⟨Nat.zero_le _, Nat.zero_le _⟩ (fun v_ w_ hp_ => ?_)
        obtain ⟨rfl, rfl⟩ := hp_
        show J x 0 0 (pV Y h q ab be al) 17 [(0, .ref h), (1, .int (jI r)), (2, .int (jI i))] [.int (jI (ab ((r * 8) + i) * be ((r * 8) + i)))]
        refine j_if_ne (tgt := 26) G dX2_greatestColumn_17 (by decide) (by omega) (fun c17 => ?_) (fun c17 => ?_)
        · refine j_iload_n G 2 dX2_greatestColumn_26 rfl ?_
          exact j_reti G dX2_greatestColumn_27 (by symm; refine cMost_at (o := fun c => ab (r * 8 + c) * be (r * 8 + c)) (by omega) ?_ 8 (by omega) (fun j h0 h1 => hz j h0 (by omega)); first | (show 0 < ab (r * 8 + i) * be (r * 8 + i); omega) | (obtain ⟨c, a0, a1, a2⟩ := he; exact if e : c = i then (by rw [← e]; exact a2) else absurd a2 (hz c (by omega) a1))) (jLe.rf _) kr
        · refine j_iinc (w := i + (-1)) (lv' := [(2, .int (jI (i + (-1)))), (0, .ref h), (1, .int (jI r))]) G 2 dX2_greatestColumn_20 rfl rfl (by decide) rfl ?_
          refine j_goto (tgt := 3) G dX2_greatestColumn_23 (by decide) ?_
          refine j_lv [1, 2, 0] (lv' := [(0, .ref h), (1, .int (jI r)), (2, .int (jI (i + (-1))))]) rfl ?_
          exact ih3 (i + (-1)) (by omega) (by intro j h0 h1; exact if e : j = i then (by rw [e]; omega) else hz j (by omega) h1) (by omega)
  refine j_lv [1, 2, 0] (lv' := [(0, .ref h), (1, .int (jI r)), (2, .int (jI 7))]) rfl ?_
  exact lp3 (Int.toNat ((7) + 1)) 7 (by omega) (by intro j h0 h1; omega) (by omega)

set_option maxHeartbeats 4000000 in
set_option maxRecDepth 100000 in
theorem c_X2_openColumns (l : Launch) (D : va_G) (Y : Nat → ClassId) (h : Nat) (q : Nat → Nat) (ab : Int → Int) (be : Int → Int) (al : Int) (r : Int) (hr : 0 ≤ r ∧ r < 8) (hn : ∀ c : Int, 0 ≤ c → c < 8 → 0 ≤ ab (r * 8 + c) * be (r * 8 + c) ∧ ab (r * 8 + c) * be (r * 8 + c) < 2147483648) : jM l yX2_openColumns wsX2_openColumns { frames := 1, cells := 0, slots := 0, locals := 21 } D Y [.ref h, .int (jI r)] (pV Y h q ab be al) (fun v_ w_ => v_ = some (.int (jI (cOpen (fun c => ab (r * 8 + c) * be (r * 8 + c)) 8))) ∧ w_ = (pV Y h q ab be al)) 0 0 := by
  refine jM_of (cc := cX2_openColumns) (maxL := 4) (ret := (some .int)) (by decide) rfl (Nat.le_of_ble_eq_true rfl) (fun v w' h => Or.inr (Or.inl ⟨_, _, rfl, h.1, rfl⟩)) ?_
  intro x G kr0
  have kr := kr0 _ _ ⟨rfl, rfl⟩
  have G : jG x l D Y cX2_openColumns RX2 wsX2_openColumns 4 ({ frames := 1, cells := 0, slots := 0, locals := 21 } : Room) (some .int) "openColumns" := G
  show J x 0 0 (pV Y h q ab be al) 0 [(0, .ref h), (1, .int (jI r))] []
  refine j_iconst G dX2_openColumns_0 (v := 0) rfl ?_
  refine j_istore_n (lv' := [(2, .int (jI 0)), (0, .ref h), (1, .int (jI r))]) G dX2_openColumns_1 (by decide) rfl ?_
  refine j_iconst G dX2_openColumns_2 (v := 0) rfl ?_
  refine j_istore_n (lv' := [(3, .int (jI 0)), (2, .int (jI 0)), (0, .ref h), (1, .int (jI r))]) G dX2_openColumns_3 (by decide) rfl ?_
  have lp4 : ∀ (n_ : Nat) (i : Int) (s : Int), (0 ≤ i ∧ i ≤ 8) → (s = cOpen (fun c => ab (r * 8 + c) * be (r * 8 + c)) i.toNat) → (8 - i) < (n_ : Int) → J x 0 0 (pV Y h q ab be al) 4 [(0, .ref h), (1, .int (jI r)), (2, .int (jI s)), (3, .int (jI i))] [] := by
    intro n_
    induction n_ with
    | zero =>
      intro i s hi hs hm_
      exact absurd hm_ (by omega)
    | succ n_ ih4 =>
      intro i s hi hs hm_
      refine j_iload_n G 3 dX2_openColumns_4 rfl ?_
      refine j_bipush G dX2_openColumns_5 (v := 8) rfl ?_
      refine j_icmp_ge (tgt := 32) G dX2_openColumns_7 (by decide) (by omega) (by omega) (fun c7 => ?_) (fun c7 => ?_)
      · refine j_iload_n G 2 dX2_openColumns_32 rfl ?_
        exact j_reti G dX2_openColumns_33 (by rw [hs, show i = 8 by omega]; rfl) (jLe.rf _) kr
      · have f8 := hn i (by omega) (by omega)
        refine j_aload_n G 0 dX2_openColumns_10 rfl ?_
        refine j_iload_n G 1 dX2_openColumns_11 rfl ?_
        refine j_bipush G dX2_openColumns_12 (v := 8) rfl ?_
        refine j_imul G dX2_openColumns_14 ?_
        refine j_iload_n G 3 dX2_openColumns_15 rfl ?_
        refine j_iadd G dX2_openColumns_16 ?_
        refine j_callV (nA := 1) (As := [.int (jI ((r * 8) + i))]) (st := []) (wc := (pV Y h q ab be al)) (wr := []) G (c_X2_through l D Y h q ab be al ((r * 8) + i) (by first | assumption | omega)) dX2_openColumns_17 rfl gX2_openColumns_X2_through rfl rfl rfl (by decide +kernel) ⟨by decide, by decide⟩ rfl 0 rfl rfl rfl (jLe.nil (jLe.rf _)) (Nat.le_of_ble_eq_true rfl) ⟨Nat.zero_le _, Nat.zero_le _⟩ (fun v_ w_ hp_ => ?_)
        obtain ⟨rfl, rfl⟩ := hp_
        show J x 0 0 (pV Y h q ab be al) 20 [(0, .ref h), (1, .int (jI r)), (2, .int (jI s)), (3, .int (jI i))] [.int (jI (ab ((r * 8) + i) * be ((r * 8) + i)))]
        refine j_if_le (tgt := 26) G dX2_openColumns_20 (by decide) (by omega) (fun c20 => ?_) (fun c20 => ?_)
        · refine j_iinc (w := i + 1) (lv' := [(3, .int (jI (i + 1))), (0, .ref h), (1, .int (jI r)), (2, .int (jI s))]) G 3 dX2_openColumns_26 rfl rfl (by decide) rfl ?_
          refine j_goto (tgt := 4) G dX2_openColumns_29 (by decide) ?_
          refine j_lv [1, 2, 3, 0] (lv' := [(0, .ref h), (1, .int (jI r)), (2, .int (jI s)), (3, .int (jI (i + 1)))]) rfl ?_
          exact ih4 (i + 1) s (by omega) (by rw [cOpen_S hi.1, hs]; first | rw [if_neg (by omega), Int.add_zero] | rw [if_pos (by omega)]) (by omega)
        · refine j_iinc (w := s + 1) (lv' := [(2, .int (jI (s + 1))), (0, .ref h), (1, .int (jI r)), (3, .int (jI i))]) G 2 dX2_openColumns_23 rfl rfl (by decide) rfl ?_
          refine j_iinc (w := i + 1) (lv' := [(3, .int (jI (i + 1))), (2, .int (jI (s + 1))), (0, .ref h), (1, .int (jI r))]) G 3 dX2_openColumns_26 rfl rfl (by decide) rfl ?_
          refine j_goto (tgt := 4) G dX2_openColumns_29 (by decide) ?_
          refine j_lv [2, 3, 1, 0] (lv' := [(0, .ref h), (1, .int (jI r)), (2, .int (jI (s + 1))), (3, .int (jI (i + 1)))]) rfl ?_
          exact ih4 (i + 1) (s + 1) (by omega) (by rw [cOpen_S hi.1, hs]; first | rw [if_neg (by omega), Int.add_zero] | rw [if_pos (by omega)]) (by omega)
  refine j_lv [2, 3, 1, 0] (lv' := [(0, .ref h), (1, .int (jI r)), (2, .int (jI 0)), (3, .int (jI 0))]) rfl ?_
  exact lp4 (Int.toNat ((8 - 0) + 1)) 0 0 (by omega) (by rfl) (by omega)

set_option maxHeartbeats 4000000 in
set_option maxRecDepth 100000 in
theorem c_X2_mostOpenRow (l : Launch) (D : va_G) (Y : Nat → ClassId) (h : Nat) (q : Nat → Nat) (ab : Int → Int) (be : Int → Int) (al : Int) (hal : -2147483648 ≤ al ∧ al < 2147483648) (hn : ∀ r : Int, 0 ≤ r → r < 8 → ∀ c : Int, 0 ≤ c → c < 8 → 0 ≤ ab (r * 8 + c) * be (r * 8 + c) ∧ ab (r * 8 + c) * be (r * 8 + c) < 2147483648) : jM l yX2_mostOpenRow wsX2_mostOpenRow { frames := 2, cells := 0, slots := 0, locals := 44 } D Y [.ref h] (pV Y h q ab be al) (fun v_ w_ => v_ = some (.int (jI (if al ≤ 1 then -5 else cRow (fun r => cOpen (fun c => ab (r * 8 + c) * be (r * 8 + c)) 8) 7))) ∧ w_ = (pV Y h q ab be al)) 0 0 := by
  refine jM_of (cc := cX2_mostOpenRow) (maxL := 3) (ret := (some .int)) (by decide) rfl (Nat.le_of_ble_eq_true rfl) (fun v w' h => Or.inr (Or.inl ⟨_, _, rfl, h.1, rfl⟩)) ?_
  intro x G kr0
  have kr := kr0 _ _ ⟨rfl, rfl⟩
  have G : jG x l D Y cX2_mostOpenRow RX2 wsX2_mostOpenRow 3 ({ frames := 2, cells := 0, slots := 0, locals := 44 } : Room) (some .int) "mostOpenRow" := G
  have hinX2 : ∀ w ∈ wsX20, w ∈ wsX2_mostOpenRow := fun _ h => List.mem_cons_of_mem _ (List.mem_append_right _ h)
  show J x 0 0 (pV Y h q ab be al) 0 [(0, .ref h)] []
  refine j_aload_n G 0 dX2_mostOpenRow_0 rfl ?_
  refine j_get (q := 2) (C := RX2) (T := TX2) (N := 3) (v := .int (jI al)) G 0 hinX2 dX2_mostOpenRow_1 rfl rfl (by decide) (by decide +kernel) rfl ?_
  refine j_iconst G dX2_mostOpenRow_4 (v := 1) rfl ?_
  refine j_icmp_gt (tgt := 11) G dX2_mostOpenRow_5 (by decide) (by omega) (by omega) (fun c5 => ?_) (fun c5 => ?_)
  · refine j_iconst G dX2_mostOpenRow_11 (v := 0) rfl ?_
    refine j_istore_n (lv' := [(1, .int (jI 0)), (0, .ref h)]) G dX2_mostOpenRow_12 (by decide) rfl ?_
    refine j_iconst G dX2_mostOpenRow_13 (v := 1) rfl ?_
    refine j_istore_n (lv' := [(2, .int (jI 1)), (1, .int (jI 0)), (0, .ref h)]) G dX2_mostOpenRow_14 (by decide) rfl ?_
    have lp15 : ∀ (n_ : Nat) (i : Int) (s : Int), (1 ≤ i ∧ i ≤ 8) → (0 ≤ s ∧ s < 8) → (s = cRow (fun r => cOpen (fun c => ab (r * 8 + c) * be (r * 8 + c)) 8) (i - 1).toNat) → (8 - i) < (n_ : Int) → J x 0 0 (pV Y h q ab be al) 15 [(0, .ref h), (1, .int (jI s)), (2, .int (jI i))] [] := by
      intro n_
      induction n_ with
      | zero =>
        intro i s hi hb hs hm_
        exact absurd hm_ (by omega)
      | succ n_ ih15 =>
        intro i s hi hb hs hm_
        refine j_iload_n G 2 dX2_mostOpenRow_15 rfl ?_
        refine j_bipush G dX2_mostOpenRow_16 (v := 8) rfl ?_
        refine j_icmp_ge (tgt := 42) G dX2_mostOpenRow_18 (by decide) (by omega) (by omega) (fun c18 => ?_) (fun c18 => ?_)
        · refine j_iload_n G 1 dX2_mostOpenRow_42 rfl ?_
          exact j_reti G dX2_mostOpenRow_43 (by rw [if_neg (by omega), hs, show i = 8 by omega]; rfl) (jLe.rf _) kr
        · refine j_aload_n G 0 dX2_mostOpenRow_21 rfl ?_
          refine j_iload_n G 2 dX2_mostOpenRow_22 rfl ?_
          refine j_callV (nA := 1) (As := [.int (jI i)]) (st := []) (wc := (pV Y h q ab be al)) (wr := []) G (c_X2_openColumns l D Y h q ab be al i (by first | assumption | omega) (by exact hn i (by omega) (by omega))) dX2_mostOpenRow_23 rfl gX2_mostOpenRow_X2_openColumns rfl rfl rfl (by decide +kernel) ⟨by decide, by decide⟩ rfl 0 rfl rfl rfl (jLe.nil (jLe.rf _)) (Nat.le_of_ble_eq_true rfl) ⟨Nat.zero_le _, Nat.zero_le _⟩ (fun v_ w_ hp_ => ?_)
          obtain ⟨rfl, rfl⟩ := hp_
          show J x 0 0 (pV Y h q ab be al) 26 [(0, .ref h), (1, .int (jI s)), (2, .int (jI i))] [.int (jI (cOpen (fun c => ab (i * 8 + c) * be (i * 8 + c)) 8))]
          refine j_aload_n G 0 dX2_mostOpenRow_26 rfl ?_
          refine j_iload_n G 1 dX2_mostOpenRow_27 rfl ?_
          refine j_callV (nA := 1) (As := [.int (jI s)]) (st := [.int (jI (cOpen (fun c => ab (i * 8 + c) * be (i * 8 + c)) 8))]) (wc := (pV Y h q ab be al)) (wr := []) G (c_X2_openColumns l D Y h q ab be al s (by first | assumption | omega) (by exact hn s (by omega) (by omega))) dX2_mostOpenRow_28 rfl gX2_mostOpenRow_X2_openColumns rfl rfl rfl (by decide +kernel) ⟨by decide, by decide⟩ rfl 0 rfl rfl rfl (jLe.nil (jLe.rf _)) (Nat.le_of_ble_eq_true rfl) ⟨Nat.zero_le _, Nat.zero_le _⟩ (fun v_ w_ hp_ => ?_)
          obtain ⟨rfl, rfl⟩ := hp_
          show J x 0 0 (pV Y h q ab be al) 31 [(0, .ref h), (1, .int (jI s)), (2, .int (jI i))] [.int (jI (cOpen (fun c => ab (s * 8 + c) * be (s * 8 + c)) 8)), .int (jI (cOpen (fun c => ab (i * 8 + c) * be (i * 8 + c)) 8))]
          have g1 := cOpen_b (fun c => ab (i * 8 + c) * be (i * 8 + c)) 8
          have g2 := cOpen_b (fun c => ab (s * 8 + c) * be (s * 8 + c)) 8
          refine j_icmp_le (tgt := 36) G dX2_mostOpenRow_31 (by decide) (by omega) (by omega) (fun c31 => ?_) (fun c31 => ?_)
          · refine j_iinc (w := i + 1) (lv' := [(2, .int (jI (i + 1))), (0, .ref h), (1, .int (jI s))]) G 2 dX2_mostOpenRow_36 rfl rfl (by decide) rfl ?_
            refine j_goto (tgt := 15) G dX2_mostOpenRow_39 (by decide) ?_
            refine j_lv [1, 2, 0] (lv' := [(0, .ref h), (1, .int (jI s)), (2, .int (jI (i + 1)))]) rfl ?_
            exact ih15 (i + 1) s (by omega) (by omega) (by rw [show i + 1 - 1 = i - 1 + 1 by omega, cRow_S (by omega), ← hs, show i - 1 + 1 = i by omega]; first | rw [if_neg (by omega)] | rw [if_pos (by omega)]) (by omega)
          · refine j_iload_n G 2 dX2_mostOpenRow_34 rfl ?_
            refine j_istore_n (lv' := [(1, .int (jI i)), (0, .ref h), (2, .int (jI i))]) G dX2_mostOpenRow_35 (by decide) rfl ?_
            refine j_iinc (w := i + 1) (lv' := [(2, .int (jI (i + 1))), (1, .int (jI i)), (0, .ref h)]) G 2 dX2_mostOpenRow_36 rfl rfl (by decide) rfl ?_
            refine j_goto (tgt := 15) G dX2_mostOpenRow_39 (by decide) ?_
            refine j_lv [2, 1, 0] (lv' := [(0, .ref h), (1, .int (jI i)), (2, .int (jI (i + 1)))]) rfl ?_
            exact ih15 (i + 1) i (by omega) (by omega) (by rw [show i + 1 - 1 = i - 1 + 1 by omega, cRow_S (by omega), ← hs, show i - 1 + 1 = i by omega]; first | rw [if_neg (by omega)] | rw [if_pos (by omega)]) (by omega)
    refine j_lv [2, 1, 0] (lv' := [(0, .ref h), (1, .int (jI 0)), (2, .int (jI 1))]) rfl ?_
    exact lp15 (Int.toNat ((8 - 1) + 1)) 1 0 (by omega) (by omega) (by rfl) (by omega)
  · refine j_bipush G dX2_mostOpenRow_8 (v := (-5)) rfl ?_
    exact j_reti G dX2_mostOpenRow_10 (by rw [if_pos (by omega)]) (jLe.rf _) kr
