set_option maxHeartbeats 40000000 in
set_option maxRecDepth 100000 in
theorem c_L_go (l : Launch) (D : va_G) (Y : Nat → ClassId) (h : Nat) (ad : Nat → Nat) (aq : Nat → Nat → Nat) (e : oE) (z zs : Int → Int) (ik sz : Int) (S : Nat → Int → Int) (n : Int) (k : Int) (p : Int) (hI : Inv z) (hBn : Bd n z) (hn : 0 ≤ n ∧ n ≤ 47) (hsz : 0 ≤ sz ∧ sz ≤ 4) (hk : 0 ≤ k ∧ k ≤ 2) (hp : 0 ≤ p ∧ p ≤ 63) : jM l yL_go wsU_go { frames := 5, cells := 0, slots := 0, locals := 103 } D Y [.ref h, .int (jI k), .int (jI p)] (oW Y h ad aq e z zs ik sz S) (fun v_ w_ => ∃ (e2 : oE) (r : Int) (z2 : Int → Int), v_ = some (.int (jI r)) ∧ w_ = oW Y h ad aq e2 z2 zs ik (hSz r sz) (hSt r sz S z) ∧ Act n z r z2) 0 0 := by
  refine jM_of (cc := cL_go) (maxL := 8) (ret := some .int) (by decide) rfl (Nat.le_of_ble_eq_true rfl) (fun v w' h => by obtain ⟨_, _, _, h, _⟩ := h; exact Or.inr (Or.inl ⟨_, _, rfl, h, rfl⟩)) ?_
  intro x_ G kr0
  have G : jG x_ l D Y cL_go RL wsU_go 8 ({ frames := 5, cells := 0, slots := 0, locals := 103 } : Room) (some .int) "go" := G
  show J x_ 0 0 (oW Y h ad aq e z zs ik sz S) 0 [(0, .ref h), (1, .int (jI k)), (2, .int (jI p))] []
  have hB : Bd 48 z := hBn.mono (by omega)
  have hI2 : Inv (G_go z k p) := hI.go k p
  have hB2 : Bd 48 (G_go z k p) := ((hBn.go k p)).mono (by omega)
  have g1 := go_is hI (k := k) (p := p) (by omega) (by omega)
  have g2 := go_sp hI (k := k) (p := p) (by omega) (by omega)
  have g3 := F_go_b hI k p
  refine j_aload_n G 0 dL_go_0 rfl ?_
  refine j_iload_n G 1 dL_go_1 rfl ?_
  refine j_iload_n G 2 dL_go_2 rfl ?_
  refine jo_way (r0 := zWay z k p) G dL_go_3 (goodIn_up _ gvX4_way) ⟨by decide, by decide⟩ (Nat.le_of_ble_eq_true rfl) ⟨Nat.zero_le _, Nat.zero_le _⟩ (by exact hI) (by omega) (by omega) (by exact fw (by omega) (by omega)) (fun e_1 => ?_)
  have f3_ := zWay_b hI (k := k) (p := p) (by omega) (by omega)
  refine j_istore_n (lv' := [(3, .int (jI (zWay z k p))), (0, .ref h), (1, .int (jI k)), (2, .int (jI p))]) G dL_go_6 (by decide) rfl ?_
  refine j_aload_n G 1 dL_go_7 rfl ?_
  refine j_iload_n G 2 dL_go_8 rfl ?_
  refine j_iconst G dL_go_9 (v := 1) rfl ?_
  refine jo_crew (r0 := z (16 + 4 * k)) G dL_go_10 (goodIn_up _ gvX4_crew) ⟨by decide, by decide⟩ (Nat.le_of_ble_eq_true rfl) ⟨Nat.zero_le _, Nat.zero_le _⟩ (by exact hI) (by omega) (by omega) (by exact fc1 (by omega)) (fun e_2 => ?_)
  have f10_ := bc1 hI (k := k) (by omega)
  refine j_istore (lv' := [(4, .int (jI (z (16 + 4 * k)))), (3, .int (jI (zWay z k p))), (0, .ref h), (1, .int (jI k)), (2, .int (jI p))]) G dL_go_13 (by decide) rfl ?_
  refine j_aload_n G 2 dL_go_15 rfl ?_
  refine j_iload_n G 3 dL_go_16 rfl ?_
  refine j_iconst G dL_go_17 (v := 0) rfl ?_
  refine jo_crew (r0 := z (15 + 4 * k)) G dL_go_18 (goodIn_up _ gvX4_crew) ⟨by decide, by decide⟩ (Nat.le_of_ble_eq_true rfl) ⟨Nat.zero_le _, Nat.zero_le _⟩ (by exact hI) (by omega) (by omega) (by exact fc0 (by omega)) (fun e_3 => ?_)
  have f18_ := bc0 hI (k := k) (by omega)
  refine j_istore (lv' := [(5, .int (jI (z (15 + 4 * k)))), (4, .int (jI (z (16 + 4 * k)))), (3, .int (jI (zWay z k p))), (0, .ref h), (1, .int (jI k)), (2, .int (jI p))]) G dL_go_21 (by decide) rfl ?_
  refine j_aload_n G 3 dL_go_23 rfl ?_
  refine j_iload_n G 4 dL_go_24 rfl ?_
  refine j_iload_n G 5 dL_go_25 rfl ?_
  refine jo_go (r0 := F_go z k p) G dL_go_26 (goodIn_up _ gvX4_go) ⟨by decide, by decide⟩ (Nat.le_of_ble_eq_true rfl) ⟨Nat.zero_le _, Nat.zero_le _⟩ (by exact hI) (by exact hsz) (by omega) (by omega) (by rfl) (fun e_4 => ?_)
  refine j_istore (lv' := [(6, .int (jI (F_go z k p))), (5, .int (jI (z (15 + 4 * k)))), (4, .int (jI (z (16 + 4 * k)))), (3, .int (jI (zWay z k p))), (0, .ref h), (1, .int (jI k)), (2, .int (jI p))]) G dL_go_29 (by decide) rfl ?_
  refine j_iload_n G 6 dL_go_31 rfl ?_
  refine j_iload G 1 dL_go_32 rfl ?_
  obtain ⟨tv_7, htv_7⟩ : ∃ v_ : Int, v_ = (if p = (z (15 + 4 * k)) then (-5) else (if (zWay z k p) ≤ (z (16 + 4 * k)) then (z (16 + 4 * k)) - (zWay z k p) else (-4))) := ⟨_, rfl⟩
  suffices hj_8 : J x_ 0 0 (oW Y h ad aq e_4 (G_go z k p) zs ik (hSz (F_go z k p) sz) (hSt (F_go z k p) sz S z)) 57 [(6, .int (jI (F_go z k p))), (5, .int (jI (z (15 + 4 * k)))), (4, .int (jI (z (16 + 4 * k)))), (3, .int (jI (zWay z k p))), (0, .ref h), (1, .int (jI k)), (2, .int (jI p))] [.int (jI tv_7)] by
    refine j_icmp_ne (tgt := 42) G dL_go_34 (by decide) (by omega) (by omega) (fun c34 => ?_) (fun c34 => ?_)
    · refine j_iload_n G 3 dL_go_42 rfl ?_
      refine j_iload G 2 dL_go_43 rfl ?_
      obtain ⟨tv_5, htv_5⟩ : ∃ v_ : Int, v_ = (if (zWay z k p) ≤ (z (16 + 4 * k)) then (z (16 + 4 * k)) - (zWay z k p) else (-4)) := ⟨_, rfl⟩
      suffices hj_6 : J x_ 0 0 (oW Y h ad aq e_4 (G_go z k p) zs ik (hSz (F_go z k p) sz) (hSt (F_go z k p) sz S z)) 57 [(6, .int (jI (F_go z k p))), (5, .int (jI (z (15 + 4 * k)))), (4, .int (jI (z (16 + 4 * k)))), (3, .int (jI (zWay z k p))), (0, .ref h), (1, .int (jI k)), (2, .int (jI p))] [.int (jI tv_5)] by
        refine j_icmp_le (tgt := 53) G dL_go_45 (by decide) (by omega) (by omega) (fun c45 => ?_) (fun c45 => ?_)
        · refine j_iload G 2 dL_go_53 rfl ?_
          refine j_iload_n G 3 dL_go_55 rfl ?_
          refine j_isub G dL_go_56 ?_
          rw [if_pos (show (zWay z k p) ≤ (z (16 + 4 * k)) by omega)] at htv_5
          subst htv_5
          exact hj_6
        · refine j_bipush G dL_go_48 (v := (-4)) rfl ?_
          refine j_goto (tgt := 57) G dL_go_50 (by decide) ?_
          rw [if_neg (show ¬ ((zWay z k p) ≤ (z (16 + 4 * k))) by omega)] at htv_5
          subst htv_5
          exact hj_6
      subst htv_5
      rw [if_neg (show ¬ (p = (z (15 + 4 * k))) by omega)] at htv_7
      subst htv_7
      exact hj_8
    · refine j_bipush G dL_go_37 (v := (-5)) rfl ?_
      refine j_goto (tgt := 57) G dL_go_39 (by decide) ?_
      rw [if_pos (show p = (z (15 + 4 * k)) by omega)] at htv_7
      subst htv_7
      exact hj_8
  obtain ⟨due, e_due, h_due⟩ : ∃ y : Int, y = (tv_7) ∧ (y = F_go z k p) := ⟨_, rfl, by first | omega | (rw [htv_7, g1]; (repeat' split) <;> omega)⟩
  rw [← e_due]
  refine j_istore (lv' := [(7, .int (jI due)), (6, .int (jI (F_go z k p))), (5, .int (jI (z (15 + 4 * k)))), (4, .int (jI (z (16 + 4 * k)))), (3, .int (jI (zWay z k p))), (0, .ref h), (1, .int (jI k)), (2, .int (jI p))]) G dL_go_57 (by decide) rfl ?_
  refine j_iload G 1 dL_go_59 rfl ?_
  refine j_iload G 0 dL_go_61 rfl ?_
  refine j_icmp_ne (tgt := 112) G dL_go_63 (by decide) (by omega) (by omega) (fun c63 => absurd c63 (by omega)) (fun c63 => ?_)
  refine j_aload_n G 5 dL_go_66 rfl ?_
  refine j_iload_n G 6 dL_go_67 rfl ?_
  refine j_iconst G dL_go_68 (v := 0) rfl ?_
  refine jo_crew (r0 := (G_go z k p) (15 + 4 * k)) G dL_go_69 (goodIn_up _ gvX4_crew) ⟨by decide, by decide⟩ (Nat.le_of_ble_eq_true rfl) ⟨Nat.zero_le _, Nat.zero_le _⟩ (by exact hI2) (by omega) (by omega) (by exact fc0 (by omega)) (fun e_9 => ?_)
  have f69_ := bc0 hI2 (k := k) (by omega)
  refine j_iload G 0 dL_go_72 rfl ?_
  obtain ⟨tv_10, htv_10⟩ : ∃ v_ : Int, v_ = (if due < 0 then z (15 + 4 * k) else p) := ⟨_, rfl⟩
  suffices hj_11 : J x_ 0 0 (oW Y h ad aq e_9 (G_go z k p) zs ik (hSz (F_go z k p) sz) (hSt (F_go z k p) sz S z)) 83 [(7, .int (jI due)), (6, .int (jI (F_go z k p))), (5, .int (jI (z (15 + 4 * k)))), (4, .int (jI (z (16 + 4 * k)))), (3, .int (jI (zWay z k p))), (0, .ref h), (1, .int (jI k)), (2, .int (jI p))] [.int (jI tv_10), .int (jI ((G_go z k p) (15 + 4 * k)))] by
    refine j_if_lt (tgt := 81) G dL_go_74 (by decide) (by omega) (fun c74 => ?_) (fun c74 => ?_)
    · refine j_iload G 2 dL_go_81 rfl ?_
      rw [if_pos (show due < 0 by omega)] at htv_10
      subst htv_10
      exact hj_11
    · refine j_iload_n G 7 dL_go_77 rfl ?_
      refine j_goto (tgt := 83) G dL_go_78 (by decide) ?_
      rw [if_neg (show ¬ (due < 0) by omega)] at htv_10
      subst htv_10
      exact hj_11
  refine j_icmp_ne (tgt := 112) G dL_go_83 (by decide) (by omega) (by omega) (fun c83 => absurd c83 (by omega)) (fun c83 => ?_)
  refine j_aload_n G 5 dL_go_86 rfl ?_
  refine j_iload_n G 6 dL_go_87 rfl ?_
  refine j_iconst G dL_go_88 (v := 1) rfl ?_
  refine jo_crew (r0 := (G_go z k p) (16 + 4 * k)) G dL_go_89 (goodIn_up _ gvX4_crew) ⟨by decide, by decide⟩ (Nat.le_of_ble_eq_true rfl) ⟨Nat.zero_le _, Nat.zero_le _⟩ (by exact hI2) (by omega) (by omega) (by exact fc1 (by omega)) (fun e_12 => ?_)
  have f89_ := bc1 hI2 (k := k) (by omega)
  refine j_iload G 0 dL_go_92 rfl ?_
  obtain ⟨tv_13, htv_13⟩ : ∃ v_ : Int, v_ = (if due < 0 then z (16 + 4 * k) else due) := ⟨_, rfl⟩
  suffices hj_14 : J x_ 0 0 (oW Y h ad aq e_12 (G_go z k p) zs ik (hSz (F_go z k p) sz) (hSt (F_go z k p) sz S z)) 104 [(7, .int (jI due)), (6, .int (jI (F_go z k p))), (5, .int (jI (z (15 + 4 * k)))), (4, .int (jI (z (16 + 4 * k)))), (3, .int (jI (zWay z k p))), (0, .ref h), (1, .int (jI k)), (2, .int (jI p))] [.int (jI tv_13), .int (jI ((G_go z k p) (16 + 4 * k)))] by
    refine j_if_lt (tgt := 102) G dL_go_94 (by decide) (by omega) (fun c94 => ?_) (fun c94 => ?_)
    · refine j_iload G 3 dL_go_102 rfl ?_
      rw [if_pos (show due < 0 by omega)] at htv_13
      subst htv_13
      exact hj_14
    · refine j_iload G 0 dL_go_97 rfl ?_
      refine j_goto (tgt := 104) G dL_go_99 (by decide) ?_
      rw [if_neg (show ¬ (due < 0) by omega)] at htv_13
      subst htv_13
      exact hj_14
  refine j_icmp_ne (tgt := 112) G dL_go_104 (by decide) (by omega) (by omega) (fun c104 => absurd c104 (by omega)) (fun c104 => ?_)
  refine j_iload G 1 dL_go_107 rfl ?_
  refine j_goto (tgt := 114) G dL_go_109 (by decide) ?_
  exact j_reti (r := F_go z k p) G dL_go_114 (by rfl) (jLe.rf _) (kr0 _ _ ⟨e_12, F_go z k p, G_go z k p, rfl, rfl, Act.go hI hBn k p⟩)
theorem jl_go {xc : Cx} {l : Launch} {D : va_G} {Y : Nat → ClassId} {cc : ByteArray} {own : String} {Ts : List Cond} {nL : Nat} {R0 : Room} {ret : Option FieldType} {nm : String} {kc nc pc index h : Nat} {lv : List (Nat × Value)} {st : List Value} {ad : Nat → Nat} {aq : Nat → Nat → Nat} {e : oE} {z zs : Int → Int} {ik sz : Int} {S : Nat → Int → Int} (G : jG xc l D Y cc own Ts nL R0 ret nm) {n : Int} {k : Int} {p : Int} (hdg : decode cc pc = .ok (.invokestatic index, 3)) (hT : GoodIn Ts (va_wsS own index yL_go wsU_go)) (hR : 6 ≤ R0.frames ∧ 130 ≤ R0.locals) (hW : (st.map fun v => v.category).sum ≤ 8) (hf : kc ≤ R0.cells ∧ nc ≤ R0.slots) (hI : Inv z) (hBn : Bd n z) (hn : 0 ≤ n ∧ n ≤ 47) (hsz : 0 ≤ sz ∧ sz ≤ 4) (hk : 0 ≤ k ∧ k ≤ 2) (hp : 0 ≤ p ∧ p ≤ 63) (kk : ∀ (e2 : oE) (r : Int) (z2 : Int → Int), Act n z r z2 → J xc kc nc (oW Y h ad aq e2 z2 zs ik (hSz r sz) (hSt r sz S z)) (pc + 3) lv (.int (jI r) :: st)) : J xc kc nc (oW Y h ad aq e z zs ik sz S) pc lv (.int (jI p) :: .int (jI k) :: .ref h :: st) := by
  refine j_callS (nA := 3) (As := [.ref h, .int (jI k), .int (jI p)]) (st := st) (wc := oW Y h ad aq e z zs ik sz S) (wr := []) G (c_L_go l D Y h ad aq e z zs ik sz S n k p hI hBn hn hsz hk hp) hdg rfl hT rfl rfl rfl (by decide +kernel) hR rfl (jLe.nil (jLe.rf _)) hW hf (fun v_ w_ hp_ => ?_)
  obtain ⟨e2, r, z2, rfl, rfl, hA⟩ := hp_
  rw [List.append_nil]
  exact kk e2 r z2 hA

set_option maxHeartbeats 40000000 in
set_option maxRecDepth 100000 in
theorem c_L_fell (l : Launch) (D : va_G) (Y : Nat → ClassId) (h : Nat) (ad : Nat → Nat) (aq : Nat → Nat → Nat) (e : oE) (z zs : Int → Int) (ik sz : Int) (S : Nat → Int → Int) (n : Int) (k : Int) (hI : Inv z) (hBn : Bd n z) (hn : 0 ≤ n ∧ n ≤ 47) (hsz : 0 ≤ sz ∧ sz ≤ 4) (hk : 0 ≤ k ∧ k ≤ 2) : jM l yL_fell wsU_fell { frames := 6, cells := 0, slots := 0, locals := 136 } D Y [.ref h, .int (jI k)] (oW Y h ad aq e z zs ik sz S) (fun v_ w_ => ∃ (e2 : oE) (r : Int) (z2 : Int → Int), v_ = some (.int (jI r)) ∧ w_ = oW Y h ad aq e2 z2 zs ik (hSz r sz) (hSt r sz S z) ∧ Act n z r z2) 0 0 := by
  refine jM_of (cc := cL_fell) (maxL := 10) (ret := some .int) (by decide) rfl (Nat.le_of_ble_eq_true rfl) (fun v w' h => by obtain ⟨_, _, _, h, _⟩ := h; exact Or.inr (Or.inl ⟨_, _, rfl, h, rfl⟩)) ?_
  intro x_ G kr0
  have G : jG x_ l D Y cL_fell RL wsU_fell 10 ({ frames := 6, cells := 0, slots := 0, locals := 136 } : Room) (some .int) "fell" := G
  show J x_ 0 0 (oW Y h ad aq e z zs ik sz S) 0 [(0, .ref h), (1, .int (jI k))] []
  have hB : Bd 48 z := hBn.mono (by omega)
  have hI2 : Inv (G_fell z k) := hI.fell k
  have hB2 : Bd 48 (G_fell z k) := ((hBn.fell hI k)).mono (by omega)
  have g1 := fell_is (z := z) (k := k) (by omega)
  have g2 := fell_2 hI (k := k) (by omega)
  have g3 := F_fell_b hI k
  refine j_aload_n G 0 dL_fell_0 rfl ?_
  refine j_iload_n G 1 dL_fell_1 rfl ?_
  refine j_iconst G dL_fell_2 (v := 0) rfl ?_
  refine jo_crew (r0 := z (15 + 4 * k)) G dL_fell_3 (goodIn_up _ gvX4_crew) ⟨by decide, by decide⟩ (Nat.le_of_ble_eq_true rfl) ⟨Nat.zero_le _, Nat.zero_le _⟩ (by exact hI) (by omega) (by omega) (by exact fc0 (by omega)) (fun e_1 => ?_)
  have f3_ := bc0 hI (k := k) (by omega)
  refine j_istore_n (lv' := [(2, .int (jI (z (15 + 4 * k)))), (0, .ref h), (1, .int (jI k))]) G dL_fell_6 (by decide) rfl ?_
  refine j_aload_n G 1 dL_fell_7 rfl ?_
  refine j_iload_n G 0 dL_fell_8 rfl ?_
  refine j_iconst G dL_fell_9 (v := 0) rfl ?_
  refine jo_plot (r0 := z (28 + (z (15 + 4 * k)))) G dL_fell_10 (goodIn_up _ gvX4_plot) ⟨by decide, by decide⟩ (Nat.le_of_ble_eq_true rfl) ⟨Nat.zero_le _, Nat.zero_le _⟩ (by exact hI) (by omega) (by omega) (by exact fp0 (by omega)) (fun e_2 => ?_)
  have f10_ := bp0 hI (p := (z (15 + 4 * k))) (by omega)
  refine j_istore_n (lv' := [(3, .int (jI (z (28 + (z (15 + 4 * k)))))), (2, .int (jI (z (15 + 4 * k)))), (0, .ref h), (1, .int (jI k))]) G dL_fell_13 (by decide) rfl ?_
  refine j_aload_n G 2 dL_fell_14 rfl ?_
  refine j_iload_n G 3 dL_fell_15 rfl ?_
  refine j_iconst G dL_fell_16 (v := 1) rfl ?_
  refine jo_crew (r0 := z (16 + 4 * k)) G dL_fell_17 (goodIn_up _ gvX4_crew) ⟨by decide, by decide⟩ (Nat.le_of_ble_eq_true rfl) ⟨Nat.zero_le _, Nat.zero_le _⟩ (by exact hI) (by omega) (by omega) (by exact fc1 (by omega)) (fun e_3 => ?_)
  have f17_ := bc1 hI (k := k) (by omega)
  refine j_istore (lv' := [(4, .int (jI (z (16 + 4 * k)))), (3, .int (jI (z (28 + (z (15 + 4 * k)))))), (2, .int (jI (z (15 + 4 * k)))), (0, .ref h), (1, .int (jI k))]) G dL_fell_20 (by decide) rfl ?_
  refine j_aload_n G 3 dL_fell_22 rfl ?_
  refine j_iload_n G 4 dL_fell_23 rfl ?_
  refine j_iconst G dL_fell_24 (v := 2) rfl ?_
  refine jo_crew (r0 := z (17 + 4 * k)) G dL_fell_25 (goodIn_up _ gvX4_crew) ⟨by decide, by decide⟩ (Nat.le_of_ble_eq_true rfl) ⟨Nat.zero_le _, Nat.zero_le _⟩ (by exact hI) (by omega) (by omega) (by exact fc2 (by omega)) (fun e_4 => ?_)
  have f25_ := bc2 hB (k := k) (by omega)
  refine j_istore (lv' := [(5, .int (jI (z (17 + 4 * k)))), (4, .int (jI (z (16 + 4 * k)))), (3, .int (jI (z (28 + (z (15 + 4 * k)))))), (2, .int (jI (z (15 + 4 * k)))), (0, .ref h), (1, .int (jI k))]) G dL_fell_28 (by decide) rfl ?_
  refine j_aload_n G 4 dL_fell_30 rfl ?_
  refine j_iload_n G 5 dL_fell_31 rfl ?_
  refine j_iconst G dL_fell_32 (v := 3) rfl ?_
  refine jo_crew (r0 := z (18 + 4 * k)) G dL_fell_33 (goodIn_up _ gvX4_crew) ⟨by decide, by decide⟩ (Nat.le_of_ble_eq_true rfl) ⟨Nat.zero_le _, Nat.zero_le _⟩ (by exact hI) (by omega) (by omega) (by exact fc3 (by omega)) (fun e_5 => ?_)
  have f33_ := bc3 hB (k := k) (by omega)
  refine j_istore (lv' := [(6, .int (jI (z (18 + 4 * k)))), (5, .int (jI (z (17 + 4 * k)))), (4, .int (jI (z (16 + 4 * k)))), (3, .int (jI (z (28 + (z (15 + 4 * k)))))), (2, .int (jI (z (15 + 4 * k)))), (0, .ref h), (1, .int (jI k))]) G dL_fell_36 (by decide) rfl ?_
  refine j_aload_n G 5 dL_fell_38 rfl ?_
  refine j_iconst G dL_fell_39 (v := 1) rfl ?_
  refine jo_count (r0 := sumI 64 (fun p => z (28 + p))) G dL_fell_40 (goodIn_up _ gvX4_count) ⟨by decide, by decide⟩ (Nat.le_of_ble_eq_true rfl) ⟨Nat.zero_le _, Nat.zero_le _⟩ (by exact hI) (by omega) (by rfl) (fun e_6 => ?_)
  have f40_ := bn1 hI
  refine j_istore (lv' := [(7, .int (jI (sumI 64 (fun p => z (28 + p))))), (6, .int (jI (z (18 + 4 * k)))), (5, .int (jI (z (17 + 4 * k)))), (4, .int (jI (z (16 + 4 * k)))), (3, .int (jI (z (28 + (z (15 + 4 * k)))))), (2, .int (jI (z (15 + 4 * k)))), (0, .ref h), (1, .int (jI k))]) G dL_fell_43 (by decide) rfl ?_
  refine j_aload_n G 6 dL_fell_45 rfl ?_
  refine j_iload_n G 7 dL_fell_46 rfl ?_
  refine jo_fell (r0 := F_fell z k) G dL_fell_47 (goodIn_up _ gvX4_fell) ⟨by decide, by decide⟩ (Nat.le_of_ble_eq_true rfl) ⟨Nat.zero_le _, Nat.zero_le _⟩ (by exact hI) (by exact hsz) (by omega) (by rfl) (fun e_7 => ?_)
  refine j_istore (lv' := [(8, .int (jI (F_fell z k))), (7, .int (jI (sumI 64 (fun p => z (28 + p))))), (6, .int (jI (z (18 + 4 * k)))), (5, .int (jI (z (17 + 4 * k)))), (4, .int (jI (z (16 + 4 * k)))), (3, .int (jI (z (28 + (z (15 + 4 * k)))))), (2, .int (jI (z (15 + 4 * k)))), (0, .ref h), (1, .int (jI k))]) G dL_fell_50 (by decide) rfl ?_
  refine j_iload G 4 dL_fell_52 rfl ?_
  refine j_aload_n G 7 dL_fell_54 rfl ?_
  refine j_bipush G dL_fell_55 (v := 14) rfl ?_
  refine jo_count (r0 := (G_fell z k) 2) G dL_fell_57 (goodIn_up _ gvX4_count) ⟨by decide, by decide⟩ (Nat.le_of_ble_eq_true rfl) ⟨Nat.zero_le _, Nat.zero_le _⟩ (by exact hI2) (by omega) (by rfl) (fun e_8 => ?_)
  have f57_ := hI2.s2
  obtain ⟨tv_11, htv_11⟩ : ∃ v_ : Int, v_ = (if ((G_fell z k) 2) ≤ (z (16 + 4 * k)) then (if (z (28 + (z (15 + 4 * k)))) = 0 then (-5) else z (28 + (z (15 + 4 * k)))) else (-4)) := ⟨_, rfl⟩
  suffices hj_12 : J x_ 0 0 (oW Y h ad aq e_8 (G_fell z k) zs ik (hSz (F_fell z k) sz) (hSt (F_fell z k) sz S z)) 78 [(8, .int (jI (F_fell z k))), (7, .int (jI (sumI 64 (fun p => z (28 + p))))), (6, .int (jI (z (18 + 4 * k)))), (5, .int (jI (z (17 + 4 * k)))), (4, .int (jI (z (16 + 4 * k)))), (3, .int (jI (z (28 + (z (15 + 4 * k)))))), (2, .int (jI (z (15 + 4 * k)))), (0, .ref h), (1, .int (jI k))] [.int (jI tv_11)] by
    refine j_icmp_ge (tgt := 68) G dL_fell_60 (by decide) (by omega) (by omega) (fun c60 => ?_) (fun c60 => ?_)
    · refine j_iload_n G 5 dL_fell_68 rfl ?_
      obtain ⟨tv_9, htv_9⟩ : ∃ v_ : Int, v_ = (if (z (28 + (z (15 + 4 * k)))) = 0 then (-5) else z (28 + (z (15 + 4 * k)))) := ⟨_, rfl⟩
      suffices hj_10 : J x_ 0 0 (oW Y h ad aq e_8 (G_fell z k) zs ik (hSz (F_fell z k) sz) (hSt (F_fell z k) sz S z)) 78 [(8, .int (jI (F_fell z k))), (7, .int (jI (sumI 64 (fun p => z (28 + p))))), (6, .int (jI (z (18 + 4 * k)))), (5, .int (jI (z (17 + 4 * k)))), (4, .int (jI (z (16 + 4 * k)))), (3, .int (jI (z (28 + (z (15 + 4 * k)))))), (2, .int (jI (z (15 + 4 * k)))), (0, .ref h), (1, .int (jI k))] [.int (jI tv_9)] by
        refine j_if_ne (tgt := 77) G dL_fell_69 (by decide) (by omega) (fun c69 => ?_) (fun c69 => ?_)
        · refine j_iload_n G 5 dL_fell_77 rfl ?_
          rw [if_neg (show ¬ ((z (28 + (z (15 + 4 * k)))) = 0) by omega)] at htv_9
          subst htv_9
          exact hj_10
        · refine j_bipush G dL_fell_72 (v := (-5)) rfl ?_
          refine j_goto (tgt := 78) G dL_fell_74 (by decide) ?_
          rw [if_pos (show (z (28 + (z (15 + 4 * k)))) = 0 by omega)] at htv_9
          subst htv_9
          exact hj_10
      subst htv_9
      rw [if_pos (show ((G_fell z k) 2) ≤ (z (16 + 4 * k)) by omega)] at htv_11
      subst htv_11
      exact hj_12
    · refine j_bipush G dL_fell_63 (v := (-4)) rfl ?_
      refine j_goto (tgt := 78) G dL_fell_65 (by decide) ?_
      rw [if_neg (show ¬ (((G_fell z k) 2) ≤ (z (16 + 4 * k))) by omega)] at htv_11
      subst htv_11
      exact hj_12
  obtain ⟨due, e_due, h_due⟩ : ∃ y : Int, y = (tv_11) ∧ (y = F_fell z k) := ⟨_, rfl, by first | omega | (rw [htv_11, g1, ← g2]; (repeat' split) <;> omega) | (rw [htv_11, g1, ← g2])⟩
  rw [← e_due]
  refine j_istore (lv' := [(9, .int (jI due)), (8, .int (jI (F_fell z k))), (7, .int (jI (sumI 64 (fun p => z (28 + p))))), (6, .int (jI (z (18 + 4 * k)))), (5, .int (jI (z (17 + 4 * k)))), (4, .int (jI (z (16 + 4 * k)))), (3, .int (jI (z (28 + (z (15 + 4 * k)))))), (2, .int (jI (z (15 + 4 * k)))), (0, .ref h), (1, .int (jI k))]) G dL_fell_78 (by decide) rfl ?_
  refine j_iload G 1 dL_fell_80 rfl ?_
  refine j_iload G 0 dL_fell_82 rfl ?_
  refine j_icmp_ne (tgt := 173) G dL_fell_84 (by decide) (by omega) (by omega) (fun c84 => absurd c84 (by omega)) (fun c84 => ?_)
  have lp168 : ∀ (e9 : oE), J x_ 0 0 (oW Y h ad aq e9 (G_fell z k) zs ik (hSz (F_fell z k) sz) (hSt (F_fell z k) sz S z)) 168 [(0, .ref h), (1, .int (jI k)), (8, .int (jI (F_fell z k)))] [] := by
    intro e9
    refine j_iload G 2 dL_fell_168 rfl ?_
    refine j_goto (tgt := 175) G dL_fell_170 (by decide) ?_
    exact j_reti (r := F_fell z k) G dL_fell_175 (by rfl) (jLe.rf _) (kr0 _ _ ⟨e9, F_fell z k, G_fell z k, rfl, rfl, Act.fell hI hBn k⟩)
  refine j_iload G 0 dL_fell_87 rfl ?_
  refine j_if_lt (tgt := 168) G dL_fell_89 (by decide) (by omega) (fun c89 => ?_) (fun c89 => ?_)
  · refine j_lv [8, 9, 1] (lv' := [(0, .ref h), (1, .int (jI k)), (8, .int (jI (F_fell z k)))]) rfl ?_
    exact lp168 e_8
  · have g4 := fell_sp hI (k := k) (by omega) (by omega)
    refine j_aload_n G 8 dL_fell_92 rfl ?_
    refine j_iload_n G 7 dL_fell_93 rfl ?_
    refine j_iconst G dL_fell_94 (v := 0) rfl ?_
    refine jo_plot (r0 := (G_fell z k) (28 + (z (15 + 4 * k)))) G dL_fell_95 (goodIn_up _ gvX4_plot) ⟨by decide, by decide⟩ (Nat.le_of_ble_eq_true rfl) ⟨Nat.zero_le _, Nat.zero_le _⟩ (by exact hI2) (by omega) (by omega) (by exact fp0 (by omega)) (fun e_13 => ?_)
    have f95_ := bp0 hI2 (p := (z (15 + 4 * k))) (by omega)
    refine j_if_ne (tgt := 173) G dL_fell_98 (by decide) (by omega) (fun c98 => absurd c98 (by omega)) (fun c98 => ?_)
    refine j_aload_n G 8 dL_fell_101 rfl ?_
    refine j_iload_n G 7 dL_fell_102 rfl ?_
    refine j_bipush G dL_fell_103 (v := 6) rfl ?_
    refine jo_plot (r0 := (G_fell z k) (156 + (z (15 + 4 * k)))) G dL_fell_105 (goodIn_up _ gvX4_plot) ⟨by decide, by decide⟩ (Nat.le_of_ble_eq_true rfl) ⟨Nat.zero_le _, Nat.zero_le _⟩ (by exact hI2) (by omega) (by omega) (by exact fp6 (by omega)) (fun e_14 => ?_)
    have f105_ := bp6 hI2 (p := (z (15 + 4 * k))) (by omega)
    refine j_iconst G dL_fell_108 (v := 1) rfl ?_
    refine j_icmp_ne (tgt := 173) G dL_fell_109 (by decide) (by omega) (by omega) (fun c109 => absurd c109 (by omega)) (fun c109 => ?_)
    refine j_aload_n G 8 dL_fell_112 rfl ?_
    refine j_iload_n G 9 dL_fell_113 rfl ?_
    refine j_iconst G dL_fell_114 (v := 1) rfl ?_
    refine jo_crew (r0 := (G_fell z k) (16 + 4 * k)) G dL_fell_115 (goodIn_up _ gvX4_crew) ⟨by decide, by decide⟩ (Nat.le_of_ble_eq_true rfl) ⟨Nat.zero_le _, Nat.zero_le _⟩ (by exact hI2) (by omega) (by omega) (by exact fc1 (by omega)) (fun e_15 => ?_)
    have f115_ := bc1 hI2 (k := k) (by omega)
    refine j_iload G 5 dL_fell_118 rfl ?_
    refine j_aload_n G 8 dL_fell_120 rfl ?_
    refine j_bipush G dL_fell_121 (v := 14) rfl ?_
    refine jo_count (r0 := (G_fell z k) 2) G dL_fell_123 (goodIn_up _ gvX4_count) ⟨by decide, by decide⟩ (Nat.le_of_ble_eq_true rfl) ⟨Nat.zero_le _, Nat.zero_le _⟩ (by exact hI2) (by omega) (by rfl) (fun e_16 => ?_)
    have f123_ := hI2.s2
    refine j_isub G dL_fell_126 ?_
    refine j_icmp_ne (tgt := 173) G dL_fell_127 (by decide) (by omega) (by omega) (fun c127 => absurd c127 (by omega)) (fun c127 => ?_)
    refine j_aload_n G 8 dL_fell_130 rfl ?_
    refine j_iload_n G 9 dL_fell_131 rfl ?_
    refine j_iconst G dL_fell_132 (v := 2) rfl ?_
    refine jo_crew (r0 := (G_fell z k) (17 + 4 * k)) G dL_fell_133 (goodIn_up _ gvX4_crew) ⟨by decide, by decide⟩ (Nat.le_of_ble_eq_true rfl) ⟨Nat.zero_le _, Nat.zero_le _⟩ (by exact hI2) (by omega) (by omega) (by exact fc2 (by omega)) (fun e_17 => ?_)
    have f133_ := bc2 hB2 (k := k) (by omega)
    refine j_iload G 4 dL_fell_136 rfl ?_
    refine j_iload_n G 6 dL_fell_138 rfl ?_
    refine j_iadd G dL_fell_139 ?_
    refine j_icmp_ne (tgt := 173) G dL_fell_140 (by decide) (by omega) (by omega) (fun c140 => absurd c140 (by omega)) (fun c140 => ?_)
    refine j_aload_n G 8 dL_fell_143 rfl ?_
    refine j_iload_n G 9 dL_fell_144 rfl ?_
    refine j_iconst G dL_fell_145 (v := 3) rfl ?_
    refine jo_crew (r0 := (G_fell z k) (18 + 4 * k)) G dL_fell_146 (goodIn_up _ gvX4_crew) ⟨by decide, by decide⟩ (Nat.le_of_ble_eq_true rfl) ⟨Nat.zero_le _, Nat.zero_le _⟩ (by exact hI2) (by omega) (by omega) (by exact fc3 (by omega)) (fun e_18 => ?_)
    have f146_ := bc3 hB2 (k := k) (by omega)
    refine j_iload G 3 dL_fell_149 rfl ?_
    refine j_iconst G dL_fell_151 (v := 1) rfl ?_
    refine j_iadd G dL_fell_152 ?_
    refine j_icmp_ne (tgt := 173) G dL_fell_153 (by decide) (by omega) (by omega) (fun c153 => absurd c153 (by omega)) (fun c153 => ?_)
    refine j_aload_n G 8 dL_fell_156 rfl ?_
    refine j_iconst G dL_fell_157 (v := 1) rfl ?_
    refine jo_count (r0 := sumI 64 (fun p => (G_fell z k) (28 + p))) G dL_fell_158 (goodIn_up _ gvX4_count) ⟨by decide, by decide⟩ (Nat.le_of_ble_eq_true rfl) ⟨Nat.zero_le _, Nat.zero_le _⟩ (by exact hI2) (by omega) (by rfl) (fun e_19 => ?_)
    have f158_ := bn1 hI2
    refine j_iload G 2 dL_fell_161 rfl ?_
    refine j_iload_n G 6 dL_fell_163 rfl ?_
    refine j_isub G dL_fell_164 ?_
    refine j_icmp_ne (tgt := 173) G dL_fell_165 (by decide) (by omega) (by omega) (fun c165 => absurd c165 (by omega)) (fun c165 => ?_)
    refine j_lv [8, 9, 1] (lv' := [(0, .ref h), (1, .int (jI k)), (8, .int (jI (F_fell z k)))]) rfl ?_
    exact lp168 e_19
theorem jl_fell {xc : Cx} {l : Launch} {D : va_G} {Y : Nat → ClassId} {cc : ByteArray} {own : String} {Ts : List Cond} {nL : Nat} {R0 : Room} {ret : Option FieldType} {nm : String} {kc nc pc index h : Nat} {lv : List (Nat × Value)} {st : List Value} {ad : Nat → Nat} {aq : Nat → Nat → Nat} {e : oE} {z zs : Int → Int} {ik sz : Int} {S : Nat → Int → Int} (G : jG xc l D Y cc own Ts nL R0 ret nm) {n : Int} {k : Int} (hdg : decode cc pc = .ok (.invokestatic index, 3)) (hT : GoodIn Ts (va_wsS own index yL_fell wsU_fell)) (hR : 7 ≤ R0.frames ∧ 165 ≤ R0.locals) (hW : (st.map fun v => v.category).sum ≤ 8) (hf : kc ≤ R0.cells ∧ nc ≤ R0.slots) (hI : Inv z) (hBn : Bd n z) (hn : 0 ≤ n ∧ n ≤ 47) (hsz : 0 ≤ sz ∧ sz ≤ 4) (hk : 0 ≤ k ∧ k ≤ 2) (kk : ∀ (e2 : oE) (r : Int) (z2 : Int → Int), Act n z r z2 → J xc kc nc (oW Y h ad aq e2 z2 zs ik (hSz r sz) (hSt r sz S z)) (pc + 3) lv (.int (jI r) :: st)) : J xc kc nc (oW Y h ad aq e z zs ik sz S) pc lv (.int (jI k) :: .ref h :: st) := by
  refine j_callS (nA := 2) (As := [.ref h, .int (jI k)]) (st := st) (wc := oW Y h ad aq e z zs ik sz S) (wr := []) G (c_L_fell l D Y h ad aq e z zs ik sz S n k hI hBn hn hsz hk) hdg rfl hT rfl rfl rfl (by decide +kernel) hR rfl (jLe.nil (jLe.rf _)) hW hf (fun v_ w_ hp_ => ?_)
  obtain ⟨e2, r, z2, rfl, rfl, hA⟩ := hp_
  rw [List.append_nil]
  exact kk e2 r z2 hA

set_option maxHeartbeats 40000000 in
set_option maxRecDepth 100000 in
theorem c_L_hint (l : Launch) (D : va_G) (Y : Nat → ClassId) (h : Nat) (ad : Nat → Nat) (aq : Nat → Nat → Nat) (e : oE) (z zs : Int → Int) (ik sz : Int) (S : Nat → Int → Int) (n : Int) (r : Int) (c : Int) (hI : Inv z) (hBn : Bd n z) (hn : 0 ≤ n ∧ n ≤ 47) (hsz : 0 ≤ sz ∧ sz ≤ 4) (hr : 0 ≤ r ∧ r ≤ 7) (hc : 0 ≤ c ∧ c ≤ 7) : jM l yL_hint wsU_hint { frames := 6, cells := 0, slots := 0, locals := 136 } D Y [.ref h, .int (jI r), .int (jI c)] (oW Y h ad aq e z zs ik sz S) (fun v_ w_ => ∃ (e2 : oE) (r : Int) (z2 : Int → Int), v_ = some (.int (jI r)) ∧ w_ = oW Y h ad aq e2 z2 zs ik (hSz r sz) (hSt r sz S z) ∧ Act n z r z2) 0 0 := by
  refine jM_of (cc := cL_hint) (maxL := 7) (ret := some .int) (by decide) rfl (Nat.le_of_ble_eq_true rfl) (fun v w' h => by obtain ⟨_, _, _, h, _⟩ := h; exact Or.inr (Or.inl ⟨_, _, rfl, h, rfl⟩)) ?_
  intro x_ G kr0
  have G : jG x_ l D Y cL_hint RL wsU_hint 7 ({ frames := 6, cells := 0, slots := 0, locals := 136 } : Room) (some .int) "hint" := G
  show J x_ 0 0 (oW Y h ad aq e z zs ik sz S) 0 [(0, .ref h), (1, .int (jI r)), (2, .int (jI c))] []
  have hB : Bd 48 z := hBn.mono (by omega)
  have hI2 : Inv (G_hint z r c) := hI.hint r c
  have g1 := hint_is (z := z) (r := r) (c := c) (by omega) (by omega)
  have g3 := F_hint_b z r c
  refine j_aload_n G 0 dL_hint_0 rfl ?_
  refine j_iload_n G 1 dL_hint_1 rfl ?_
  refine j_iconst G dL_hint_2 (v := 0) rfl ?_
  refine jo_row (r0 := z (7 + r)) G dL_hint_3 (goodIn_up _ gvX4_row) ⟨by decide, by decide⟩ (Nat.le_of_ble_eq_true rfl) ⟨Nat.zero_le _, Nat.zero_le _⟩ (by exact hI) (by omega) (by omega) (by exact fr0 (by omega)) (fun e_1 => ?_)
  have f3_ := br0 hI (r := r) (by omega)
  refine j_istore_n (lv' := [(3, .int (jI (z (7 + r)))), (0, .ref h), (1, .int (jI r)), (2, .int (jI c))]) G dL_hint_6 (by decide) rfl ?_
  refine j_aload_n G 1 dL_hint_7 rfl ?_
  refine j_iload_n G 2 dL_hint_8 rfl ?_
  refine j_iload_n G 3 dL_hint_9 rfl ?_
  refine jo_ifTold (r0 := pTh (tZ z) (r * 8 + c)) G dL_hint_10 (goodIn_up _ gvX4_ifTold) ⟨by decide, by decide⟩ (Nat.le_of_ble_eq_true rfl) ⟨Nat.zero_le _, Nat.zero_le _⟩ (by exact hI) (by omega) (by omega) (by exact fto (by omega) (by omega)) (fun e_2 => ?_)
  have f10_ := bto (t := tZ z) (r := r) (c := c) (by omega) (by omega)
  refine j_istore (lv' := [(4, .int (jI (pTh (tZ z) (r * 8 + c)))), (3, .int (jI (z (7 + r)))), (0, .ref h), (1, .int (jI r)), (2, .int (jI c))]) G dL_hint_13 (by decide) rfl ?_
  refine j_aload_n G 2 dL_hint_15 rfl ?_
  refine j_iload_n G 3 dL_hint_16 rfl ?_
  refine j_iload_n G 4 dL_hint_17 rfl ?_
  refine jo_hint (r0 := F_hint z r c) G dL_hint_18 (goodIn_up _ gvX4_hint) ⟨by decide, by decide⟩ (Nat.le_of_ble_eq_true rfl) ⟨Nat.zero_le _, Nat.zero_le _⟩ (by exact hI) (by exact hsz) (by omega) (by omega) (by rfl) (fun e_3 => ?_)
  refine j_istore (lv' := [(5, .int (jI (F_hint z r c))), (4, .int (jI (pTh (tZ z) (r * 8 + c)))), (3, .int (jI (z (7 + r)))), (0, .ref h), (1, .int (jI r)), (2, .int (jI c))]) G dL_hint_21 (by decide) rfl ?_
  refine j_iload_n G 2 dL_hint_23 rfl ?_
  refine j_bipush G dL_hint_24 (v := (-5)) rfl ?_
  obtain ⟨tv_6, htv_6⟩ : ∃ v_ : Int, v_ = (if (z (7 + r)) = (-5) then (if (pTh (tZ z) (r * 8 + c)) = 0 then (-4) else pTh (tZ z) (r * 8 + c)) else (-4)) := ⟨_, rfl⟩
  suffices hj_7 : J x_ 0 0 (oW Y h ad aq e_3 (G_hint z r c) zs ik (hSz (F_hint z r c) sz) (hSt (F_hint z r c) sz S z)) 41 [(5, .int (jI (F_hint z r c))), (4, .int (jI (pTh (tZ z) (r * 8 + c)))), (3, .int (jI (z (7 + r)))), (0, .ref h), (1, .int (jI r)), (2, .int (jI c))] [.int (jI tv_6)] by
    refine j_icmp_ne (tgt := 34) G dL_hint_26 (by decide) (by omega) (by omega) (fun c26 => ?_) (fun c26 => ?_)
    · refine j_bipush G dL_hint_34 (v := (-4)) rfl ?_
      refine j_goto (tgt := 41) G dL_hint_36 (by decide) ?_
      rw [if_neg (show ¬ ((z (7 + r)) = (-5)) by omega)] at htv_6
      subst htv_6
      exact hj_7
    · refine j_iload G 1 dL_hint_29 rfl ?_
      obtain ⟨tv_4, htv_4⟩ : ∃ v_ : Int, v_ = (if (pTh (tZ z) (r * 8 + c)) = 0 then (-4) else pTh (tZ z) (r * 8 + c)) := ⟨_, rfl⟩
      suffices hj_5 : J x_ 0 0 (oW Y h ad aq e_3 (G_hint z r c) zs ik (hSz (F_hint z r c) sz) (hSt (F_hint z r c) sz S z)) 41 [(5, .int (jI (F_hint z r c))), (4, .int (jI (pTh (tZ z) (r * 8 + c)))), (3, .int (jI (z (7 + r)))), (0, .ref h), (1, .int (jI r)), (2, .int (jI c))] [.int (jI tv_4)] by
        refine j_if_ne (tgt := 39) G dL_hint_31 (by decide) (by omega) (fun c31 => ?_) (fun c31 => ?_)
        · refine j_iload G 1 dL_hint_39 rfl ?_
          rw [if_neg (show ¬ ((pTh (tZ z) (r * 8 + c)) = 0) by omega)] at htv_4
          subst htv_4
          exact hj_5
        · refine j_bipush G dL_hint_34 (v := (-4)) rfl ?_
          refine j_goto (tgt := 41) G dL_hint_36 (by decide) ?_
          rw [if_pos (show (pTh (tZ z) (r * 8 + c)) = 0 by omega)] at htv_4
          subst htv_4
          exact hj_5
      subst htv_4
      rw [if_pos (show (z (7 + r)) = (-5) by omega)] at htv_6
      subst htv_6
      exact hj_7
  obtain ⟨due, e_due, h_due⟩ : ∃ y : Int, y = (tv_6) ∧ (y = F_hint z r c) := ⟨_, rfl, by first | omega | (rw [htv_6, g1]; (repeat' split) <;> omega)⟩
  rw [← e_due]
  refine j_istore (lv' := [(6, .int (jI due)), (5, .int (jI (F_hint z r c))), (4, .int (jI (pTh (tZ z) (r * 8 + c)))), (3, .int (jI (z (7 + r)))), (0, .ref h), (1, .int (jI r)), (2, .int (jI c))]) G dL_hint_41 (by decide) rfl ?_
  refine j_iload G 1 dL_hint_43 rfl ?_
  refine j_iload G 0 dL_hint_45 rfl ?_
  refine j_icmp_ne (tgt := 80) G dL_hint_47 (by decide) (by omega) (by omega) (fun c47 => absurd c47 (by omega)) (fun c47 => ?_)
  have lp75 : ∀ (e9 : oE), J x_ 0 0 (oW Y h ad aq e9 (G_hint z r c) zs ik (hSz (F_hint z r c) sz) (hSt (F_hint z r c) sz S z)) 75 [(0, .ref h), (1, .int (jI r)), (2, .int (jI c)), (5, .int (jI (F_hint z r c)))] [] := by
    intro e9
    refine j_iload G 3 dL_hint_75 rfl ?_
    refine j_goto (tgt := 82) G dL_hint_77 (by decide) ?_
    exact j_reti (r := F_hint z r c) G dL_hint_82 (by rfl) (jLe.rf _) (kr0 _ _ ⟨e9, F_hint z r c, G_hint z r c, rfl, rfl, Act.hint hI hBn r c⟩)
  refine j_iload G 0 dL_hint_50 rfl ?_
  refine j_if_lt (tgt := 75) G dL_hint_52 (by decide) (by omega) (fun c52 => ?_) (fun c52 => ?_)
  · refine j_lv [4, 5, 6, 1] (lv' := [(0, .ref h), (1, .int (jI r)), (2, .int (jI c)), (5, .int (jI (F_hint z r c)))]) rfl ?_
    exact lp75 e_3
  · have g4 := hint_sp (z := z) (r := r) (c := c) (by omega) (by omega) (by omega)
    refine j_aload_n G 4 dL_hint_55 rfl ?_
    refine j_iconst G dL_hint_56 (v := 5) rfl ?_
    refine jo_count (r0 := pAll (tZ (G_hint z r c))) G dL_hint_57 (goodIn_up _ gvX4_count) ⟨by decide, by decide⟩ (Nat.le_of_ble_eq_true rfl) ⟨Nat.zero_le _, Nat.zero_le _⟩ (by exact hI2) (by omega) (by rfl) (fun e_8 => ?_)
    have f57_ := bn5 hI2
    refine j_iload G 0 dL_hint_60 rfl ?_
    refine j_icmp_ne (tgt := 80) G dL_hint_62 (by decide) (by omega) (by omega) (fun c62 => absurd c62 (by omega)) (fun c62 => ?_)
    refine j_aload_n G 4 dL_hint_65 rfl ?_
    refine j_iload_n G 5 dL_hint_66 rfl ?_
    refine j_iconst G dL_hint_67 (v := 0) rfl ?_
    refine jo_row (r0 := (G_hint z r c) (7 + r)) G dL_hint_68 (goodIn_up _ gvX4_row) ⟨by decide, by decide⟩ (Nat.le_of_ble_eq_true rfl) ⟨Nat.zero_le _, Nat.zero_le _⟩ (by exact hI2) (by omega) (by omega) (by exact fr0 (by omega)) (fun e_9 => ?_)
    have f68_ := br0 hI2 (r := r) (by omega)
    refine j_iload_n G 6 dL_hint_71 rfl ?_
    refine j_icmp_ne (tgt := 80) G dL_hint_72 (by decide) (by omega) (by omega) (fun c72 => absurd c72 (by omega)) (fun c72 => ?_)
    refine j_lv [4, 5, 6, 1] (lv' := [(0, .ref h), (1, .int (jI r)), (2, .int (jI c)), (5, .int (jI (F_hint z r c)))]) rfl ?_
    exact lp75 e_9
theorem jl_hint {xc : Cx} {l : Launch} {D : va_G} {Y : Nat → ClassId} {cc : ByteArray} {own : String} {Ts : List Cond} {nL : Nat} {R0 : Room} {ret : Option FieldType} {nm : String} {kc nc pc index h : Nat} {lv : List (Nat × Value)} {st : List Value} {ad : Nat → Nat} {aq : Nat → Nat → Nat} {e : oE} {z zs : Int → Int} {ik sz : Int} {S : Nat → Int → Int} (G : jG xc l D Y cc own Ts nL R0 ret nm) {n : Int} {r : Int} {c : Int} (hdg : decode cc pc = .ok (.invokestatic index, 3)) (hT : GoodIn Ts (va_wsS own index yL_hint wsU_hint)) (hR : 7 ≤ R0.frames ∧ 162 ≤ R0.locals) (hW : (st.map fun v => v.category).sum ≤ 8) (hf : kc ≤ R0.cells ∧ nc ≤ R0.slots) (hI : Inv z) (hBn : Bd n z) (hn : 0 ≤ n ∧ n ≤ 47) (hsz : 0 ≤ sz ∧ sz ≤ 4) (hr : 0 ≤ r ∧ r ≤ 7) (hc : 0 ≤ c ∧ c ≤ 7) (kk : ∀ (e2 : oE) (r : Int) (z2 : Int → Int), Act n z r z2 → J xc kc nc (oW Y h ad aq e2 z2 zs ik (hSz r sz) (hSt r sz S z)) (pc + 3) lv (.int (jI r) :: st)) : J xc kc nc (oW Y h ad aq e z zs ik sz S) pc lv (.int (jI c) :: .int (jI r) :: .ref h :: st) := by
  refine j_callS (nA := 3) (As := [.ref h, .int (jI r), .int (jI c)]) (st := st) (wc := oW Y h ad aq e z zs ik sz S) (wr := []) G (c_L_hint l D Y h ad aq e z zs ik sz S n r c hI hBn hn hsz hr hc) hdg rfl hT rfl rfl rfl (by decide +kernel) hR rfl (jLe.nil (jLe.rf _)) hW hf (fun v_ w_ hp_ => ?_)
  obtain ⟨e2, r, z2, rfl, rfl, hA⟩ := hp_
  rw [List.append_nil]
  exact kk e2 r z2 hA

set_option maxHeartbeats 40000000 in
set_option maxRecDepth 100000 in
theorem c_L_act (l : Launch) (D : va_G) (Y : Nat → ClassId) (h : Nat) (ad : Nat → Nat) (aq : Nat → Nat → Nat) (e : oE) (z zs : Int → Int) (ik sz : Int) (S : Nat → Int → Int) (n : Int) (x : Int) (hI : Inv z) (hBn : Bd n z) (hn : 0 ≤ n ∧ n ≤ 47) (hsz : 0 ≤ sz ∧ sz ≤ 4) (hx : 0 ≤ x ∧ x ≤ 2147483647) : jM l yL_act wsU_act { frames := 7, cells := 0, slots := 0, locals := 165 } D Y [.ref h, .int (jI x)] (oW Y h ad aq e z zs ik sz S) (fun v_ w_ => ∃ (e2 : oE) (r : Int) (z2 : Int → Int), v_ = some (.int (jI r)) ∧ w_ = oW Y h ad aq e2 z2 zs ik (hSz r sz) (hSt r sz S z) ∧ Act n z r z2) 0 0 := by
  refine jM_of (cc := cL_act) (maxL := 9) (ret := some .int) (by decide) rfl (Nat.le_of_ble_eq_true rfl) (fun v w' h => by obtain ⟨_, _, _, h, _⟩ := h; exact Or.inr (Or.inl ⟨_, _, rfl, h, rfl⟩)) ?_
  intro x_ G kr0
  have G : jG x_ l D Y cL_act RL wsU_act 9 ({ frames := 7, cells := 0, slots := 0, locals := 165 } : Room) (some .int) "act" := G
  show J x_ 0 0 (oW Y h ad aq e z zs ik sz S) 0 [(0, .ref h), (1, .int (jI x))] []
  have hB : Bd 48 z := hBn.mono (by omega)
  refine j_iload_n G 1 dL_act_0 rfl ?_
  refine j_bipush G dL_act_1 (v := 16) rfl ?_
  refine j_irem G dL_act_3 (by omega) (by omega) ?_
  obtain ⟨how, e_how, h_how⟩ : ∃ y : Int, y = (x % 16) ∧ (0 ≤ y ∧ y < 16) := ⟨_, rfl, by omega⟩
  rw [← e_how]
  refine j_istore_n (lv' := [(2, .int (jI how)), (0, .ref h), (1, .int (jI x))]) G dL_act_4 (by decide) rfl ?_
  refine j_iload_n G 2 dL_act_5 rfl ?_
  refine j_bipush G dL_act_6 (v := 16) rfl ?_
  refine j_idiv G dL_act_8 (by omega) (by omega) ?_
  obtain ⟨yy, e_yy, h_yy⟩ : ∃ y : Int, y = (x / 16) ∧ (0 ≤ y ∧ y ≤ 134217727) := ⟨_, rfl, by omega⟩
  rw [← e_yy]
  refine j_istore_n (lv' := [(3, .int (jI yy)), (2, .int (jI how)), (0, .ref h), (1, .int (jI x))]) G dL_act_9 (by decide) rfl ?_
  refine j_iload_n G 0 dL_act_10 rfl ?_
  refine j_iconst G dL_act_11 (v := 3) rfl ?_
  refine j_irem G dL_act_12 (by omega) (by omega) ?_
  obtain ⟨cr, e_cr, h_cr⟩ : ∃ y : Int, y = (yy % 3) ∧ (0 ≤ y ∧ y ≤ 2) := ⟨_, rfl, by omega⟩
  rw [← e_cr]
  refine j_istore (lv' := [(4, .int (jI cr)), (3, .int (jI yy)), (2, .int (jI how)), (0, .ref h), (1, .int (jI x))]) G dL_act_13 (by decide) rfl ?_
  refine j_iload_n G 2 dL_act_15 rfl ?_
  refine j_iconst G dL_act_16 (v := 3) rfl ?_
  refine j_icmp_ge (tgt := 110) G dL_act_17 (by decide) (by omega) (by omega) (fun c17 => ?_) (fun c17 => ?_)
  · refine j_iload_n G 2 dL_act_110 rfl ?_
    refine j_bipush G dL_act_111 (v := 6) rfl ?_
    refine j_icmp_ge (tgt := 167) G dL_act_113 (by decide) (by omega) (by omega) (fun c113 => ?_) (fun c113 => ?_)
    · refine j_iload_n G 2 dL_act_167 rfl ?_
      refine j_bipush G dL_act_168 (v := 9) rfl ?_
      refine j_icmp_ge (tgt := 180) G dL_act_170 (by decide) (by omega) (by omega) (fun c170 => ?_) (fun c170 => ?_)
      · refine j_iload_n G 2 dL_act_180 rfl ?_
        refine j_bipush G dL_act_181 (v := 12) rfl ?_
        refine j_icmp_ge (tgt := 202) G dL_act_183 (by decide) (by omega) (by omega) (fun c183 => ?_) (fun c183 => ?_)
        · refine j_iload_n G 2 dL_act_202 rfl ?_
          refine j_bipush G dL_act_203 (v := 12) rfl ?_
          refine j_icmp_ne (tgt := 299) G dL_act_205 (by decide) (by omega) (by omega) (fun c205 => ?_) (fun c205 => ?_)
          · refine j_iload_n G 2 dL_act_299 rfl ?_
            refine j_bipush G dL_act_300 (v := 13) rfl ?_
            refine j_icmp_ne (tgt := 384) G dL_act_302 (by decide) (by omega) (by omega) (fun c302 => ?_) (fun c302 => ?_)
            · refine j_iload_n G 2 dL_act_384 rfl ?_
              refine j_bipush G dL_act_385 (v := 14) rfl ?_
              refine j_icmp_ne (tgt := 507) G dL_act_387 (by decide) (by omega) (by omega) (fun c387 => ?_) (fun c387 => ?_)
              · refine j_iload_n G 1 dL_act_507 rfl ?_
                refine j_iconst G dL_act_508 (v := 2) rfl ?_
                refine j_irem G dL_act_509 (by omega) (by omega) ?_
                refine j_if_ne (tgt := 600) G dL_act_510 (by decide) (by omega) (fun c510 => ?_) (fun c510 => ?_)
                · refine j_iload_n G 1 dL_act_600 rfl ?_
                  refine j_iconst G dL_act_601 (v := 2) rfl ?_
                  refine j_idiv G dL_act_602 (by omega) (by omega) ?_
                  refine j_iconst G dL_act_603 (v := 3) rfl ?_
                  refine j_irem G dL_act_604 (by omega) (by omega) ?_
                  obtain ⟨wh, e_wh, h_wh⟩ : ∃ y : Int, y = ((yy / 2) % 3) ∧ (0 ≤ y ∧ y ≤ 2) := ⟨_, rfl, by omega⟩
                  rw [← e_wh]
                  refine j_istore (lv' := [(5, .int (jI wh)), (4, .int (jI cr)), (3, .int (jI yy)), (2, .int (jI how)), (0, .ref h), (1, .int (jI x))]) G dL_act_605 (by decide) rfl ?_
                  refine j_iload G 0 dL_act_607 rfl ?_
                  obtain ⟨tv_3, htv_3⟩ : ∃ v_ : Int, v_ = (if wh = 0 then 1 + ((yy / 6) % 30) else (if wh = 1 then (yy / 6) % 3 else 1 + ((yy / 6) % 9))) := ⟨_, rfl⟩
                  suffices hj_4 : J x_ 0 0 (oW Y h ad aq e z zs ik sz S) 648 [(5, .int (jI wh)), (4, .int (jI cr)), (3, .int (jI yy)), (2, .int (jI how)), (0, .ref h), (1, .int (jI x))] [.int (jI tv_3)] by
                    refine j_if_ne (tgt := 624) G dL_act_609 (by decide) (by omega) (fun c609 => ?_) (fun c609 => ?_)
                    · refine j_iload G 0 dL_act_624 rfl ?_
                      refine j_iconst G dL_act_626 (v := 1) rfl ?_
                      obtain ⟨tv_1, htv_1⟩ : ∃ v_ : Int, v_ = (if wh = 1 then (yy / 6) % 3 else 1 + ((yy / 6) % 9)) := ⟨_, rfl⟩
                      suffices hj_2 : J x_ 0 0 (oW Y h ad aq e z zs ik sz S) 648 [(5, .int (jI wh)), (4, .int (jI cr)), (3, .int (jI yy)), (2, .int (jI how)), (0, .ref h), (1, .int (jI x))] [.int (jI tv_1)] by
                        refine j_icmp_ne (tgt := 639) G dL_act_627 (by decide) (by omega) (by omega) (fun c627 => ?_) (fun c627 => ?_)
                        · refine j_iconst G dL_act_639 (v := 1) rfl ?_
                          refine j_iload_n G 2 dL_act_640 rfl ?_
                          refine j_bipush G dL_act_641 (v := 6) rfl ?_
                          refine j_idiv G dL_act_643 (by omega) (by omega) ?_
                          refine j_bipush G dL_act_644 (v := 9) rfl ?_
                          refine j_irem G dL_act_646 (by omega) (by omega) ?_
                          refine j_iadd G dL_act_647 ?_
                          rw [if_neg (show ¬ (wh = 1) by omega)] at htv_1
                          subst htv_1
                          exact hj_2
                        · refine j_iload_n G 2 dL_act_630 rfl ?_
                          refine j_bipush G dL_act_631 (v := 6) rfl ?_
                          refine j_idiv G dL_act_633 (by omega) (by omega) ?_
                          refine j_iconst G dL_act_634 (v := 3) rfl ?_
                          refine j_irem G dL_act_635 (by omega) (by omega) ?_
                          refine j_goto (tgt := 648) G dL_act_636 (by decide) ?_
                          rw [if_pos (show wh = 1 by omega)] at htv_1
                          subst htv_1
                          exact hj_2
                      subst htv_1
                      rw [if_neg (show ¬ (wh = 0) by omega)] at htv_3
                      subst htv_3
                      exact hj_4
                    · refine j_iconst G dL_act_612 (v := 1) rfl ?_
                      refine j_iload_n G 2 dL_act_613 rfl ?_
                      refine j_bipush G dL_act_614 (v := 6) rfl ?_
                      refine j_idiv G dL_act_616 (by omega) (by omega) ?_
                      refine j_bipush G dL_act_617 (v := 30) rfl ?_
                      refine j_irem G dL_act_619 (by omega) (by omega) ?_
                      refine j_iadd G dL_act_620 ?_
                      refine j_goto (tgt := 648) G dL_act_621 (by decide) ?_
                      rw [if_pos (show wh = 0 by omega)] at htv_3
                      subst htv_3
                      exact hj_4
                  obtain ⟨va, e_va, h_va⟩ : ∃ y : Int, y = (tv_3) ∧ ((sLo wh ≤ y ∧ y ≤ sHi wh) ∧ 0 ≤ y ∧ y ≤ 30) := ⟨_, rfl, by rw [htv_3]; unfold sLo sHi; (repeat' split) <;> omega⟩
                  rw [← e_va]
                  refine j_istore (lv' := [(6, .int (jI va)), (5, .int (jI wh)), (4, .int (jI cr)), (3, .int (jI yy)), (2, .int (jI how)), (0, .ref h), (1, .int (jI x))]) G dL_act_648 (by decide) rfl ?_
                  refine j_aload_n G 5 dL_act_650 rfl ?_
                  refine j_bipush G dL_act_651 (v := 12) rfl ?_
                  refine j_iload G 1 dL_act_653 rfl ?_
                  refine j_iadd G dL_act_655 ?_
                  refine jo_count (r0 := z wh) G dL_act_656 (goodIn_up _ gvX4_count) ⟨by decide, by decide⟩ (Nat.le_of_ble_eq_true rfl) ⟨Nat.zero_le _, Nat.zero_le _⟩ (by exact hI) (by omega) (by exact count_set (by omega)) (fun e_5 => ?_)
                  have f656 := set_in hI (i := wh) (by omega)
                  have f656b := sLo_b wh
                  have f656c := sHi_b wh
                  refine j_istore (lv' := [(7, .int (jI (z wh))), (6, .int (jI va)), (5, .int (jI wh)), (4, .int (jI cr)), (3, .int (jI yy)), (2, .int (jI how)), (0, .ref h), (1, .int (jI x))]) G dL_act_659 (by decide) rfl ?_
                  refine j_aload_n G 6 dL_act_661 rfl ?_
                  refine j_iload G 2 dL_act_662 rfl ?_
                  refine j_iload G 1 dL_act_664 rfl ?_
                  refine jo_set (r0 := F_set z wh va) G dL_act_666 (goodIn_up _ gvX4_set) ⟨by decide, by decide⟩ (Nat.le_of_ble_eq_true rfl) ⟨Nat.zero_le _, Nat.zero_le _⟩ (by exact hI) (by exact hsz) (by omega) (by omega) (by rfl) (fun e_6 => ?_)
                  have g1 := set_is (z := z) (i := wh) (v := va) (by omega) (by omega)
                  have g3 := F_set_b hI wh va
                  have hI2t : Inv (G_set z wh va) := hI.set wh va
                  refine j_istore (lv' := [(8, .int (jI (F_set z wh va))), (7, .int (jI (z wh))), (6, .int (jI va)), (5, .int (jI wh)), (4, .int (jI cr)), (3, .int (jI yy)), (2, .int (jI how)), (0, .ref h), (1, .int (jI x))]) G dL_act_669 (by decide) rfl ?_
                  refine j_iload G 0 dL_act_671 rfl ?_
                  refine j_iload G 1 dL_act_673 rfl ?_
                  refine j_iload G 2 dL_act_675 rfl ?_
                  obtain ⟨tv_7, htv_7⟩ : ∃ v_ : Int, v_ = (if (z wh) = va then (-5) else z wh) := ⟨_, rfl⟩
                  suffices hj_8 : J x_ 0 0 (oW Y h ad aq e_6 (G_set z wh va) zs ik (hSz (F_set z wh va) sz) (hSt (F_set z wh va) sz S z)) 687 [(8, .int (jI (F_set z wh va))), (7, .int (jI (z wh))), (6, .int (jI va)), (5, .int (jI wh)), (4, .int (jI cr)), (3, .int (jI yy)), (2, .int (jI how)), (0, .ref h), (1, .int (jI x))] [.int (jI tv_7), .int (jI (F_set z wh va))] by
                    refine j_icmp_ne (tgt := 685) G dL_act_677 (by decide) (by omega) (by omega) (fun c677 => ?_) (fun c677 => ?_)
                    · refine j_iload G 1 dL_act_685 rfl ?_
                      rw [if_neg (show ¬ ((z wh) = va) by omega)] at htv_7
                      subst htv_7
                      exact hj_8
                    · refine j_bipush G dL_act_680 (v := (-5)) rfl ?_
                      refine j_goto (tgt := 687) G dL_act_682 (by decide) ?_
                      rw [if_pos (show (z wh) = va by omega)] at htv_7
                      subst htv_7
                      exact hj_8
                  refine j_icmp_ne (tgt := 709) G dL_act_687 (by decide) (by omega) (by omega) (fun c687 => absurd c687 (by omega)) (fun c687 => ?_)
                  refine j_aload_n G 7 dL_act_690 rfl ?_
                  refine j_bipush G dL_act_691 (v := 12) rfl ?_
                  refine j_iload G 3 dL_act_693 rfl ?_
                  refine j_iadd G dL_act_695 ?_
                  refine jo_count (r0 := (G_set z wh va) wh) G dL_act_696 (goodIn_up _ gvX4_count) ⟨by decide, by decide⟩ (Nat.le_of_ble_eq_true rfl) ⟨Nat.zero_le _, Nat.zero_le _⟩ (by exact hI2t) (by omega) (by exact count_set (by omega)) (fun e_9 => ?_)
                  refine j_iload G 2 dL_act_699 rfl ?_
                  refine j_icmp_ne (tgt := 709) G dL_act_701 (by decide) (by omega) (by omega) (fun c701 => absurd c701 (by omega)) (fun c701 => ?_)
                  refine j_iload G 0 dL_act_704 rfl ?_
                  refine j_goto (tgt := 711) G dL_act_706 (by decide) ?_
                  exact j_reti (r := F_set z wh va) G dL_act_711 (by rfl) (jLe.rf _) (kr0 _ _ ⟨e_9, F_set z wh va, G_set z wh va, rfl, rfl, Act.set hI hBn wh va⟩)
                · have lp532 : ∀ (du : Int) (e5 : oE), (du = F_storm z) → J x_ 0 0 (oW Y h ad aq e5 z zs ik sz S) 532 [(0, .ref h), (1, .int (jI x)), (2, .int (jI how)), (3, .int (jI yy)), (4, .int (jI cr))] [.int (jI du)] := by
                    intro du e5 hdu
                    refine j_istore (lv' := [(5, .int (jI du)), (0, .ref h), (1, .int (jI x)), (2, .int (jI how)), (3, .int (jI yy)), (4, .int (jI cr))]) G dL_act_532 (by decide) rfl ?_
                    refine j_aload_n G 1 dL_act_534 rfl ?_
                    refine j_bipush G dL_act_535 (v := 8) rfl ?_
                    refine jo_count (r0 := z 4) G dL_act_537 (goodIn_up _ gvX4_count) ⟨by decide, by decide⟩ (Nat.le_of_ble_eq_true rfl) ⟨Nat.zero_le _, Nat.zero_le _⟩ (by exact hI) (by omega) (by rfl) (fun e_10 => ?_)
                    have f537_ := bn8 hB
                    refine j_istore (lv' := [(6, .int (jI (z 4))), (5, .int (jI du)), (0, .ref h), (1, .int (jI x)), (2, .int (jI how)), (3, .int (jI yy)), (4, .int (jI cr))]) G dL_act_540 (by decide) rfl ?_
                    refine j_aload_n G 2 dL_act_542 rfl ?_
                    refine jo_storm (r0 := F_storm z) G dL_act_543 (goodIn_up _ gvX4_storm) ⟨by decide, by decide⟩ (Nat.le_of_ble_eq_true rfl) ⟨Nat.zero_le _, Nat.zero_le _⟩ (by exact hI) (by exact hsz) (by rfl) (fun e_11 => ?_)
                    have g3 := F_storm_b hI
                    have hI2s : Inv (G_storm z) := hI.storm
                    have hB2s : Bd 48 (G_storm z) := (hBn.storm hI).mono (by omega)
                    refine j_istore (lv' := [(7, .int (jI (F_storm z))), (6, .int (jI (z 4))), (5, .int (jI du)), (0, .ref h), (1, .int (jI x)), (2, .int (jI how)), (3, .int (jI yy)), (4, .int (jI cr))]) G dL_act_546 (by decide) rfl ?_
                    refine j_iload G 0 dL_act_548 rfl ?_
                    refine j_iload G 2 dL_act_550 rfl ?_
                    refine j_icmp_ne (tgt := 597) G dL_act_552 (by decide) (by omega) (by omega) (fun c552 => absurd c552 (by omega)) (fun c552 => ?_)
                    have lp592 : ∀ (e6 : oE), J x_ 0 0 (oW Y h ad aq e6 (G_storm z) zs ik (hSz (F_storm z) sz) (hSt (F_storm z) sz S z)) 592 [(0, .ref h), (7, .int (jI (F_storm z)))] [] := by
                      intro e6
                      refine j_iload G 1 dL_act_592 rfl ?_
                      refine j_goto (tgt := 599) G dL_act_594 (by decide) ?_
                      exact j_reti (r := F_storm z) G dL_act_599 (by rfl) (jLe.rf _) (kr0 _ _ ⟨e6, F_storm z, G_storm z, rfl, rfl, Act.storm hI hBn⟩)
                    refine j_iload G 2 dL_act_555 rfl ?_
                    refine j_if_lt (tgt := 592) G dL_act_557 (by decide) (by omega) (fun c557 => ?_) (fun c557 => ?_)
                    · refine j_lv [3, 0] (lv' := [(0, .ref h), (7, .int (jI (F_storm z)))]) rfl ?_
                      exact lp592 e_11
                    · have g5 := storm_left (z := z) (storm_neg hI (by omega))
                      refine j_aload_n G 3 dL_act_560 rfl ?_
                      refine j_bipush G dL_act_561 (v := 8) rfl ?_
                      refine jo_count (r0 := (G_storm z) 4) G dL_act_563 (goodIn_up _ gvX4_count) ⟨by decide, by decide⟩ (Nat.le_of_ble_eq_true rfl) ⟨Nat.zero_le _, Nat.zero_le _⟩ (by exact hI2s) (by omega) (by rfl) (fun e_12 => ?_)
                      have f563_ := bn8 hB2s
                      refine j_iload G 1 dL_act_566 rfl ?_
                      refine j_iload G 2 dL_act_568 rfl ?_
                      refine j_iadd G dL_act_570 ?_
                      refine j_icmp_ne (tgt := 597) G dL_act_571 (by decide) (by omega) (by omega) (fun c571 => absurd c571 (by omega)) (fun c571 => ?_)
                      refine j_aload_n G 3 dL_act_574 rfl ?_
                      refine j_bipush G dL_act_575 (v := 6) rfl ?_
                      refine jo_count (r0 := sumI 8 (fun r => if ¬ (G_storm z) (7 + r) = -5 then 1 else 0)) G dL_act_577 (goodIn_up _ gvX4_count) ⟨by decide, by decide⟩ (Nat.le_of_ble_eq_true rfl) ⟨Nat.zero_le _, Nat.zero_le _⟩ (by exact hI2s) (by omega) (by rfl) (fun e_13 => ?_)
                      have f577_ := bn6 (G_storm z)
                      refine j_if_ne (tgt := 597) G dL_act_580 (by decide) (by omega) (fun c580 => absurd c580 (by omega)) (fun c580 => ?_)
                      refine j_aload_n G 3 dL_act_583 rfl ?_
                      refine j_bipush G dL_act_584 (v := 11) rfl ?_
                      refine jo_count (r0 := sumI 64 (fun p => if ¬ (G_storm z) (156 + p) = 0 then 1 else 0)) G dL_act_586 (goodIn_up _ gvX4_count) ⟨by decide, by decide⟩ (Nat.le_of_ble_eq_true rfl) ⟨Nat.zero_le _, Nat.zero_le _⟩ (by exact hI2s) (by omega) (by rfl) (fun e_14 => ?_)
                      have f586_ := bn11 (G_storm z)
                      refine j_if_ne (tgt := 597) G dL_act_589 (by decide) (by omega) (fun c589 => absurd c589 (by omega)) (fun c589 => ?_)
                      refine j_lv [3, 0] (lv' := [(0, .ref h), (7, .int (jI (F_storm z)))]) rfl ?_
                      exact lp592 e_14
                  refine j_aload_n G 3 dL_act_513 rfl ?_
                  refine j_iconst G dL_act_514 (v := 5) rfl ?_
                  refine jo_count (r0 := pAll (tZ z)) G dL_act_515 (goodIn_up _ gvX4_count) ⟨by decide, by decide⟩ (Nat.le_of_ble_eq_true rfl) ⟨Nat.zero_le _, Nat.zero_le _⟩ (by exact hI) (by omega) (by rfl) (fun e_15 => ?_)
                  have f515_ := bn5 hI
                  refine j_iconst G dL_act_518 (v := 1) rfl ?_
                  refine j_icmp_le (tgt := 527) G dL_act_519 (by decide) (by omega) (by omega) (fun c519 => ?_) (fun c519 => ?_)
                  · refine j_aload_n G 3 dL_act_527 rfl ?_
                    refine j_iconst G dL_act_528 (v := 4) rfl ?_
                    refine jo_count (r0 := sumI 64 (fun p => zLo z (tZ z) p)) G dL_act_529 (goodIn_up _ gvX4_count) ⟨by decide, by decide⟩ (Nat.le_of_ble_eq_true rfl) ⟨Nat.zero_le _, Nat.zero_le _⟩ (by exact hI) (by omega) (by rfl) (fun e_16 => ?_)
                    have f529_ := bn4 hI
                    refine j_lv [3, 4, 2, 1, 0] (lv' := [(0, .ref h), (1, .int (jI x)), (2, .int (jI how)), (3, .int (jI yy)), (4, .int (jI cr))]) rfl ?_
                    exact lp532 (sumI 64 (fun p => zLo z (tZ z) p)) e_16 (by rw [storm_is hI]; first | (rw [if_pos (by omega)]; done) | (rw [if_neg (by omega)]; done))
                  · refine j_bipush G dL_act_522 (v := (-4)) rfl ?_
                    refine j_goto (tgt := 532) G dL_act_524 (by decide) ?_
                    refine j_lv [3, 4, 2, 1, 0] (lv' := [(0, .ref h), (1, .int (jI x)), (2, .int (jI how)), (3, .int (jI yy)), (4, .int (jI cr))]) rfl ?_
                    exact lp532 (-4) e_15 (by rw [storm_is hI]; first | (rw [if_pos (by omega)]; done) | (rw [if_neg (by omega)]; done))
              · refine j_iconst G dL_act_390 (v := 1) rfl ?_
                refine j_iload_n G 1 dL_act_391 rfl ?_
                refine j_iconst G dL_act_392 (v := 3) rfl ?_
                refine j_idiv G dL_act_393 (by omega) (by omega) ?_
                refine j_iload G 0 dL_act_394 rfl ?_
                obtain ⟨tv_17, htv_17⟩ : ∃ v_ : Int, v_ = (if cr = 0 then 99 else 2) := ⟨_, rfl⟩
                suffices hj_18 : J x_ 0 0 (oW Y h ad aq e z zs ik sz S) 405 [(4, .int (jI cr)), (3, .int (jI yy)), (2, .int (jI how)), (0, .ref h), (1, .int (jI x))] [.int (jI tv_17), .int (jI (yy / 3)), .int (jI 1)] by
                  refine j_if_ne (tgt := 404) G dL_act_396 (by decide) (by omega) (fun c396 => ?_) (fun c396 => ?_)
                  · refine j_iconst G dL_act_404 (v := 2) rfl ?_
                    rw [if_neg (show ¬ (cr = 0) by omega)] at htv_17
                    subst htv_17
                    exact hj_18
                  · refine j_bipush G dL_act_399 (v := 99) rfl ?_
                    refine j_goto (tgt := 405) G dL_act_401 (by decide) ?_
                    rw [if_pos (show cr = 0 by omega)] at htv_17
                    subst htv_17
                    exact hj_18
                obtain ⟨md, e_md, h_md⟩ : ∃ y : Int, y = (tv_17) ∧ (y = 99 ∨ y = 2) := ⟨_, rfl, by rw [htv_17]; split <;> omega⟩
                rw [← e_md]
                refine j_irem G dL_act_405 (by omega) (by omega) ?_
                refine j_iadd G dL_act_406 ?_
                obtain ⟨dy, e_dy, h_dy⟩ : ∃ y : Int, y = (1 + ((yy / 3) % md)) ∧ (1 ≤ y ∧ y ≤ 99) := ⟨_, rfl, by rcases h_md with q | q <;> rw [q] <;> omega⟩
                rw [← e_dy]
                refine j_istore (lv' := [(5, .int (jI dy)), (4, .int (jI cr)), (3, .int (jI yy)), (2, .int (jI how)), (0, .ref h), (1, .int (jI x))]) G dL_act_407 (by decide) rfl ?_
                refine j_aload_n G 4 dL_act_409 rfl ?_
                refine j_iconst G dL_act_410 (v := 0) rfl ?_
                refine jo_count (r0 := z 3) G dL_act_411 (goodIn_up _ gvX4_count) ⟨by decide, by decide⟩ (Nat.le_of_ble_eq_true rfl) ⟨Nat.zero_le _, Nat.zero_le _⟩ (by exact hI) (by omega) (by rfl) (fun e_19 => ?_)
                have f411_ := hI.da
                refine j_istore (lv' := [(6, .int (jI (z 3))), (5, .int (jI dy)), (4, .int (jI cr)), (3, .int (jI yy)), (2, .int (jI how)), (0, .ref h), (1, .int (jI x))]) G dL_act_414 (by decide) rfl ?_
                refine j_aload_n G 5 dL_act_416 rfl ?_
                refine j_iload_n G 3 dL_act_417 rfl ?_
                refine j_bipush G dL_act_418 (v := 64) rfl ?_
                refine j_irem G dL_act_420 (by omega) (by omega) ?_
                refine j_iconst G dL_act_421 (v := 1) rfl ?_
                refine jo_plot (r0 := z 92) G dL_act_422 (goodIn_up _ gvX4_plot) ⟨by decide, by decide⟩ (Nat.le_of_ble_eq_true rfl) ⟨Nat.zero_le _, Nat.zero_le _⟩ (by exact hI) (by omega) (by omega) (by exact fp1 (by omega)) (fun e_20 => ?_)
                have f422_ := bp1 hI (p := (yy % 64)) (by omega)
                refine j_istore (lv' := [(7, .int (jI (z 92))), (6, .int (jI (z 3))), (5, .int (jI dy)), (4, .int (jI cr)), (3, .int (jI yy)), (2, .int (jI how)), (0, .ref h), (1, .int (jI x))]) G dL_act_425 (by decide) rfl ?_
                refine j_aload_n G 6 dL_act_427 rfl ?_
                refine j_iload G 2 dL_act_428 rfl ?_
                refine jo_endDays (r0 := F_end z dy) G dL_act_430 (goodIn_up _ gvX4_endDays) ⟨by decide, by decide⟩ (Nat.le_of_ble_eq_true rfl) ⟨Nat.zero_le _, Nat.zero_le _⟩ (by exact hI) (by exact hsz) (by omega) (by rfl) (fun e_21 => ?_)
                have g0 := hBn.1
                have g1 := end_sp (z := z) (n := dy) (by omega) (by omega)
                have g4 := g1.2.2.2.2 cr (by omega) (by omega)
                have hI2e : Inv (G_end z dy) := hI.pass dy
                refine j_istore (lv' := [(8, .int (jI (F_end z dy))), (7, .int (jI (z 92))), (6, .int (jI (z 3))), (5, .int (jI dy)), (4, .int (jI cr)), (3, .int (jI yy)), (2, .int (jI how)), (0, .ref h), (1, .int (jI x))]) G dL_act_433 (by decide) rfl ?_
                refine j_iload G 0 dL_act_435 rfl ?_
                refine j_iload G 2 dL_act_437 rfl ?_
                refine j_iload G 3 dL_act_439 rfl ?_
                refine j_iadd G dL_act_441 ?_
                refine j_icmp_ne (tgt := 504) G dL_act_442 (by decide) (by omega) (by omega) (fun c442 => absurd c442 (by omega)) (fun c442 => ?_)
                refine j_aload_n G 7 dL_act_445 rfl ?_
                refine j_iconst G dL_act_446 (v := 0) rfl ?_
                refine jo_count (r0 := (G_end z dy) 3) G dL_act_447 (goodIn_up _ gvX4_count) ⟨by decide, by decide⟩ (Nat.le_of_ble_eq_true rfl) ⟨Nat.zero_le _, Nat.zero_le _⟩ (by exact hI2e) (by omega) (by rfl) (fun e_22 => ?_)
                have f447_ := hI2e.da
                refine j_iload G 0 dL_act_450 rfl ?_
                refine j_icmp_ne (tgt := 504) G dL_act_452 (by decide) (by omega) (by omega) (fun c452 => absurd c452 (by omega)) (fun c452 => ?_)
                refine j_aload_n G 7 dL_act_455 rfl ?_
                refine j_iload_n G 5 dL_act_456 rfl ?_
                refine j_bipush G dL_act_457 (v := 64) rfl ?_
                refine j_irem G dL_act_459 (by omega) (by omega) ?_
                refine j_iconst G dL_act_460 (v := 1) rfl ?_
                refine jo_plot (r0 := (G_end z dy) 92) G dL_act_461 (goodIn_up _ gvX4_plot) ⟨by decide, by decide⟩ (Nat.le_of_ble_eq_true rfl) ⟨Nat.zero_le _, Nat.zero_le _⟩ (by exact hI2e) (by omega) (by omega) (by exact fp1 (by omega)) (fun e_23 => ?_)
                have f461_ := bp1 hI2e (p := (yy % 64)) (by omega)
                refine j_iload G 1 dL_act_464 rfl ?_
                refine j_iload G 3 dL_act_466 rfl ?_
                obtain ⟨tv_24, htv_24⟩ : ∃ v_ : Int, v_ = (if (z 92) ≤ dy then 0 else (z 92) - dy) := ⟨_, rfl⟩
                suffices hj_25 : J x_ 0 0 (oW Y h ad aq e_23 (G_end z dy) zs ik (hSz (F_end z dy) sz) (hSt (F_end z dy) sz S z)) 480 [(8, .int (jI (F_end z dy))), (7, .int (jI (z 92))), (6, .int (jI (z 3))), (5, .int (jI dy)), (4, .int (jI cr)), (3, .int (jI yy)), (2, .int (jI how)), (0, .ref h), (1, .int (jI x))] [.int (jI tv_24), .int (jI ((G_end z dy) 92))] by
                  refine j_icmp_le (tgt := 479) G dL_act_468 (by decide) (by omega) (by omega) (fun c468 => ?_) (fun c468 => ?_)
                  · refine j_iconst G dL_act_479 (v := 0) rfl ?_
                    rw [if_pos (show (z 92) ≤ dy by omega)] at htv_24
                    subst htv_24
                    exact hj_25
                  · refine j_iload G 1 dL_act_471 rfl ?_
                    refine j_iload G 3 dL_act_473 rfl ?_
                    refine j_isub G dL_act_475 ?_
                    refine j_goto (tgt := 480) G dL_act_476 (by decide) ?_
                    rw [if_neg (show ¬ ((z 92) ≤ dy) by omega)] at htv_24
                    subst htv_24
                    exact hj_25
                refine j_icmp_ne (tgt := 504) G dL_act_480 (by decide) (by omega) (by omega) (fun c480 => absurd c480 (by omega)) (fun c480 => ?_)
                refine j_aload_n G 7 dL_act_483 rfl ?_
                refine j_iload G 4 dL_act_484 rfl ?_
                refine j_iconst G dL_act_486 (v := 1) rfl ?_
                refine jo_crew (r0 := (G_end z dy) (16 + 4 * cr)) G dL_act_487 (goodIn_up _ gvX4_crew) ⟨by decide, by decide⟩ (Nat.le_of_ble_eq_true rfl) ⟨Nat.zero_le _, Nat.zero_le _⟩ (by exact hI2e) (by omega) (by omega) (by exact fc1 (by omega)) (fun e_26 => ?_)
                have f487_ := bc1 hI2e (k := cr) (by omega)
                refine j_aload_n G 7 dL_act_490 rfl ?_
                refine j_bipush G dL_act_491 (v := 12) rfl ?_
                refine jo_count (r0 := (G_end z dy) 0) G dL_act_493 (goodIn_up _ gvX4_count) ⟨by decide, by decide⟩ (Nat.le_of_ble_eq_true rfl) ⟨Nat.zero_le _, Nat.zero_le _⟩ (by exact hI2e) (by omega) (by rfl) (fun e_27 => ?_)
                have f493_ := hI2e.s0
                refine j_icmp_ne (tgt := 504) G dL_act_496 (by decide) (by omega) (by omega) (fun c496 => absurd c496 (by omega)) (fun c496 => ?_)
                refine j_iload G 0 dL_act_499 rfl ?_
                refine j_goto (tgt := 506) G dL_act_501 (by decide) ?_
                exact j_reti (r := F_end z dy) G dL_act_506 (by rfl) (jLe.rf _) (kr0 _ _ ⟨e_27, F_end z dy, G_end z dy, rfl, rfl, Act.pass hI hBn dy⟩)
            · refine j_iconst G dL_act_305 (v := 1) rfl ?_
              refine j_iload_n G 1 dL_act_306 rfl ?_
              refine j_bipush G dL_act_307 (v := 9) rfl ?_
              refine j_irem G dL_act_309 (by omega) (by omega) ?_
              refine j_iadd G dL_act_310 ?_
              obtain ⟨mu_, e_mu_, h_mu_⟩ : ∃ y : Int, y = (1 + (yy % 9)) ∧ (1 ≤ y ∧ y ≤ 9) := ⟨_, rfl, by omega⟩
              rw [← e_mu_]
              refine j_istore (lv' := [(5, .int (jI mu_)), (4, .int (jI cr)), (3, .int (jI yy)), (2, .int (jI how)), (0, .ref h), (1, .int (jI x))]) G dL_act_311 (by decide) rfl ?_
              refine j_aload_n G 4 dL_act_313 rfl ?_
              refine j_iload_n G 2 dL_act_314 rfl ?_
              refine j_bipush G dL_act_315 (v := 64) rfl ?_
              refine j_irem G dL_act_317 (by omega) (by omega) ?_
              refine j_iconst G dL_act_318 (v := 1) rfl ?_
              refine jo_plot (r0 := z 92) G dL_act_319 (goodIn_up _ gvX4_plot) ⟨by decide, by decide⟩ (Nat.le_of_ble_eq_true rfl) ⟨Nat.zero_le _, Nat.zero_le _⟩ (by exact hI) (by omega) (by omega) (by exact fp1 (by omega)) (fun e_28 => ?_)
              have f319_ := bp1 hI (p := (yy % 64)) (by omega)
              refine j_istore (lv' := [(6, .int (jI (z 92))), (5, .int (jI mu_)), (4, .int (jI cr)), (3, .int (jI yy)), (2, .int (jI how)), (0, .ref h), (1, .int (jI x))]) G dL_act_322 (by decide) rfl ?_
              refine j_aload_n G 5 dL_act_324 rfl ?_
              refine j_iload G 1 dL_act_325 rfl ?_
              refine jo_rain (r0 := F_rain z mu_) G dL_act_327 (goodIn_up _ gvX4_rain) ⟨by decide, by decide⟩ (Nat.le_of_ble_eq_true rfl) ⟨Nat.zero_le _, Nat.zero_le _⟩ (by exact hI) (by exact hsz) (by omega) (by rfl) (fun e_29 => ?_)
              have g1 := rain_sp (z := z) (m := mu_) (by omega)
              have hI2r : Inv (G_rain z mu_) := hI.rain mu_
              refine j_istore (lv' := [(7, .int (jI (F_rain z mu_))), (6, .int (jI (z 92))), (5, .int (jI mu_)), (4, .int (jI cr)), (3, .int (jI yy)), (2, .int (jI how)), (0, .ref h), (1, .int (jI x))]) G dL_act_330 (by decide) rfl ?_
              refine j_iload G 0 dL_act_332 rfl ?_
              refine j_if_lt (tgt := 381) G dL_act_334 (by decide) (by omega) (fun c334 => absurd c334 (by omega)) (fun c334 => ?_)
              refine j_iload G 0 dL_act_337 rfl ?_
              refine j_bipush G dL_act_339 (v := 64) rfl ?_
              refine j_icmp_gt (tgt := 381) G dL_act_341 (by decide) (by omega) (by omega) (fun c341 => absurd c341 (by omega)) (fun c341 => ?_)
              refine j_aload_n G 6 dL_act_344 rfl ?_
              refine j_iload_n G 4 dL_act_345 rfl ?_
              refine j_bipush G dL_act_346 (v := 64) rfl ?_
              refine j_irem G dL_act_348 (by omega) (by omega) ?_
              refine j_iconst G dL_act_349 (v := 1) rfl ?_
              refine jo_plot (r0 := (G_rain z mu_) 92) G dL_act_350 (goodIn_up _ gvX4_plot) ⟨by decide, by decide⟩ (Nat.le_of_ble_eq_true rfl) ⟨Nat.zero_le _, Nat.zero_le _⟩ (by exact hI2r) (by omega) (by omega) (by exact fp1 (by omega)) (fun e_30 => ?_)
              have f350_ := bp1 hI2r (p := (yy % 64)) (by omega)
              refine j_iload G 1 dL_act_353 rfl ?_
              refine j_iload G 2 dL_act_355 rfl ?_
              refine j_iadd G dL_act_357 ?_
              refine j_bipush G dL_act_358 (v := 9) rfl ?_
              obtain ⟨tv_31, htv_31⟩ : ∃ v_ : Int, v_ = (if ((z 92) + mu_) ≤ 9 then (z 92) + mu_ else 9) := ⟨_, rfl⟩
              suffices hj_32 : J x_ 0 0 (oW Y h ad aq e_30 (G_rain z mu_) zs ik (hSz (F_rain z mu_) sz) (hSt (F_rain z mu_) sz S z)) 373 [(7, .int (jI (F_rain z mu_))), (6, .int (jI (z 92))), (5, .int (jI mu_)), (4, .int (jI cr)), (3, .int (jI yy)), (2, .int (jI how)), (0, .ref h), (1, .int (jI x))] [.int (jI tv_31), .int (jI ((G_rain z mu_) 92))] by
                refine j_icmp_le (tgt := 368) G dL_act_360 (by decide) (by omega) (by omega) (fun c360 => ?_) (fun c360 => ?_)
                · refine j_iload G 1 dL_act_368 rfl ?_
                  refine j_iload G 2 dL_act_370 rfl ?_
                  refine j_iadd G dL_act_372 ?_
                  rw [if_pos (show ((z 92) + mu_) ≤ 9 by omega)] at htv_31
                  subst htv_31
                  exact hj_32
                · refine j_bipush G dL_act_363 (v := 9) rfl ?_
                  refine j_goto (tgt := 373) G dL_act_365 (by decide) ?_
                  rw [if_neg (show ¬ (((z 92) + mu_) ≤ 9) by omega)] at htv_31
                  subst htv_31
                  exact hj_32
              refine j_icmp_ne (tgt := 381) G dL_act_373 (by decide) (by omega) (by omega) (fun c373 => absurd c373 (by omega)) (fun c373 => ?_)
              refine j_iload G 0 dL_act_376 rfl ?_
              refine j_goto (tgt := 383) G dL_act_378 (by decide) ?_
              exact j_reti (r := F_rain z mu_) G dL_act_383 (by rfl) (jLe.rf _) (kr0 _ _ ⟨e_30, F_rain z mu_, G_rain z mu_, rfl, rfl, Act.rain hI hBn mu_⟩)
          · refine j_aload_n G 3 dL_act_208 rfl ?_
            refine j_iload_n G 1 dL_act_209 rfl ?_
            refine j_bipush G dL_act_210 (v := 8) rfl ?_
            refine j_irem G dL_act_212 (by omega) (by omega) ?_
            refine j_iconst G dL_act_213 (v := 0) rfl ?_
            refine jo_row (r0 := z (7 + (yy % 8))) G dL_act_214 (goodIn_up _ gvX4_row) ⟨by decide, by decide⟩ (Nat.le_of_ble_eq_true rfl) ⟨Nat.zero_le _, Nat.zero_le _⟩ (by exact hI) (by omega) (by omega) (by exact fr0 (by omega)) (fun e_33 => ?_)
            have f214_ := br0 hI (r := (yy % 8)) (by omega)
            refine j_istore (lv' := [(5, .int (jI (z (7 + (yy % 8))))), (4, .int (jI cr)), (3, .int (jI yy)), (2, .int (jI how)), (0, .ref h), (1, .int (jI x))]) G dL_act_217 (by decide) rfl ?_
            refine j_aload_n G 4 dL_act_219 rfl ?_
            refine j_iconst G dL_act_220 (v := 5) rfl ?_
            refine jo_count (r0 := pAll (tZ z)) G dL_act_221 (goodIn_up _ gvX4_count) ⟨by decide, by decide⟩ (Nat.le_of_ble_eq_true rfl) ⟨Nat.zero_le _, Nat.zero_le _⟩ (by exact hI) (by omega) (by rfl) (fun e_34 => ?_)
            have f221_ := bn5 hI
            refine j_istore (lv' := [(6, .int (jI (pAll (tZ z)))), (5, .int (jI (z (7 + (yy % 8))))), (4, .int (jI cr)), (3, .int (jI yy)), (2, .int (jI how)), (0, .ref h), (1, .int (jI x))]) G dL_act_224 (by decide) rfl ?_
            refine j_aload_n G 5 dL_act_226 rfl ?_
            refine j_iload_n G 3 dL_act_227 rfl ?_
            refine j_bipush G dL_act_228 (v := 8) rfl ?_
            refine j_irem G dL_act_230 (by omega) (by omega) ?_
            refine jo_takeBack (r0 := F_back z (yy % 8)) G dL_act_231 (goodIn_up _ gvX4_takeBack) ⟨by decide, by decide⟩ (Nat.le_of_ble_eq_true rfl) ⟨Nat.zero_le _, Nat.zero_le _⟩ (by exact hI) (by exact hsz) (by omega) (by rfl) (fun e_35 => ?_)
            have g3 := F_back_b z (yy % 8)
            have hI2b : Inv (G_back z (yy % 8)) := hI.back (yy % 8)
            refine j_istore (lv' := [(7, .int (jI (F_back z (yy % 8)))), (6, .int (jI (pAll (tZ z)))), (5, .int (jI (z (7 + (yy % 8))))), (4, .int (jI cr)), (3, .int (jI yy)), (2, .int (jI how)), (0, .ref h), (1, .int (jI x))]) G dL_act_234 (by decide) rfl ?_
            refine j_iload G 2 dL_act_236 rfl ?_
            refine j_bipush G dL_act_238 (v := (-5)) rfl ?_
            refine j_icmp_ne (tgt := 260) G dL_act_240 (by decide) (by omega) (by omega) (fun c240 => ?_) (fun c240 => ?_)
            · have g5 := back_sp (z := z) (r := yy % 8) (by omega) (by omega)
              refine j_iload G 0 dL_act_260 rfl ?_
              refine j_iload G 1 dL_act_262 rfl ?_
              refine j_icmp_lt (tgt := 296) G dL_act_264 (by decide) (by omega) (by omega) (fun c264 => absurd c264 (by omega)) (fun c264 => ?_)
              refine j_aload_n G 6 dL_act_267 rfl ?_
              refine j_iconst G dL_act_268 (v := 5) rfl ?_
              refine jo_count (r0 := pAll (tZ (G_back z (yy % 8)))) G dL_act_269 (goodIn_up _ gvX4_count) ⟨by decide, by decide⟩ (Nat.le_of_ble_eq_true rfl) ⟨Nat.zero_le _, Nat.zero_le _⟩ (by exact hI2b) (by omega) (by rfl) (fun e_36 => ?_)
              have f269_ := bn5 hI2b
              refine j_iload G 0 dL_act_272 rfl ?_
              refine j_icmp_ne (tgt := 296) G dL_act_274 (by decide) (by omega) (by omega) (fun c274 => absurd c274 (by omega)) (fun c274 => ?_)
              refine j_aload_n G 6 dL_act_277 rfl ?_
              refine j_iload_n G 4 dL_act_278 rfl ?_
              refine j_bipush G dL_act_279 (v := 8) rfl ?_
              refine j_irem G dL_act_281 (by omega) (by omega) ?_
              refine j_iconst G dL_act_282 (v := 0) rfl ?_
              refine jo_row (r0 := (G_back z (yy % 8)) (7 + (yy % 8))) G dL_act_283 (goodIn_up _ gvX4_row) ⟨by decide, by decide⟩ (Nat.le_of_ble_eq_true rfl) ⟨Nat.zero_le _, Nat.zero_le _⟩ (by exact hI2b) (by omega) (by omega) (by exact fr0 (by omega)) (fun e_37 => ?_)
              have f283_ := br0 hI2b (r := (yy % 8)) (by omega)
              refine j_bipush G dL_act_286 (v := (-5)) rfl ?_
              refine j_icmp_ne (tgt := 296) G dL_act_288 (by decide) (by omega) (by omega) (fun c288 => absurd c288 (by omega)) (fun c288 => ?_)
              refine j_iload G 0 dL_act_291 rfl ?_
              refine j_goto (tgt := 298) G dL_act_293 (by decide) ?_
              exact j_reti (r := F_back z (yy % 8)) G dL_act_298 (by rfl) (jLe.rf _) (kr0 _ _ ⟨e_37, F_back z (yy % 8), G_back z (yy % 8), rfl, rfl, Act.back hI hBn (yy % 8)⟩)
            · have g5 := back_no (z := z) (r := yy % 8) (by omega) (by omega)
              refine j_iload G 0 dL_act_243 rfl ?_
              refine j_bipush G dL_act_245 (v := (-5)) rfl ?_
              refine j_icmp_ne (tgt := 255) G dL_act_247 (by decide) (by omega) (by omega) (fun c247 => absurd c247 (by omega)) (fun c247 => ?_)
              refine j_iload G 0 dL_act_250 rfl ?_
              refine j_goto (tgt := 298) G dL_act_252 (by decide) ?_
              exact j_reti (r := F_back z (yy % 8)) G dL_act_298 (by rfl) (jLe.rf _) (kr0 _ _ ⟨e_35, F_back z (yy % 8), G_back z (yy % 8), rfl, rfl, Act.back hI hBn (yy % 8)⟩)
        · refine j_aload_n G 3 dL_act_186 rfl ?_
          refine j_iload_n G 1 dL_act_187 rfl ?_
          refine j_bipush G dL_act_188 (v := 8) rfl ?_
          refine j_irem G dL_act_190 (by omega) (by omega) ?_
          refine j_iload_n G 1 dL_act_191 rfl ?_
          refine j_bipush G dL_act_192 (v := 8) rfl ?_
          refine j_idiv G dL_act_194 (by omega) (by omega) ?_
          refine j_bipush G dL_act_195 (v := 8) rfl ?_
          refine j_irem G dL_act_197 (by omega) (by omega) ?_
          refine jl_hint (n := n) G dL_act_198 (goodIn_up _ gsL_hint) ⟨by decide, by decide⟩ (Nat.le_of_ble_eq_true rfl) ⟨Nat.zero_le _, Nat.zero_le _⟩ hI hBn hn hsz (by omega) (by omega) (fun e_38 r_39 z_40 hA_ => ?_)
          exact j_reti (r := r_39) G dL_act_201 (by rfl) (jLe.rf _) (kr0 _ _ ⟨e_38, r_39, z_40, rfl, rfl, hA_⟩)
      · refine j_aload_n G 3 dL_act_173 rfl ?_
        refine j_iload G 0 dL_act_174 rfl ?_
        refine jl_fell (n := n) G dL_act_176 (goodIn_up _ gsL_fell) ⟨by decide, by decide⟩ (Nat.le_of_ble_eq_true rfl) ⟨Nat.zero_le _, Nat.zero_le _⟩ hI hBn hn hsz (by omega) (fun e_41 r_42 z_43 hA_ => ?_)
        exact j_reti (r := r_42) G dL_act_179 (by rfl) (jLe.rf _) (kr0 _ _ ⟨e_41, r_42, z_43, rfl, rfl, hA_⟩)
    · refine j_aload_n G 3 dL_act_116 rfl ?_
      refine j_iload G 0 dL_act_117 rfl ?_
      refine j_iload_n G 1 dL_act_119 rfl ?_
      refine j_iconst G dL_act_120 (v := 3) rfl ?_
      refine j_idiv G dL_act_121 (by omega) (by omega) ?_
      refine j_iconst G dL_act_122 (v := 3) rfl ?_
      refine j_irem G dL_act_123 (by omega) (by omega) ?_
      refine j_if_ne (tgt := 137) G dL_act_124 (by decide) (by omega) (fun c124 => ?_) (fun c124 => ?_)
      · refine j_aload_n G 3 dL_act_137 rfl ?_
        refine j_iload G 0 dL_act_138 rfl ?_
        refine j_iconst G dL_act_140 (v := 0) rfl ?_
        refine jo_crew (r0 := z (15 + 4 * cr)) G dL_act_141 (goodIn_up _ gvX4_crew) ⟨by decide, by decide⟩ (Nat.le_of_ble_eq_true rfl) ⟨Nat.zero_le _, Nat.zero_le _⟩ (by exact hI) (by omega) (by omega) (by exact fc0 (by omega)) (fun e_44 => ?_)
        have f141_ := bc0 hI (k := cr) (by omega)
        refine j_iload_n G 1 dL_act_144 rfl ?_
        refine j_bipush G dL_act_145 (v := 9) rfl ?_
        refine j_idiv G dL_act_147 (by omega) (by omega) ?_
        refine j_iconst G dL_act_148 (v := 2) rfl ?_
        refine j_irem G dL_act_149 (by omega) (by omega) ?_
        obtain ⟨tv_45, htv_45⟩ : ∃ v_ : Int, v_ = (if ((yy / 9) % 2) = 0 then 1 else 8) := ⟨_, rfl⟩
        suffices hj_46 : J x_ 0 0 (oW Y h ad aq e_44 z zs ik sz S) 159 [(4, .int (jI cr)), (3, .int (jI yy)), (2, .int (jI how)), (0, .ref h), (1, .int (jI x))] [.int (jI tv_45), .int (jI (z (15 + 4 * cr))), .int (jI cr), .ref h] by
          refine j_if_ne (tgt := 157) G dL_act_150 (by decide) (by omega) (fun c150 => ?_) (fun c150 => ?_)
          · refine j_bipush G dL_act_157 (v := 8) rfl ?_
            rw [if_neg (show ¬ (((yy / 9) % 2) = 0) by omega)] at htv_45
            subst htv_45
            exact hj_46
          · refine j_iconst G dL_act_153 (v := 1) rfl ?_
            refine j_goto (tgt := 159) G dL_act_154 (by decide) ?_
            rw [if_pos (show ((yy / 9) % 2) = 0 by omega)] at htv_45
            subst htv_45
            exact hj_46
        refine j_iadd G dL_act_159 ?_
        refine j_bipush G dL_act_160 (v := 64) rfl ?_
        refine j_irem G dL_act_162 (by omega) (by omega) ?_
        refine jl_go (n := n) G dL_act_163 (goodIn_up _ gsL_go) ⟨by decide, by decide⟩ (Nat.le_of_ble_eq_true rfl) ⟨Nat.zero_le _, Nat.zero_le _⟩ hI hBn hn hsz (by omega) (by omega) (fun e_47 r_48 z_49 hA_ => ?_)
        exact j_reti (r := r_48) G dL_act_166 (by rfl) (jLe.rf _) (kr0 _ _ ⟨e_47, r_48, z_49, rfl, rfl, hA_⟩)
      · refine j_iload_n G 1 dL_act_127 rfl ?_
        refine j_bipush G dL_act_128 (v := 9) rfl ?_
        refine j_idiv G dL_act_130 (by omega) (by omega) ?_
        refine j_bipush G dL_act_131 (v := 64) rfl ?_
        refine j_irem G dL_act_133 (by omega) (by omega) ?_
        refine j_goto (tgt := 163) G dL_act_134 (by decide) ?_
        refine jl_go (n := n) G dL_act_163 (goodIn_up _ gsL_go) ⟨by decide, by decide⟩ (Nat.le_of_ble_eq_true rfl) ⟨Nat.zero_le _, Nat.zero_le _⟩ hI hBn hn hsz (by omega) (by omega) (fun e_50 r_51 z_52 hA_ => ?_)
        exact j_reti (r := r_51) G dL_act_166 (by rfl) (jLe.rf _) (kr0 _ _ ⟨e_50, r_51, z_52, rfl, rfl, hA_⟩)
  · have lp40 : ∀ (pl : Int) (e40 : oE), (0 ≤ pl ∧ pl ≤ 63) → J x_ 0 0 (oW Y h ad aq e40 z zs ik sz S) 40 [(0, .ref h), (1, .int (jI x)), (2, .int (jI how)), (3, .int (jI yy)), (4, .int (jI cr))] [.int (jI pl)] := by
      intro pl e40 hpl
      refine j_istore (lv' := [(5, .int (jI pl)), (0, .ref h), (1, .int (jI x)), (2, .int (jI how)), (3, .int (jI yy)), (4, .int (jI cr))]) G dL_act_40 (by decide) rfl ?_
      refine j_aload_n G 1 dL_act_42 rfl ?_
      refine j_iload G 0 dL_act_43 rfl ?_
      refine j_iconst G dL_act_45 (v := 0) rfl ?_
      refine jo_plot (r0 := z (28 + pl)) G dL_act_46 (goodIn_up _ gvX4_plot) ⟨by decide, by decide⟩ (Nat.le_of_ble_eq_true rfl) ⟨Nat.zero_le _, Nat.zero_le _⟩ (by exact hI) (by omega) (by omega) (by exact fp0 (by omega)) (fun e_53 => ?_)
      have f46_ := bp0 hI (p := pl) (by omega)
      refine j_istore (lv' := [(6, .int (jI (z (28 + pl)))), (5, .int (jI pl)), (0, .ref h), (1, .int (jI x)), (2, .int (jI how)), (3, .int (jI yy)), (4, .int (jI cr))]) G dL_act_49 (by decide) rfl ?_
      refine j_iload_n G 5 dL_act_51 rfl ?_
      refine j_sipush G dL_act_52 (v := 200) rfl ?_
      refine j_idiv G dL_act_55 (by omega) (by omega) ?_
      refine j_bipush G dL_act_56 (v := 100) rfl ?_
      refine j_irem G dL_act_58 (by omega) (by omega) ?_
      obtain ⟨wr, e_wr, h_wr⟩ : ∃ y : Int, y = ((yy / 200) % 100) ∧ (0 ≤ y ∧ y ≤ 99) := ⟨_, rfl, by omega⟩
      rw [← e_wr]
      refine j_istore (lv' := [(7, .int (jI wr)), (6, .int (jI (z (28 + pl)))), (5, .int (jI pl)), (0, .ref h), (1, .int (jI x)), (2, .int (jI how)), (3, .int (jI yy)), (4, .int (jI cr))]) G dL_act_59 (by decide) rfl ?_
      refine j_aload_n G 3 dL_act_61 rfl ?_
      refine j_iload G 2 dL_act_62 rfl ?_
      refine j_iload G 0 dL_act_64 rfl ?_
      refine jo_grow (r0 := F_grow z pl wr) G dL_act_66 (goodIn_up _ gvX4_grow) ⟨by decide, by decide⟩ (Nat.le_of_ble_eq_true rfl) ⟨Nat.zero_le _, Nat.zero_le _⟩ (by exact hI) (by exact hsz) (by omega) (by omega) (by rfl) (fun e_54 => ?_)
      have g1 := grow_is (z := z) (p := pl) (w := wr) (by omega) (by omega)
      have g3 := F_grow_b hI pl wr
      have hI2g : Inv (G_grow z pl wr) := hI.grow pl wr
      refine j_istore (lv' := [(8, .int (jI (F_grow z pl wr))), (7, .int (jI wr)), (6, .int (jI (z (28 + pl)))), (5, .int (jI pl)), (0, .ref h), (1, .int (jI x)), (2, .int (jI how)), (3, .int (jI yy)), (4, .int (jI cr))]) G dL_act_69 (by decide) rfl ?_
      refine j_iload G 0 dL_act_71 rfl ?_
      refine j_iload G 2 dL_act_73 rfl ?_
      refine j_iload G 1 dL_act_75 rfl ?_
      obtain ⟨tv_55, htv_55⟩ : ∃ v_ : Int, v_ = (if (z (28 + pl)) = wr then (-5) else z (28 + pl)) := ⟨_, rfl⟩
      suffices hj_56 : J x_ 0 0 (oW Y h ad aq e_54 (G_grow z pl wr) zs ik (hSz (F_grow z pl wr) sz) (hSt (F_grow z pl wr) sz S z)) 87 [(8, .int (jI (F_grow z pl wr))), (7, .int (jI wr)), (6, .int (jI (z (28 + pl)))), (5, .int (jI pl)), (0, .ref h), (1, .int (jI x)), (2, .int (jI how)), (3, .int (jI yy)), (4, .int (jI cr))] [.int (jI tv_55), .int (jI (F_grow z pl wr))] by
        refine j_icmp_ne (tgt := 85) G dL_act_77 (by decide) (by omega) (by omega) (fun c77 => ?_) (fun c77 => ?_)
        · refine j_iload G 2 dL_act_85 rfl ?_
          rw [if_neg (show ¬ ((z (28 + pl)) = wr) by omega)] at htv_55
          subst htv_55
          exact hj_56
        · refine j_bipush G dL_act_80 (v := (-5)) rfl ?_
          refine j_goto (tgt := 87) G dL_act_82 (by decide) ?_
          rw [if_pos (show (z (28 + pl)) = wr by omega)] at htv_55
          subst htv_55
          exact hj_56
      refine j_icmp_ne (tgt := 107) G dL_act_87 (by decide) (by omega) (by omega) (fun c87 => absurd c87 (by omega)) (fun c87 => ?_)
      refine j_aload_n G 4 dL_act_90 rfl ?_
      refine j_iload G 3 dL_act_91 rfl ?_
      refine j_iconst G dL_act_93 (v := 0) rfl ?_
      refine jo_plot (r0 := (G_grow z pl wr) (28 + pl)) G dL_act_94 (goodIn_up _ gvX4_plot) ⟨by decide, by decide⟩ (Nat.le_of_ble_eq_true rfl) ⟨Nat.zero_le _, Nat.zero_le _⟩ (by exact hI2g) (by omega) (by omega) (by exact fp0 (by omega)) (fun e_57 => ?_)
      have f94_ := bp0 hI2g (p := pl) (by omega)
      refine j_iload G 1 dL_act_97 rfl ?_
      refine j_icmp_ne (tgt := 107) G dL_act_99 (by decide) (by omega) (by omega) (fun c99 => absurd c99 (by omega)) (fun c99 => ?_)
      refine j_iload G 0 dL_act_102 rfl ?_
      refine j_goto (tgt := 109) G dL_act_104 (by decide) ?_
      exact j_reti (r := F_grow z pl wr) G dL_act_109 (by rfl) (jLe.rf _) (kr0 _ _ ⟨e_57, F_grow z pl wr, G_grow z pl wr, rfl, rfl, Act.grow hI hBn pl wr⟩)
    refine j_iload_n G 2 dL_act_20 rfl ?_
    refine j_if_ne (tgt := 33) G dL_act_21 (by decide) (by omega) (fun c21 => ?_) (fun c21 => ?_)
    · refine j_aload_n G 3 dL_act_33 rfl ?_
      refine j_iload G 0 dL_act_34 rfl ?_
      refine j_iconst G dL_act_36 (v := 0) rfl ?_
      refine jo_crew (r0 := z (15 + 4 * cr)) G dL_act_37 (goodIn_up _ gvX4_crew) ⟨by decide, by decide⟩ (Nat.le_of_ble_eq_true rfl) ⟨Nat.zero_le _, Nat.zero_le _⟩ (by exact hI) (by omega) (by omega) (by exact fc0 (by omega)) (fun e_58 => ?_)
      have f37_ := bc0 hI (k := cr) (by omega)
      refine j_lv [3, 4, 2, 1, 0] (lv' := [(0, .ref h), (1, .int (jI x)), (2, .int (jI how)), (3, .int (jI yy)), (4, .int (jI cr))]) rfl ?_
      exact lp40 (z (15 + 4 * cr)) e_58 (by omega)
    · refine j_iload_n G 1 dL_act_24 rfl ?_
      refine j_iconst G dL_act_25 (v := 3) rfl ?_
      refine j_idiv G dL_act_26 (by omega) (by omega) ?_
      refine j_bipush G dL_act_27 (v := 64) rfl ?_
      refine j_irem G dL_act_29 (by omega) (by omega) ?_
      refine j_goto (tgt := 40) G dL_act_30 (by decide) ?_
      refine j_lv [3, 4, 2, 1, 0] (lv' := [(0, .ref h), (1, .int (jI x)), (2, .int (jI how)), (3, .int (jI yy)), (4, .int (jI cr))]) rfl ?_
      exact lp40 ((yy / 3) % 64) e (by omega)
theorem jl_act {xc : Cx} {l : Launch} {D : va_G} {Y : Nat → ClassId} {cc : ByteArray} {own : String} {Ts : List Cond} {nL : Nat} {R0 : Room} {ret : Option FieldType} {nm : String} {kc nc pc index h : Nat} {lv : List (Nat × Value)} {st : List Value} {ad : Nat → Nat} {aq : Nat → Nat → Nat} {e : oE} {z zs : Int → Int} {ik sz : Int} {S : Nat → Int → Int} (G : jG xc l D Y cc own Ts nL R0 ret nm) {n : Int} {x : Int} (hdg : decode cc pc = .ok (.invokestatic index, 3)) (hT : GoodIn Ts (va_wsS own index yL_act wsU_act)) (hR : 8 ≤ R0.frames ∧ 193 ≤ R0.locals) (hW : (st.map fun v => v.category).sum ≤ 8) (hf : kc ≤ R0.cells ∧ nc ≤ R0.slots) (hI : Inv z) (hBn : Bd n z) (hn : 0 ≤ n ∧ n ≤ 47) (hsz : 0 ≤ sz ∧ sz ≤ 4) (hx : 0 ≤ x ∧ x ≤ 2147483647) (kk : ∀ (e2 : oE) (r : Int) (z2 : Int → Int), Act n z r z2 → J xc kc nc (oW Y h ad aq e2 z2 zs ik (hSz r sz) (hSt r sz S z)) (pc + 3) lv (.int (jI r) :: st)) : J xc kc nc (oW Y h ad aq e z zs ik sz S) pc lv (.int (jI x) :: .ref h :: st) := by
  refine j_callS (nA := 2) (As := [.ref h, .int (jI x)]) (st := st) (wc := oW Y h ad aq e z zs ik sz S) (wr := []) G (c_L_act l D Y h ad aq e z zs ik sz S n x hI hBn hn hsz hx) hdg rfl hT rfl rfl rfl (by decide +kernel) hR rfl (jLe.nil (jLe.rf _)) hW hf (fun v_ w_ hp_ => ?_)
  obtain ⟨e2, r, z2, rfl, rfl, hA⟩ := hp_
  rw [List.append_nil]
  exact kk e2 r z2 hA
