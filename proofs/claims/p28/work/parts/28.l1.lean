set_option maxHeartbeats 40000000 in
set_option maxRecDepth 100000 in
theorem c_L_seen (l : Launch) (D : va_G) (Y : Nat → ClassId) (h : Nat) (ad : Nat → Nat) (aq : Nat → Nat → Nat) (e : oE) (z zs : Int → Int) (ik sz : Int) (S : Nat → Int → Int)  (hI : Inv z) (hB : Bd 48 z) (hsz : 0 ≤ sz ∧ sz ≤ 4) : jM l yL_seen wsU_seen { frames := 6, cells := 0, slots := 0, locals := 136 } D Y [.ref h] (oW Y h ad aq e z zs ik sz S) (fun v_ w_ => ∃ e2 : oE, v_ = some (.long (jL (seenZ z))) ∧ w_ = oW Y h ad aq e2 z zs ik sz S) 0 0 := by
  refine jM_ofL (cc := cL_seen) (maxL := 4) (by decide) rfl (Nat.le_of_ble_eq_true rfl) ?_
  intro x_ G kr0
  have G : jG x_ l D Y cL_seen RL wsU_seen 4 ({ frames := 6, cells := 0, slots := 0, locals := 136 } : Room) (some .long) "seen" := G
  show J x_ 0 0 (oW Y h ad aq e z zs ik sz S) 0 [(0, .ref h)] []
  refine j_ldc2 (v := 139) G dL_seen_0 (List.mem_cons_of_mem _ (List.mem_of_getElem? (i := 190) rfl)) rfl ?_
  refine j_lstore_n (lv' := [(1, .long (jL 139)), (0, .ref h)]) G dL_seen_3 (by decide) rfl ?_
  refine j_iconst G dL_seen_4 (v := 0) rfl ?_
  refine j_istore_n (lv' := [(3, .int (jI 0)), (1, .long (jL 139)), (0, .ref h)]) G dL_seen_5 (by decide) rfl ?_
  have lp6 : ∀ (n_ : Nat) (i : Int) (a : Int) (e1 : oE), (0 ≤ i ∧ i ≤ 15) → (a = sn1 z i.toNat) → (15 - i) < (n_ : Int) → J x_ 0 0 (oW Y h ad aq e1 z zs ik sz S) 6 [(0, .ref h), (1, .long (jL a)), (3, .int (jI i))] [] := by
    intro n_
    induction n_ with
    | zero =>
      intro i a e1 hi ha hm_
      exact absurd hm_ (by omega)
    | succ n_ ih6 =>
      intro i a e1 hi ha hm_
      refine j_iload_n G 2 dL_seen_6 rfl ?_
      refine j_bipush G dL_seen_7 (v := 15) rfl ?_
      refine j_icmp_ge (tgt := 31) G dL_seen_9 (by decide) (by omega) (by omega) (fun c9 => ?_) (fun c9 => ?_)
      · refine j_iconst G dL_seen_31 (v := 0) rfl ?_
        refine j_istore_n (lv' := [(3, .int (jI 0)), (0, .ref h), (1, .long (jL a))]) G dL_seen_32 (by decide) rfl ?_
        have lp33 : ∀ (n_ : Nat) (i2 : Int) (a2 : Int) (e2 : oE), (0 ≤ i2 ∧ i2 ≤ 12) → (a2 = sn2 z i2.toNat) → (12 - i2) < (n_ : Int) → J x_ 0 0 (oW Y h ad aq e2 z zs ik sz S) 33 [(0, .ref h), (1, .long (jL a2)), (3, .int (jI i2))] [] := by
          intro n_
          induction n_ with
          | zero =>
            intro i2 a2 e2 hi2 ha2 hm_
            exact absurd hm_ (by omega)
          | succ n_ ih33 =>
            intro i2 a2 e2 hi2 ha2 hm_
            refine j_iload_n G 2 dL_seen_33 rfl ?_
            refine j_bipush G dL_seen_34 (v := 12) rfl ?_
            refine j_icmp_ge (tgt := 78) G dL_seen_36 (by decide) (by omega) (by omega) (fun c36 => ?_) (fun c36 => ?_)
            · refine j_iconst G dL_seen_78 (v := 0) rfl ?_
              refine j_istore_n (lv' := [(3, .int (jI 0)), (0, .ref h), (1, .long (jL a2))]) G dL_seen_79 (by decide) rfl ?_
              have lp80 : ∀ (n_ : Nat) (i3 : Int) (a3 : Int) (e3 : oE), (0 ≤ i3 ∧ i3 ≤ 64) → (a3 = sn3 z i3.toNat) → (64 - i3) < (n_ : Int) → J x_ 0 0 (oW Y h ad aq e3 z zs ik sz S) 80 [(0, .ref h), (1, .long (jL a3)), (3, .int (jI i3))] [] := by
                intro n_
                induction n_ with
                | zero =>
                  intro i3 a3 e3 hi3 ha3 hm_
                  exact absurd hm_ (by omega)
                | succ n_ ih80 =>
                  intro i3 a3 e3 hi3 ha3 hm_
                  refine j_iload_n G 2 dL_seen_80 rfl ?_
                  refine j_bipush G dL_seen_81 (v := 64) rfl ?_
                  refine j_icmp_ge (tgt := 131) G dL_seen_83 (by decide) (by omega) (by omega) (fun c83 => ?_) (fun c83 => ?_)
                  · refine j_lload_n G 1 dL_seen_131 rfl ?_
                    exact j_retl (r := seenZ z) G dL_seen_132 (by rw [ha3, show i3 = 64 by omega]; rfl) (kr0 _ _ ⟨e3, rfl, rfl⟩)
                  · refine j_ldc2 (v := 31) G dL_seen_86 (List.mem_cons_of_mem _ (List.mem_of_getElem? (i := 191) rfl)) rfl ?_
                    refine j_ldc2 (v := 31) G dL_seen_89 (List.mem_cons_of_mem _ (List.mem_of_getElem? (i := 191) rfl)) rfl ?_
                    refine j_ldc2 (v := 31) G dL_seen_92 (List.mem_cons_of_mem _ (List.mem_of_getElem? (i := 191) rfl)) rfl ?_
                    refine j_lload_n G 1 dL_seen_95 rfl ?_
                    refine j_lmul G dL_seen_96 ?_
                    refine j_aload_n G 0 dL_seen_97 rfl ?_
                    refine j_iload_n G 2 dL_seen_98 rfl ?_
                    refine j_iconst G dL_seen_99 (v := 0) rfl ?_
                    refine jo_plot (r0 := z (28 + i3)) G dL_seen_100 (goodIn_up _ gvX4_plot) ⟨by decide, by decide⟩ (Nat.le_of_ble_eq_true rfl) ⟨Nat.zero_le _, Nat.zero_le _⟩ (by exact hI) (by omega) (by omega) (by exact fp0 (by omega)) (fun e_1 => ?_)
                    have f100_ := bp0 hI (p := i3) (by omega)
                    refine j_i2l G dL_seen_103 (by omega) ?_
                    refine j_ladd G dL_seen_104 ?_
                    refine j_lmul G dL_seen_105 ?_
                    refine j_aload_n G 0 dL_seen_106 rfl ?_
                    refine j_iload_n G 2 dL_seen_107 rfl ?_
                    refine j_iconst G dL_seen_108 (v := 1) rfl ?_
                    refine jo_plot (r0 := z 92) G dL_seen_109 (goodIn_up _ gvX4_plot) ⟨by decide, by decide⟩ (Nat.le_of_ble_eq_true rfl) ⟨Nat.zero_le _, Nat.zero_le _⟩ (by exact hI) (by omega) (by omega) (by exact fp1 (by omega)) (fun e_2 => ?_)
                    have f109_ := bp1 hI (p := i3) (by omega)
                    refine j_i2l G dL_seen_112 (by omega) ?_
                    refine j_ladd G dL_seen_113 ?_
                    refine j_lmul G dL_seen_114 ?_
                    refine j_aload_n G 0 dL_seen_115 rfl ?_
                    refine j_iload_n G 2 dL_seen_116 rfl ?_
                    refine j_bipush G dL_seen_117 (v := 6) rfl ?_
                    refine jo_plot (r0 := z (156 + i3)) G dL_seen_119 (goodIn_up _ gvX4_plot) ⟨by decide, by decide⟩ (Nat.le_of_ble_eq_true rfl) ⟨Nat.zero_le _, Nat.zero_le _⟩ (by exact hI) (by omega) (by omega) (by exact fp6 (by omega)) (fun e_3 => ?_)
                    have f119_ := bp6 hI (p := i3) (by omega)
                    refine j_i2l G dL_seen_122 (by omega) ?_
                    refine j_ladd G dL_seen_123 ?_
                    refine j_lstore_n (lv' := [(1, .long (jL ((31 * ((31 * ((31 * a3) + (z (28 + i3)))) + (z 92))) + (z (156 + i3))))), (0, .ref h), (3, .int (jI i3))]) G dL_seen_124 (by decide) rfl ?_
                    refine j_iinc (w := i3 + 1) (lv' := [(3, .int (jI (i3 + 1))), (1, .long (jL ((31 * ((31 * ((31 * a3) + (z (28 + i3)))) + (z 92))) + (z (156 + i3))))), (0, .ref h)]) G 2 dL_seen_125 rfl rfl (by decide) rfl ?_
                    refine j_goto (tgt := 80) G dL_seen_128 (by decide) ?_
                    refine j_lv [2, 1, 0] (lv' := [(0, .ref h), (1, .long (jL ((31 * ((31 * ((31 * a3) + (z (28 + i3)))) + (z 92))) + (z (156 + i3))))), (3, .int (jI (i3 + 1)))]) rfl ?_
                    exact ih80 (i3 + 1) ((31 * ((31 * ((31 * a3) + (z (28 + i3)))) + (z 92))) + (z (156 + i3))) e_3 (by omega) (by rw [sn3_S hi3.1, ← ha3]) (by omega)
              refine j_lv [1, 2, 0] (lv' := [(0, .ref h), (1, .long (jL a2)), (3, .int (jI 0))]) rfl ?_
              exact lp80 (Int.toNat ((64 - 0) + 1)) 0 a2 e2 (by omega) (by rw [ha2, show i2 = 12 by omega]; rfl) (by omega)
            · refine j_ldc2 (v := 31) G dL_seen_39 (List.mem_cons_of_mem _ (List.mem_of_getElem? (i := 191) rfl)) rfl ?_
              refine j_ldc2 (v := 31) G dL_seen_42 (List.mem_cons_of_mem _ (List.mem_of_getElem? (i := 191) rfl)) rfl ?_
              refine j_lload_n G 1 dL_seen_45 rfl ?_
              refine j_lmul G dL_seen_46 ?_
              refine j_aload_n G 0 dL_seen_47 rfl ?_
              refine j_iload_n G 2 dL_seen_48 rfl ?_
              refine j_iconst G dL_seen_49 (v := 4) rfl ?_
              refine j_idiv G dL_seen_50 (by omega) (by omega) ?_
              refine j_iload_n G 2 dL_seen_51 rfl ?_
              refine j_iconst G dL_seen_52 (v := 4) rfl ?_
              refine j_irem G dL_seen_53 (by omega) (by omega) ?_
              refine jo_crew (r0 := F_crew z (i2 / 4) (i2 % 4)) G dL_seen_54 (goodIn_up _ gvX4_crew) ⟨by decide, by decide⟩ (Nat.le_of_ble_eq_true rfl) ⟨Nat.zero_le _, Nat.zero_le _⟩ (by exact hI) (by omega) (by omega) (by rfl) (fun e_4 => ?_)
              have f54 := F_crew_r hI hB (k := i2 / 4) (w := i2 % 4) (by omega) (by omega)
              refine j_i2l G dL_seen_57 (by omega) ?_
              refine j_ladd G dL_seen_58 ?_
              refine j_lmul G dL_seen_59 ?_
              refine j_aload_n G 0 dL_seen_60 rfl ?_
              refine j_iload_n G 2 dL_seen_61 rfl ?_
              refine j_bipush G dL_seen_62 (v := 8) rfl ?_
              refine j_irem G dL_seen_64 (by omega) (by omega) ?_
              refine j_iconst G dL_seen_65 (v := 0) rfl ?_
              refine jo_row (r0 := z (7 + (i2 % 8))) G dL_seen_66 (goodIn_up _ gvX4_row) ⟨by decide, by decide⟩ (Nat.le_of_ble_eq_true rfl) ⟨Nat.zero_le _, Nat.zero_le _⟩ (by exact hI) (by omega) (by omega) (by exact fr0 (by omega)) (fun e_5 => ?_)
              have f66_ := br0 hI (r := (i2 % 8)) (by omega)
              refine j_i2l G dL_seen_69 (by omega) ?_
              refine j_ladd G dL_seen_70 ?_
              refine j_lstore_n (lv' := [(1, .long (jL ((31 * ((31 * a2) + (F_crew z (i2 / 4) (i2 % 4)))) + (z (7 + (i2 % 8)))))), (0, .ref h), (3, .int (jI i2))]) G dL_seen_71 (by decide) rfl ?_
              refine j_iinc (w := i2 + 1) (lv' := [(3, .int (jI (i2 + 1))), (1, .long (jL ((31 * ((31 * a2) + (F_crew z (i2 / 4) (i2 % 4)))) + (z (7 + (i2 % 8)))))), (0, .ref h)]) G 2 dL_seen_72 rfl rfl (by decide) rfl ?_
              refine j_goto (tgt := 33) G dL_seen_75 (by decide) ?_
              refine j_lv [2, 1, 0] (lv' := [(0, .ref h), (1, .long (jL ((31 * ((31 * a2) + (F_crew z (i2 / 4) (i2 % 4)))) + (z (7 + (i2 % 8)))))), (3, .int (jI (i2 + 1)))]) rfl ?_
              exact ih33 (i2 + 1) ((31 * ((31 * a2) + (F_crew z (i2 / 4) (i2 % 4)))) + (z (7 + (i2 % 8)))) e_5 (by omega) (by rw [sn2_S hi2.1, ← ha2]) (by omega)
        refine j_lv [1, 2, 0] (lv' := [(0, .ref h), (1, .long (jL a)), (3, .int (jI 0))]) rfl ?_
        exact lp33 (Int.toNat ((12 - 0) + 1)) 0 a e1 (by omega) (by rw [ha, show i = 15 by omega]; rfl) (by omega)
      · refine j_ldc2 (v := 31) G dL_seen_12 (List.mem_cons_of_mem _ (List.mem_of_getElem? (i := 191) rfl)) rfl ?_
        refine j_lload_n G 1 dL_seen_15 rfl ?_
        refine j_lmul G dL_seen_16 ?_
        refine j_aload_n G 0 dL_seen_17 rfl ?_
        refine j_iload_n G 2 dL_seen_18 rfl ?_
        refine jo_count (r0 := F_count z 0 0 i) G dL_seen_19 (goodIn_up _ gvX4_count) ⟨by decide, by decide⟩ (Nat.le_of_ble_eq_true rfl) ⟨Nat.zero_le _, Nat.zero_le _⟩ (by exact hI) (by omega) (by exact F_count_x (by omega)) (fun e_6 => ?_)
        have f19 := F_count_r hI hB (w := i) (by omega)
        refine j_i2l G dL_seen_22 (by omega) ?_
        refine j_ladd G dL_seen_23 ?_
        refine j_lstore_n (lv' := [(1, .long (jL ((31 * a) + (F_count z 0 0 i)))), (0, .ref h), (3, .int (jI i))]) G dL_seen_24 (by decide) rfl ?_
        refine j_iinc (w := i + 1) (lv' := [(3, .int (jI (i + 1))), (1, .long (jL ((31 * a) + (F_count z 0 0 i)))), (0, .ref h)]) G 2 dL_seen_25 rfl rfl (by decide) rfl ?_
        refine j_goto (tgt := 6) G dL_seen_28 (by decide) ?_
        refine j_lv [2, 1, 0] (lv' := [(0, .ref h), (1, .long (jL ((31 * a) + (F_count z 0 0 i)))), (3, .int (jI (i + 1)))]) rfl ?_
        exact ih6 (i + 1) ((31 * a) + (F_count z 0 0 i)) e_6 (by omega) (by rw [sn1_S hi.1, ← ha]) (by omega)
  refine j_lv [2, 1, 0] (lv' := [(0, .ref h), (1, .long (jL 139)), (3, .int (jI 0))]) rfl ?_
  exact lp6 (Int.toNat ((15 - 0) + 1)) 0 139 e (by omega) (by rfl) (by omega)
theorem jl_seen {xc : Cx} {l : Launch} {D : va_G} {Y : Nat → ClassId} {cc : ByteArray} {own : String} {Ts : List Cond} {nL : Nat} {R0 : Room} {ret : Option FieldType} {nm : String} {kc nc pc index h : Nat} {lv : List (Nat × Value)} {st : List Value} {ad : Nat → Nat} {aq : Nat → Nat → Nat} {e : oE} {z zs : Int → Int} {ik sz : Int} {S : Nat → Int → Int} (G : jG xc l D Y cc own Ts nL R0 ret nm)  (hdg : decode cc pc = .ok (.invokestatic index, 3)) (hT : GoodIn Ts (va_wsS own index yL_seen wsU_seen)) (hR : 7 ≤ R0.frames ∧ 159 ≤ R0.locals) (hW : (st.map fun v => v.category).sum ≤ 8) (hf : kc ≤ R0.cells ∧ nc ≤ R0.slots) (hI : Inv z) (hB : Bd 48 z) (hsz : 0 ≤ sz ∧ sz ≤ 4) (kk : ∀ e2 : oE, J xc kc nc (oW Y h ad aq e2 z zs ik sz S) (pc + 3) lv (.long (jL (seenZ z)) :: st)) : J xc kc nc (oW Y h ad aq e z zs ik sz S) pc lv (.ref h :: st) := by
  refine j_callS (nA := 1) (As := [.ref h]) (st := st) (wc := oW Y h ad aq e z zs ik sz S) (wr := []) G (c_L_seen l D Y h ad aq e z zs ik sz S  hI hB hsz) hdg rfl hT rfl rfl rfl (by decide +kernel) hR rfl (jLe.nil (jLe.rf _)) hW hf (fun v_ w_ hp_ => ?_)
  obtain ⟨e2, rfl, rfl⟩ := hp_
  rw [List.append_nil]
  exact kk e2

set_option maxHeartbeats 40000000 in
set_option maxRecDepth 100000 in
theorem c_L_arePlots (l : Launch) (D : va_G) (Y : Nat → ClassId) (h : Nat) (ad : Nat → Nat) (aq : Nat → Nat → Nat) (e : oE) (z zs : Int → Int) (ik sz : Int) (S : Nat → Int → Int)  (hI : Inv z) (hB : Bd 48 z) (hsz : 0 ≤ sz ∧ sz ≤ 4) : jM l yL_arePlots wsU_arePlots { frames := 6, cells := 0, slots := 0, locals := 136 } D Y [.ref h] (oW Y h ad aq e z zs ik sz S) (fun v_ w_ => ∃ e2 : oE, v_ = some (.int (jI 1)) ∧ w_ = oW Y h ad aq e2 z zs ik sz S) 0 0 := by
  refine jM_of (cc := cL_arePlots) (maxL := 12) (ret := some .boolean) (by decide) rfl (Nat.le_of_ble_eq_true rfl) (fun v w' h => by obtain ⟨_, h, _⟩ := h; exact Or.inr (Or.inl ⟨_, _, rfl, h, jI_z (Or.inr rfl)⟩)) ?_
  intro x_ G kr0
  have G : jG x_ l D Y cL_arePlots RL wsU_arePlots 12 ({ frames := 6, cells := 0, slots := 0, locals := 136 } : Room) (some .boolean) "arePlots" := G
  show J x_ 0 0 (oW Y h ad aq e z zs ik sz S) 0 [(0, .ref h)] []
  refine j_aload_n G 0 dL_arePlots_0 rfl ?_
  refine j_iconst G dL_arePlots_1 (v := 5) rfl ?_
  refine jo_count (r0 := pAll (tZ z)) G dL_arePlots_2 (goodIn_up _ gvX4_count) ⟨by decide, by decide⟩ (Nat.le_of_ble_eq_true rfl) ⟨Nat.zero_le _, Nat.zero_le _⟩ (by exact hI) (by omega) (by rfl) (fun e_1 => ?_)
  have f2_ := bn5 hI
  refine j_istore_n (lv' := [(1, .int (jI (pAll (tZ z)))), (0, .ref h)]) G dL_arePlots_5 (by decide) rfl ?_
  refine j_iconst G dL_arePlots_6 (v := 0) rfl ?_
  refine j_istore_n (lv' := [(2, .int (jI 0)), (1, .int (jI (pAll (tZ z)))), (0, .ref h)]) G dL_arePlots_7 (by decide) rfl ?_
  refine j_iconst G dL_arePlots_8 (v := 0) rfl ?_
  refine j_istore_n (lv' := [(3, .int (jI 0)), (2, .int (jI 0)), (1, .int (jI (pAll (tZ z)))), (0, .ref h)]) G dL_arePlots_9 (by decide) rfl ?_
  refine j_iconst G dL_arePlots_10 (v := 0) rfl ?_
  refine j_istore (lv' := [(4, .int (jI 0)), (3, .int (jI 0)), (2, .int (jI 0)), (1, .int (jI (pAll (tZ z)))), (0, .ref h)]) G dL_arePlots_11 (by decide) rfl ?_
  refine j_iconst G dL_arePlots_13 (v := 0) rfl ?_
  refine j_istore (lv' := [(5, .int (jI 0)), (4, .int (jI 0)), (3, .int (jI 0)), (2, .int (jI 0)), (1, .int (jI (pAll (tZ z)))), (0, .ref h)]) G dL_arePlots_14 (by decide) rfl ?_
  refine j_iconst G dL_arePlots_16 (v := 0) rfl ?_
  refine j_istore (lv' := [(6, .int (jI 0)), (5, .int (jI 0)), (4, .int (jI 0)), (3, .int (jI 0)), (2, .int (jI 0)), (1, .int (jI (pAll (tZ z)))), (0, .ref h)]) G dL_arePlots_17 (by decide) rfl ?_
  refine j_iconst G dL_arePlots_19 (v := 0) rfl ?_
  refine j_istore (lv' := [(7, .int (jI 0)), (6, .int (jI 0)), (5, .int (jI 0)), (4, .int (jI 0)), (3, .int (jI 0)), (2, .int (jI 0)), (1, .int (jI (pAll (tZ z)))), (0, .ref h)]) G dL_arePlots_20 (by decide) rfl ?_
  refine j_iload_n G 6 dL_arePlots_22 rfl ?_
  refine j_if_le (tgt := 30) G dL_arePlots_23 (by decide) (by omega) (fun c23 => absurd c23 (by omega)) (fun c23 => ?_)
  refine j_iconst G dL_arePlots_26 (v := 1) rfl ?_
  refine j_goto (tgt := 31) G dL_arePlots_27 (by decide) ?_
  refine j_istore (lv' := [(8, .int (jI 1)), (7, .int (jI 0)), (6, .int (jI 0)), (5, .int (jI 0)), (4, .int (jI 0)), (3, .int (jI 0)), (2, .int (jI 0)), (1, .int (jI (pAll (tZ z)))), (0, .ref h)]) G dL_arePlots_31 (by decide) rfl ?_
  refine j_iconst G dL_arePlots_33 (v := 0) rfl ?_
  refine j_istore (lv' := [(9, .int (jI 0)), (8, .int (jI 1)), (7, .int (jI 0)), (6, .int (jI 0)), (5, .int (jI 0)), (4, .int (jI 0)), (3, .int (jI 0)), (2, .int (jI 0)), (1, .int (jI (pAll (tZ z)))), (0, .ref h)]) G dL_arePlots_34 (by decide) rfl ?_
  have lp36 : ∀ (n_ : Nat) (i : Int) (wo : Int) (en : Int) (dm : Int) (los : Int) (fe : Int) (ir : Int) (e1 : oE), (0 ≤ i ∧ i ≤ 64) → (wo = sumI i.toNat (fun p => z (28 + p))) → (en = sumI i.toNat (fun p => if 0 < zHi z (tZ z) p then 1 else 0)) → (dm = sumI i.toNat (fun p => if zHi z (tZ z) p = pAll (tZ z) then 1 else 0)) → (los = sumI i.toNat (fun p => zLo z (tZ z) p)) → (fe = sumI i.toNat (fun p => z (156 + p))) → (i % 8 = 0 ∨ ir = sumI (i % 8).toNat (fun c => zHi z (tZ z) (i / 8 * 8 + c))) → (64 - i) < (n_ : Int) → J x_ 0 0 (oW Y h ad aq e1 z zs ik sz S) 36 [(0, .ref h), (1, .int (jI (pAll (tZ z)))), (2, .int (jI wo)), (3, .int (jI en)), (4, .int (jI dm)), (5, .int (jI los)), (6, .int (jI fe)), (7, .int (jI ir)), (8, .int (jI 1)), (9, .int (jI i))] [] := by
    intro n_
    induction n_ with
    | zero =>
      intro i wo en dm los fe ir e1 hi h2 h3 h4 h5 h6 h7 hm_
      exact absurd hm_ (by omega)
    | succ n_ ih36 =>
      intro i wo en dm los fe ir e1 hi h2 h3 h4 h5 h6 h7 hm_
      refine j_iload G 9 dL_arePlots_36 rfl ?_
      refine j_bipush G dL_arePlots_38 (v := 64) rfl ?_
      refine j_icmp_ge (tgt := 292) G dL_arePlots_40 (by decide) (by omega) (by omega) (fun c40 => ?_) (fun c40 => ?_)
      · refine j_iload G 8 dL_arePlots_292 rfl ?_
        refine j_if_eq (tgt := 350) G dL_arePlots_294 (by decide) (by omega) (fun c294 => absurd c294 (by omega)) (fun c294 => ?_)
        have q2 : wo = sumI 64 (fun p => z (28 + p)) := by rw [h2, show i = 64 by omega]; rfl
        have q3 : en = sumI 64 (fun p => if 0 < zHi z (tZ z) p then 1 else 0) := by rw [h3, show i = 64 by omega]; rfl
        have q4 : dm = sumI 64 (fun p => if zHi z (tZ z) p = pAll (tZ z) then 1 else 0) := by rw [h4, show i = 64 by omega]; rfl
        have q5 : los = sumI 64 (fun p => zLo z (tZ z) p) := by rw [h5, show i = 64 by omega]; rfl
        have q6 : fe = sumI 64 (fun p => if ¬ z (156 + p) = 0 then 1 else 0) := by rw [h6, show i = 64 by omega]; exact felled_sum hI
        refine j_iload_n G 2 dL_arePlots_297 rfl ?_
        refine j_aload_n G 0 dL_arePlots_298 rfl ?_
        refine j_iconst G dL_arePlots_299 (v := 1) rfl ?_
        refine jo_count (r0 := sumI 64 (fun p => z (28 + p))) G dL_arePlots_300 (goodIn_up _ gvX4_count) ⟨by decide, by decide⟩ (Nat.le_of_ble_eq_true rfl) ⟨Nat.zero_le _, Nat.zero_le _⟩ (by exact hI) (by omega) (by rfl) (fun e_2 => ?_)
        have f300_ := bn1 hI
        refine j_icmp_ne (tgt := 350) G dL_arePlots_303 (by decide) (by omega) (by omega) (fun c303 => absurd c303 (by omega)) (fun c303 => ?_)
        refine j_iload_n G 3 dL_arePlots_306 rfl ?_
        refine j_aload_n G 0 dL_arePlots_307 rfl ?_
        refine j_iconst G dL_arePlots_308 (v := 2) rfl ?_
        refine jo_count (r0 := sumI 64 (fun p => if 0 < zHi z (tZ z) p then 1 else 0)) G dL_arePlots_309 (goodIn_up _ gvX4_count) ⟨by decide, by decide⟩ (Nat.le_of_ble_eq_true rfl) ⟨Nat.zero_le _, Nat.zero_le _⟩ (by exact hI) (by omega) (by rfl) (fun e_3 => ?_)
        have f309_ := bn2 z
        refine j_icmp_ne (tgt := 350) G dL_arePlots_312 (by decide) (by omega) (by omega) (fun c312 => absurd c312 (by omega)) (fun c312 => ?_)
        refine j_iload G 4 dL_arePlots_315 rfl ?_
        refine j_aload_n G 0 dL_arePlots_317 rfl ?_
        refine j_iconst G dL_arePlots_318 (v := 3) rfl ?_
        refine jo_count (r0 := sumI 64 (fun p => if zHi z (tZ z) p = pAll (tZ z) then 1 else 0)) G dL_arePlots_319 (goodIn_up _ gvX4_count) ⟨by decide, by decide⟩ (Nat.le_of_ble_eq_true rfl) ⟨Nat.zero_le _, Nat.zero_le _⟩ (by exact hI) (by omega) (by rfl) (fun e_4 => ?_)
        have f319_ := bn3 z
        refine j_icmp_ne (tgt := 350) G dL_arePlots_322 (by decide) (by omega) (by omega) (fun c322 => absurd c322 (by omega)) (fun c322 => ?_)
        refine j_iload G 5 dL_arePlots_325 rfl ?_
        refine j_aload_n G 0 dL_arePlots_327 rfl ?_
        refine j_iconst G dL_arePlots_328 (v := 4) rfl ?_
        refine jo_count (r0 := sumI 64 (fun p => zLo z (tZ z) p)) G dL_arePlots_329 (goodIn_up _ gvX4_count) ⟨by decide, by decide⟩ (Nat.le_of_ble_eq_true rfl) ⟨Nat.zero_le _, Nat.zero_le _⟩ (by exact hI) (by omega) (by rfl) (fun e_5 => ?_)
        have f329_ := bn4 hI
        refine j_icmp_ne (tgt := 350) G dL_arePlots_332 (by decide) (by omega) (by omega) (fun c332 => absurd c332 (by omega)) (fun c332 => ?_)
        refine j_iload G 6 dL_arePlots_335 rfl ?_
        refine j_aload_n G 0 dL_arePlots_337 rfl ?_
        refine j_bipush G dL_arePlots_338 (v := 11) rfl ?_
        refine jo_count (r0 := sumI 64 (fun p => if ¬ z (156 + p) = 0 then 1 else 0)) G dL_arePlots_340 (goodIn_up _ gvX4_count) ⟨by decide, by decide⟩ (Nat.le_of_ble_eq_true rfl) ⟨Nat.zero_le _, Nat.zero_le _⟩ (by exact hI) (by omega) (by rfl) (fun e_6 => ?_)
        have f340_ := bn11 z
        refine j_icmp_ne (tgt := 350) G dL_arePlots_343 (by decide) (by omega) (by omega) (fun c343 => absurd c343 (by omega)) (fun c343 => ?_)
        refine j_iconst G dL_arePlots_346 (v := 1) rfl ?_
        refine j_goto (tgt := 351) G dL_arePlots_347 (by decide) ?_
        exact j_reti (r := 1) G dL_arePlots_351 (by rfl) (jLe.rf _) (kr0 _ _ ⟨e_6, rfl, rfl⟩)
      · refine j_iload G 8 dL_arePlots_43 rfl ?_
        refine j_if_eq (tgt := 292) G dL_arePlots_45 (by decide) (by omega) (fun c45 => absurd c45 (by omega)) (fun c45 => ?_)
        refine j_aload_n G 0 dL_arePlots_48 rfl ?_
        refine j_iload G 9 dL_arePlots_49 rfl ?_
        refine j_iconst G dL_arePlots_51 (v := 2) rfl ?_
        refine jo_plot (r0 := zHi z (tZ z) i) G dL_arePlots_52 (goodIn_up _ gvX4_plot) ⟨by decide, by decide⟩ (Nat.le_of_ble_eq_true rfl) ⟨Nat.zero_le _, Nat.zero_le _⟩ (by exact hI) (by omega) (by omega) (by exact fp2 (by omega)) (fun e_7 => ?_)
        have f52_ := bp2 hI (p := i) (by omega)
        refine j_istore (lv' := [(10, .int (jI (zHi z (tZ z) i))), (0, .ref h), (1, .int (jI (pAll (tZ z)))), (2, .int (jI wo)), (3, .int (jI en)), (4, .int (jI dm)), (5, .int (jI los)), (6, .int (jI fe)), (7, .int (jI ir)), (8, .int (jI 1)), (9, .int (jI i))]) G dL_arePlots_55 (by decide) rfl ?_
        refine j_aload_n G 1 dL_arePlots_57 rfl ?_
        refine j_iload G 10 dL_arePlots_58 rfl ?_
        refine j_iconst G dL_arePlots_60 (v := 0) rfl ?_
        refine jo_plot (r0 := z (28 + i)) G dL_arePlots_61 (goodIn_up _ gvX4_plot) ⟨by decide, by decide⟩ (Nat.le_of_ble_eq_true rfl) ⟨Nat.zero_le _, Nat.zero_le _⟩ (by exact hI) (by omega) (by omega) (by exact fp0 (by omega)) (fun e_8 => ?_)
        have f61_ := bp0 hI (p := i) (by omega)
        refine j_istore (lv' := [(11, .int (jI (z (28 + i)))), (10, .int (jI (zHi z (tZ z) i))), (0, .ref h), (1, .int (jI (pAll (tZ z)))), (2, .int (jI wo)), (3, .int (jI en)), (4, .int (jI dm)), (5, .int (jI los)), (6, .int (jI fe)), (7, .int (jI ir)), (8, .int (jI 1)), (9, .int (jI i))]) G dL_arePlots_64 (by decide) rfl ?_
        refine j_iload_n G 4 dL_arePlots_66 rfl ?_
        refine j_iload G 0 dL_arePlots_67 rfl ?_
        refine j_iadd G dL_arePlots_69 ?_
        refine j_istore_n (lv' := [(2, .int (jI (wo + (z (28 + i))))), (11, .int (jI (z (28 + i)))), (10, .int (jI (zHi z (tZ z) i))), (0, .ref h), (1, .int (jI (pAll (tZ z)))), (3, .int (jI en)), (4, .int (jI dm)), (5, .int (jI los)), (6, .int (jI fe)), (7, .int (jI ir)), (8, .int (jI 1)), (9, .int (jI i))]) G dL_arePlots_70 (by decide) rfl ?_
        refine j_iload_n G 5 dL_arePlots_71 rfl ?_
        refine j_aload_n G 3 dL_arePlots_72 rfl ?_
        refine j_iload G 11 dL_arePlots_73 rfl ?_
        refine j_iconst G dL_arePlots_75 (v := 3) rfl ?_
        refine jo_plot (r0 := if 0 < zHi z (tZ z) i then 1 else 0) G dL_arePlots_76 (goodIn_up _ gvX4_plot) ⟨by decide, by decide⟩ (Nat.le_of_ble_eq_true rfl) ⟨Nat.zero_le _, Nat.zero_le _⟩ (by exact hI) (by omega) (by omega) (by exact fp3 (by omega)) (fun e_9 => ?_)
        have f76_ := bp3 hI (p := i) (by omega)
        refine j_iadd G dL_arePlots_79 ?_
        refine j_istore_n (lv' := [(3, .int (jI (en + (if 0 < zHi z (tZ z) i then 1 else 0)))), (2, .int (jI (wo + (z (28 + i))))), (11, .int (jI (z (28 + i)))), (10, .int (jI (zHi z (tZ z) i))), (0, .ref h), (1, .int (jI (pAll (tZ z)))), (4, .int (jI dm)), (5, .int (jI los)), (6, .int (jI fe)), (7, .int (jI ir)), (8, .int (jI 1)), (9, .int (jI i))]) G dL_arePlots_80 (by decide) rfl ?_
        refine j_iload G 6 dL_arePlots_81 rfl ?_
        refine j_aload_n G 4 dL_arePlots_83 rfl ?_
        refine j_iload G 11 dL_arePlots_84 rfl ?_
        refine j_iconst G dL_arePlots_86 (v := 4) rfl ?_
        refine jo_plot (r0 := if zHi z (tZ z) i = pAll (tZ z) then 1 else 0) G dL_arePlots_87 (goodIn_up _ gvX4_plot) ⟨by decide, by decide⟩ (Nat.le_of_ble_eq_true rfl) ⟨Nat.zero_le _, Nat.zero_le _⟩ (by exact hI) (by omega) (by omega) (by exact fp4 (by omega)) (fun e_10 => ?_)
        have f87_ := bp4 hI (p := i) (by omega)
        refine j_iadd G dL_arePlots_90 ?_
        refine j_istore (lv' := [(4, .int (jI (dm + (if zHi z (tZ z) i = pAll (tZ z) then 1 else 0)))), (3, .int (jI (en + (if 0 < zHi z (tZ z) i then 1 else 0)))), (2, .int (jI (wo + (z (28 + i))))), (11, .int (jI (z (28 + i)))), (10, .int (jI (zHi z (tZ z) i))), (0, .ref h), (1, .int (jI (pAll (tZ z)))), (5, .int (jI los)), (6, .int (jI fe)), (7, .int (jI ir)), (8, .int (jI 1)), (9, .int (jI i))]) G dL_arePlots_91 (by decide) rfl ?_
        refine j_iload G 7 dL_arePlots_93 rfl ?_
        refine j_aload_n G 5 dL_arePlots_95 rfl ?_
        refine j_iload G 11 dL_arePlots_96 rfl ?_
        refine j_iconst G dL_arePlots_98 (v := 5) rfl ?_
        refine jo_plot (r0 := zLo z (tZ z) i) G dL_arePlots_99 (goodIn_up _ gvX4_plot) ⟨by decide, by decide⟩ (Nat.le_of_ble_eq_true rfl) ⟨Nat.zero_le _, Nat.zero_le _⟩ (by exact hI) (by omega) (by omega) (by exact fp5 (by omega)) (fun e_11 => ?_)
        have f99_ := bp5 hI (p := i) (by omega)
        refine j_iadd G dL_arePlots_102 ?_
        refine j_istore (lv' := [(5, .int (jI (los + (zLo z (tZ z) i)))), (4, .int (jI (dm + (if zHi z (tZ z) i = pAll (tZ z) then 1 else 0)))), (3, .int (jI (en + (if 0 < zHi z (tZ z) i then 1 else 0)))), (2, .int (jI (wo + (z (28 + i))))), (11, .int (jI (z (28 + i)))), (10, .int (jI (zHi z (tZ z) i))), (0, .ref h), (1, .int (jI (pAll (tZ z)))), (6, .int (jI fe)), (7, .int (jI ir)), (8, .int (jI 1)), (9, .int (jI i))]) G dL_arePlots_103 (by decide) rfl ?_
        refine j_iload G 8 dL_arePlots_105 rfl ?_
        refine j_aload_n G 6 dL_arePlots_107 rfl ?_
        refine j_iload G 11 dL_arePlots_108 rfl ?_
        refine j_bipush G dL_arePlots_110 (v := 6) rfl ?_
        refine jo_plot (r0 := z (156 + i)) G dL_arePlots_112 (goodIn_up _ gvX4_plot) ⟨by decide, by decide⟩ (Nat.le_of_ble_eq_true rfl) ⟨Nat.zero_le _, Nat.zero_le _⟩ (by exact hI) (by omega) (by omega) (by exact fp6 (by omega)) (fun e_12 => ?_)
        have f112_ := bp6 hI (p := i) (by omega)
        refine j_iadd G dL_arePlots_115 ?_
        refine j_istore (lv' := [(6, .int (jI (fe + (z (156 + i))))), (5, .int (jI (los + (zLo z (tZ z) i)))), (4, .int (jI (dm + (if zHi z (tZ z) i = pAll (tZ z) then 1 else 0)))), (3, .int (jI (en + (if 0 < zHi z (tZ z) i then 1 else 0)))), (2, .int (jI (wo + (z (28 + i))))), (11, .int (jI (z (28 + i)))), (10, .int (jI (zHi z (tZ z) i))), (0, .ref h), (1, .int (jI (pAll (tZ z)))), (7, .int (jI ir)), (8, .int (jI 1)), (9, .int (jI i))]) G dL_arePlots_116 (by decide) rfl ?_
        refine j_iload G 11 dL_arePlots_118 rfl ?_
        refine j_bipush G dL_arePlots_120 (v := 8) rfl ?_
        refine j_irem G dL_arePlots_122 (by omega) (by omega) ?_
        obtain ⟨tv_13, htv_13⟩ : ∃ v_ : Int, v_ = (if (i % 8) = 0 then zHi z (tZ z) i else ir + (zHi z (tZ z) i)) := ⟨_, rfl⟩
        suffices hj_14 : J x_ 0 0 (oW Y h ad aq e_12 z zs ik sz S) 136 [(6, .int (jI (fe + (z (156 + i))))), (5, .int (jI (los + (zLo z (tZ z) i)))), (4, .int (jI (dm + (if zHi z (tZ z) i = pAll (tZ z) then 1 else 0)))), (3, .int (jI (en + (if 0 < zHi z (tZ z) i then 1 else 0)))), (2, .int (jI (wo + (z (28 + i))))), (11, .int (jI (z (28 + i)))), (10, .int (jI (zHi z (tZ z) i))), (0, .ref h), (1, .int (jI (pAll (tZ z)))), (7, .int (jI ir)), (8, .int (jI 1)), (9, .int (jI i))] [.int (jI tv_13)] by
          refine j_if_ne (tgt := 131) G dL_arePlots_123 (by decide) (by omega) (fun c123 => ?_) (fun c123 => ?_)
          · refine j_iload G 9 dL_arePlots_131 rfl ?_
            refine j_iload G 6 dL_arePlots_133 rfl ?_
            refine j_iadd G dL_arePlots_135 ?_
            rw [if_neg (show ¬ ((i % 8) = 0) by omega)] at htv_13
            subst htv_13
            exact hj_14
          · refine j_iload G 6 dL_arePlots_126 rfl ?_
            refine j_goto (tgt := 136) G dL_arePlots_128 (by decide) ?_
            rw [if_pos (show (i % 8) = 0 by omega)] at htv_13
            subst htv_13
            exact hj_14
        obtain ⟨ir2, e_ir2, h_ir2⟩ : ∃ y : Int, y = (tv_13) ∧ (y = sumI (i % 8 + 1).toNat (fun c => zHi z (tZ z) (i / 8 * 8 + c))) := ⟨_, rfl, by rw [htv_13]; exact inrow (g := fun p => zHi z (tZ z) p) hi.1 h7⟩
        rw [← e_ir2]
        refine j_istore (lv' := [(7, .int (jI ir2)), (6, .int (jI (fe + (z (156 + i))))), (5, .int (jI (los + (zLo z (tZ z) i)))), (4, .int (jI (dm + (if zHi z (tZ z) i = pAll (tZ z) then 1 else 0)))), (3, .int (jI (en + (if 0 < zHi z (tZ z) i then 1 else 0)))), (2, .int (jI (wo + (z (28 + i))))), (11, .int (jI (z (28 + i)))), (10, .int (jI (zHi z (tZ z) i))), (0, .ref h), (1, .int (jI (pAll (tZ z)))), (8, .int (jI 1)), (9, .int (jI i))]) G dL_arePlots_136 (by decide) rfl ?_
        refine j_iload G 6 dL_arePlots_138 rfl ?_
        refine j_if_lt (tgt := 283) G dL_arePlots_140 (by decide) (by omega) (fun c140 => absurd c140 (by omega)) (fun c140 => ?_)
        refine j_iload G 6 dL_arePlots_143 rfl ?_
        refine j_bipush G dL_arePlots_145 (v := 100) rfl ?_
        refine j_icmp_ge (tgt := 283) G dL_arePlots_147 (by decide) (by omega) (by omega) (fun c147 => absurd c147 (by omega)) (fun c147 => ?_)
        refine j_aload_n G 8 dL_arePlots_150 rfl ?_
        refine j_iload G 11 dL_arePlots_151 rfl ?_
        refine j_iconst G dL_arePlots_153 (v := 1) rfl ?_
        refine jo_plot (r0 := z 92) G dL_arePlots_154 (goodIn_up _ gvX4_plot) ⟨by decide, by decide⟩ (Nat.le_of_ble_eq_true rfl) ⟨Nat.zero_le _, Nat.zero_le _⟩ (by exact hI) (by omega) (by omega) (by exact fp1 (by omega)) (fun e_15 => ?_)
        have f154_ := bp1 hI (p := i) (by omega)
        refine j_if_lt (tgt := 283) G dL_arePlots_157 (by decide) (by omega) (fun c157 => absurd c157 (by omega)) (fun c157 => ?_)
        refine j_aload_n G 8 dL_arePlots_160 rfl ?_
        refine j_iload G 11 dL_arePlots_161 rfl ?_
        refine j_iconst G dL_arePlots_163 (v := 1) rfl ?_
        refine jo_plot (r0 := z 92) G dL_arePlots_164 (goodIn_up _ gvX4_plot) ⟨by decide, by decide⟩ (Nat.le_of_ble_eq_true rfl) ⟨Nat.zero_le _, Nat.zero_le _⟩ (by exact hI) (by omega) (by omega) (by exact fp1 (by omega)) (fun e_16 => ?_)
        have f164_ := bp1 hI (p := i) (by omega)
        refine j_bipush G dL_arePlots_167 (v := 10) rfl ?_
        refine j_icmp_ge (tgt := 283) G dL_arePlots_169 (by decide) (by omega) (by omega) (fun c169 => absurd c169 (by omega)) (fun c169 => ?_)
        refine j_iload G 7 dL_arePlots_172 rfl ?_
        refine j_if_lt (tgt := 283) G dL_arePlots_174 (by decide) (by omega) (fun c174 => absurd c174 (by omega)) (fun c174 => ?_)
        refine j_iload G 7 dL_arePlots_177 rfl ?_
        refine j_iload_n G 9 dL_arePlots_179 rfl ?_
        refine j_icmp_gt (tgt := 283) G dL_arePlots_180 (by decide) (by omega) (by omega) (fun c180 => absurd c180 (by omega)) (fun c180 => ?_)
        refine j_aload_n G 8 dL_arePlots_183 rfl ?_
        refine j_iload G 11 dL_arePlots_184 rfl ?_
        refine j_iconst G dL_arePlots_186 (v := 3) rfl ?_
        refine jo_plot (r0 := if 0 < zHi z (tZ z) i then 1 else 0) G dL_arePlots_187 (goodIn_up _ gvX4_plot) ⟨by decide, by decide⟩ (Nat.le_of_ble_eq_true rfl) ⟨Nat.zero_le _, Nat.zero_le _⟩ (by exact hI) (by omega) (by omega) (by exact fp3 (by omega)) (fun e_17 => ?_)
        have f187_ := bp3 hI (p := i) (by omega)
        refine j_iload G 7 dL_arePlots_190 rfl ?_
        obtain ⟨tv_18, htv_18⟩ : ∃ v_ : Int, v_ = (if (zHi z (tZ z) i) ≤ 0 then 0 else 1) := ⟨_, rfl⟩
        suffices hj_19 : J x_ 0 0 (oW Y h ad aq e_17 z zs ik sz S) 200 [(7, .int (jI ir2)), (6, .int (jI (fe + (z (156 + i))))), (5, .int (jI (los + (zLo z (tZ z) i)))), (4, .int (jI (dm + (if zHi z (tZ z) i = pAll (tZ z) then 1 else 0)))), (3, .int (jI (en + (if 0 < zHi z (tZ z) i then 1 else 0)))), (2, .int (jI (wo + (z (28 + i))))), (11, .int (jI (z (28 + i)))), (10, .int (jI (zHi z (tZ z) i))), (0, .ref h), (1, .int (jI (pAll (tZ z)))), (8, .int (jI 1)), (9, .int (jI i))] [.int (jI tv_18), .int (jI (if 0 < zHi z (tZ z) i then 1 else 0))] by
          refine j_if_le (tgt := 199) G dL_arePlots_192 (by decide) (by omega) (fun c192 => ?_) (fun c192 => ?_)
          · refine j_iconst G dL_arePlots_199 (v := 0) rfl ?_
            rw [if_pos (show (zHi z (tZ z) i) ≤ 0 by omega)] at htv_18
            subst htv_18
            exact hj_19
          · refine j_iconst G dL_arePlots_195 (v := 1) rfl ?_
            refine j_goto (tgt := 200) G dL_arePlots_196 (by decide) ?_
            rw [if_neg (show ¬ ((zHi z (tZ z) i) ≤ 0) by omega)] at htv_18
            subst htv_18
            exact hj_19
        refine j_icmp_ne (tgt := 283) G dL_arePlots_200 (by decide) (by omega) (by omega) (fun c200 => absurd c200 (by omega)) (fun c200 => ?_)
        refine j_aload_n G 8 dL_arePlots_203 rfl ?_
        refine j_iload G 11 dL_arePlots_204 rfl ?_
        refine j_iconst G dL_arePlots_206 (v := 4) rfl ?_
        refine jo_plot (r0 := if zHi z (tZ z) i = pAll (tZ z) then 1 else 0) G dL_arePlots_207 (goodIn_up _ gvX4_plot) ⟨by decide, by decide⟩ (Nat.le_of_ble_eq_true rfl) ⟨Nat.zero_le _, Nat.zero_le _⟩ (by exact hI) (by omega) (by omega) (by exact fp4 (by omega)) (fun e_20 => ?_)
        have f207_ := bp4 hI (p := i) (by omega)
        refine j_iload G 7 dL_arePlots_210 rfl ?_
        refine j_iload_n G 9 dL_arePlots_212 rfl ?_
        obtain ⟨tv_21, htv_21⟩ : ∃ v_ : Int, v_ = (if (zHi z (tZ z) i) = (pAll (tZ z)) then 1 else 0) := ⟨_, rfl⟩
        suffices hj_22 : J x_ 0 0 (oW Y h ad aq e_20 z zs ik sz S) 221 [(7, .int (jI ir2)), (6, .int (jI (fe + (z (156 + i))))), (5, .int (jI (los + (zLo z (tZ z) i)))), (4, .int (jI (dm + (if zHi z (tZ z) i = pAll (tZ z) then 1 else 0)))), (3, .int (jI (en + (if 0 < zHi z (tZ z) i then 1 else 0)))), (2, .int (jI (wo + (z (28 + i))))), (11, .int (jI (z (28 + i)))), (10, .int (jI (zHi z (tZ z) i))), (0, .ref h), (1, .int (jI (pAll (tZ z)))), (8, .int (jI 1)), (9, .int (jI i))] [.int (jI tv_21), .int (jI (if zHi z (tZ z) i = pAll (tZ z) then 1 else 0))] by
          refine j_icmp_ne (tgt := 220) G dL_arePlots_213 (by decide) (by omega) (by omega) (fun c213 => ?_) (fun c213 => ?_)
          · refine j_iconst G dL_arePlots_220 (v := 0) rfl ?_
            rw [if_neg (show ¬ ((zHi z (tZ z) i) = (pAll (tZ z))) by omega)] at htv_21
            subst htv_21
            exact hj_22
          · refine j_iconst G dL_arePlots_216 (v := 1) rfl ?_
            refine j_goto (tgt := 221) G dL_arePlots_217 (by decide) ?_
            rw [if_pos (show (zHi z (tZ z) i) = (pAll (tZ z)) by omega)] at htv_21
            subst htv_21
            exact hj_22
        refine j_icmp_ne (tgt := 283) G dL_arePlots_221 (by decide) (by omega) (by omega) (fun c221 => absurd c221 (by omega)) (fun c221 => ?_)
        refine j_aload_n G 8 dL_arePlots_224 rfl ?_
        refine j_iload G 11 dL_arePlots_225 rfl ?_
        refine j_iconst G dL_arePlots_227 (v := 5) rfl ?_
        refine jo_plot (r0 := zLo z (tZ z) i) G dL_arePlots_228 (goodIn_up _ gvX4_plot) ⟨by decide, by decide⟩ (Nat.le_of_ble_eq_true rfl) ⟨Nat.zero_le _, Nat.zero_le _⟩ (by exact hI) (by omega) (by omega) (by exact fp5 (by omega)) (fun e_23 => ?_)
        have f228_ := bp5 hI (p := i) (by omega)
        refine j_i2l G dL_arePlots_231 (by omega) ?_
        refine j_iload G 6 dL_arePlots_232 rfl ?_
        refine j_i2l G dL_arePlots_234 (by omega) ?_
        refine j_iload G 7 dL_arePlots_235 rfl ?_
        refine j_i2l G dL_arePlots_237 (by omega) ?_
        refine j_lmul G dL_arePlots_238 ?_
        refine j_iload_n G 9 dL_arePlots_239 rfl ?_
        refine j_i2l G dL_arePlots_240 (by omega) ?_
        refine j_ldiv G dL_arePlots_241 (by have q := zLo_m (tZ z) hI (p := i) (by omega); omega) (by omega) ?_
        refine j_lcmp0 G dL_arePlots_242 (by rfl) ?_
        refine j_if_ne (tgt := 283) G dL_arePlots_243 (by decide) (by omega) (fun c243 => absurd c243 (by omega)) (fun c243 => ?_)
        refine j_iload G 11 dL_arePlots_246 rfl ?_
        refine j_bipush G dL_arePlots_248 (v := 8) rfl ?_
        refine j_irem G dL_arePlots_250 (by omega) (by omega) ?_
        refine j_bipush G dL_arePlots_251 (v := 7) rfl ?_
        refine j_icmp_lt (tgt := 279) G dL_arePlots_253 (by decide) (by omega) (by omega) (fun c253 => ?_) (fun c253 => ?_)
        · refine j_iconst G dL_arePlots_279 (v := 1) rfl ?_
          refine j_goto (tgt := 284) G dL_arePlots_280 (by decide) ?_
          refine j_istore (lv' := [(8, .int (jI 1)), (7, .int (jI ir2)), (6, .int (jI (fe + (z (156 + i))))), (5, .int (jI (los + (zLo z (tZ z) i)))), (4, .int (jI (dm + (if zHi z (tZ z) i = pAll (tZ z) then 1 else 0)))), (3, .int (jI (en + (if 0 < zHi z (tZ z) i then 1 else 0)))), (2, .int (jI (wo + (z (28 + i))))), (11, .int (jI (z (28 + i)))), (10, .int (jI (zHi z (tZ z) i))), (0, .ref h), (1, .int (jI (pAll (tZ z)))), (9, .int (jI i))]) G dL_arePlots_284 (by decide) rfl ?_
          refine j_iinc (w := i + 1) (lv' := [(9, .int (jI (i + 1))), (8, .int (jI 1)), (7, .int (jI ir2)), (6, .int (jI (fe + (z (156 + i))))), (5, .int (jI (los + (zLo z (tZ z) i)))), (4, .int (jI (dm + (if zHi z (tZ z) i = pAll (tZ z) then 1 else 0)))), (3, .int (jI (en + (if 0 < zHi z (tZ z) i then 1 else 0)))), (2, .int (jI (wo + (z (28 + i))))), (11, .int (jI (z (28 + i)))), (10, .int (jI (zHi z (tZ z) i))), (0, .ref h), (1, .int (jI (pAll (tZ z))))]) G 11 dL_arePlots_286 rfl rfl (by decide) rfl ?_
          refine j_goto (tgt := 36) G dL_arePlots_289 (by decide) ?_
          refine j_lv [10, 11, 7, 6, 5, 4, 3, 2, 1, 0] (lv' := [(0, .ref h), (1, .int (jI (pAll (tZ z)))), (2, .int (jI (wo + (z (28 + i))))), (3, .int (jI (en + (if 0 < zHi z (tZ z) i then 1 else 0)))), (4, .int (jI (dm + (if zHi z (tZ z) i = pAll (tZ z) then 1 else 0)))), (5, .int (jI (los + (zLo z (tZ z) i)))), (6, .int (jI (fe + (z (156 + i))))), (7, .int (jI ir2)), (8, .int (jI 1)), (9, .int (jI (i + 1)))]) rfl ?_
          exact ih36 (i + 1) (wo + (z (28 + i))) (en + (if 0 < zHi z (tZ z) i then 1 else 0)) (dm + (if zHi z (tZ z) i = pAll (tZ z) then 1 else 0)) (los + (zLo z (tZ z) i)) (fe + (z (156 + i))) ir2 e_23 (by omega) (by rw [h2]; exact (sumI_S hi.1 _).symm) (by rw [h3]; exact (sumI_S hi.1 _).symm) (by rw [h4]; exact (sumI_S hi.1 _).symm) (by rw [h5]; exact (sumI_S hi.1 _).symm) (by rw [h6]; exact (sumI_S hi.1 _).symm) (by exact inrow_S (g := fun p => zHi z (tZ z) p) hi.1 h_ir2) (by omega)
        · have f256 := row_at hI (i := i) (by omega) (by omega) h_ir2
          refine j_iload G 0 dL_arePlots_256 rfl ?_
          refine j_iload_n G 9 dL_arePlots_258 rfl ?_
          refine j_icmp_lt (tgt := 283) G dL_arePlots_259 (by decide) (by omega) (by omega) (fun c259 => absurd c259 (by omega)) (fun c259 => ?_)
          refine j_iload G 0 dL_arePlots_262 rfl ?_
          refine j_iload_n G 9 dL_arePlots_264 rfl ?_
          refine j_iconst G dL_arePlots_265 (v := 2) rfl ?_
          refine j_aload_n G 8 dL_arePlots_266 rfl ?_
          refine j_bipush G dL_arePlots_267 (v := 13) rfl ?_
          refine jo_count (r0 := z 1) G dL_arePlots_269 (goodIn_up _ gvX4_count) ⟨by decide, by decide⟩ (Nat.le_of_ble_eq_true rfl) ⟨Nat.zero_le _, Nat.zero_le _⟩ (by exact hI) (by omega) (by rfl) (fun e_24 => ?_)
          have f269_ := hI.s1
          refine j_imul G dL_arePlots_272 ?_
          refine j_iconst G dL_arePlots_273 (v := 1) rfl ?_
          refine j_iadd G dL_arePlots_274 ?_
          refine j_imul G dL_arePlots_275 ?_
          refine j_icmp_gt (tgt := 283) G dL_arePlots_276 (by decide) (by omega) (by omega) (fun c276 => absurd c276 (by omega)) (fun c276 => ?_)
          refine j_iconst G dL_arePlots_279 (v := 1) rfl ?_
          refine j_goto (tgt := 284) G dL_arePlots_280 (by decide) ?_
          refine j_istore (lv' := [(8, .int (jI 1)), (7, .int (jI ir2)), (6, .int (jI (fe + (z (156 + i))))), (5, .int (jI (los + (zLo z (tZ z) i)))), (4, .int (jI (dm + (if zHi z (tZ z) i = pAll (tZ z) then 1 else 0)))), (3, .int (jI (en + (if 0 < zHi z (tZ z) i then 1 else 0)))), (2, .int (jI (wo + (z (28 + i))))), (11, .int (jI (z (28 + i)))), (10, .int (jI (zHi z (tZ z) i))), (0, .ref h), (1, .int (jI (pAll (tZ z)))), (9, .int (jI i))]) G dL_arePlots_284 (by decide) rfl ?_
          refine j_iinc (w := i + 1) (lv' := [(9, .int (jI (i + 1))), (8, .int (jI 1)), (7, .int (jI ir2)), (6, .int (jI (fe + (z (156 + i))))), (5, .int (jI (los + (zLo z (tZ z) i)))), (4, .int (jI (dm + (if zHi z (tZ z) i = pAll (tZ z) then 1 else 0)))), (3, .int (jI (en + (if 0 < zHi z (tZ z) i then 1 else 0)))), (2, .int (jI (wo + (z (28 + i))))), (11, .int (jI (z (28 + i)))), (10, .int (jI (zHi z (tZ z) i))), (0, .ref h), (1, .int (jI (pAll (tZ z))))]) G 11 dL_arePlots_286 rfl rfl (by decide) rfl ?_
          refine j_goto (tgt := 36) G dL_arePlots_289 (by decide) ?_
          refine j_lv [10, 11, 7, 6, 5, 4, 3, 2, 1, 0] (lv' := [(0, .ref h), (1, .int (jI (pAll (tZ z)))), (2, .int (jI (wo + (z (28 + i))))), (3, .int (jI (en + (if 0 < zHi z (tZ z) i then 1 else 0)))), (4, .int (jI (dm + (if zHi z (tZ z) i = pAll (tZ z) then 1 else 0)))), (5, .int (jI (los + (zLo z (tZ z) i)))), (6, .int (jI (fe + (z (156 + i))))), (7, .int (jI ir2)), (8, .int (jI 1)), (9, .int (jI (i + 1)))]) rfl ?_
          exact ih36 (i + 1) (wo + (z (28 + i))) (en + (if 0 < zHi z (tZ z) i then 1 else 0)) (dm + (if zHi z (tZ z) i = pAll (tZ z) then 1 else 0)) (los + (zLo z (tZ z) i)) (fe + (z (156 + i))) ir2 e_24 (by omega) (by rw [h2]; exact (sumI_S hi.1 _).symm) (by rw [h3]; exact (sumI_S hi.1 _).symm) (by rw [h4]; exact (sumI_S hi.1 _).symm) (by rw [h5]; exact (sumI_S hi.1 _).symm) (by rw [h6]; exact (sumI_S hi.1 _).symm) (by exact inrow_S (g := fun p => zHi z (tZ z) p) hi.1 h_ir2) (by omega)
  refine j_lv [9, 8, 7, 6, 5, 4, 3, 2, 1, 0] (lv' := [(0, .ref h), (1, .int (jI (pAll (tZ z)))), (2, .int (jI 0)), (3, .int (jI 0)), (4, .int (jI 0)), (5, .int (jI 0)), (6, .int (jI 0)), (7, .int (jI 0)), (8, .int (jI 1)), (9, .int (jI 0))]) rfl ?_
  exact lp36 (Int.toNat ((64 - 0) + 1)) 0 0 0 0 0 0 0 e_1 (by omega) (by rfl) (by rfl) (by rfl) (by rfl) (by rfl) (by exact Or.inl rfl) (by omega)
theorem jl_arePlots {xc : Cx} {l : Launch} {D : va_G} {Y : Nat → ClassId} {cc : ByteArray} {own : String} {Ts : List Cond} {nL : Nat} {R0 : Room} {ret : Option FieldType} {nm : String} {kc nc pc index h : Nat} {lv : List (Nat × Value)} {st : List Value} {ad : Nat → Nat} {aq : Nat → Nat → Nat} {e : oE} {z zs : Int → Int} {ik sz : Int} {S : Nat → Int → Int} (G : jG xc l D Y cc own Ts nL R0 ret nm)  (hdg : decode cc pc = .ok (.invokestatic index, 3)) (hT : GoodIn Ts (va_wsS own index yL_arePlots wsU_arePlots)) (hR : 7 ≤ R0.frames ∧ 167 ≤ R0.locals) (hW : (st.map fun v => v.category).sum ≤ 8) (hf : kc ≤ R0.cells ∧ nc ≤ R0.slots) (hI : Inv z) (hB : Bd 48 z) (hsz : 0 ≤ sz ∧ sz ≤ 4) (kk : ∀ e2 : oE, J xc kc nc (oW Y h ad aq e2 z zs ik sz S) (pc + 3) lv (.int (jI 1) :: st)) : J xc kc nc (oW Y h ad aq e z zs ik sz S) pc lv (.ref h :: st) := by
  refine j_callS (nA := 1) (As := [.ref h]) (st := st) (wc := oW Y h ad aq e z zs ik sz S) (wr := []) G (c_L_arePlots l D Y h ad aq e z zs ik sz S  hI hB hsz) hdg rfl hT rfl rfl rfl (by decide +kernel) hR rfl (jLe.nil (jLe.rf _)) hW hf (fun v_ w_ hp_ => ?_)
  obtain ⟨e2, rfl, rfl⟩ := hp_
  rw [List.append_nil]
  exact kk e2
