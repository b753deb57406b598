set_option maxHeartbeats 40000000 in
set_option maxRecDepth 100000 in
theorem c_L_refusesAny (l : Launch) (D : va_G) (Y : Nat → ClassId) (h : Nat) (ad : Nat → Nat) (aq : Nat → Nat → Nat) (e : oE) (z zs : Int → Int) (ik sz : Int) (S : Nat → Int → Int) (x : Int) (hI : Inv z) (hB : Bd 48 z) (hsz : 0 ≤ sz ∧ sz ≤ 4) (hx : 0 ≤ x ∧ x ≤ 2147483647) : jM l yL_refusesAny wsU_refusesAny { frames := 7, cells := 0, slots := 0, locals := 162 } D Y [.ref h, .int (jI x)] (oW Y h ad aq e z zs ik sz S) (fun v_ w_ => ∃ e2 : oE, v_ = some (.int (jI 1)) ∧ w_ = oW Y h ad aq e2 z zs ik sz S) 0 0 := by
  refine jM_of (cc := cL_refusesAny) (maxL := 6) (ret := some .boolean) (by decide) rfl (Nat.le_of_ble_eq_true rfl) (fun v w' h => by obtain ⟨_, h, _⟩ := h; exact Or.inr (Or.inl ⟨_, _, rfl, h, jI_z (Or.inr rfl)⟩)) ?_
  intro x_ G kr0
  have G : jG x_ l D Y cL_refusesAny RL wsU_refusesAny 6 ({ frames := 7, cells := 0, slots := 0, locals := 162 } : Room) (some .boolean) "refusesAny" := G
  show J x_ 0 0 (oW Y h ad aq e z zs ik sz S) 0 [(0, .ref h), (1, .int (jI x))] []
  rcases (show x % 2 = 0 ∨ x % 2 = 1 by omega) with hc | hc
  · refine j_iload_n G 1 dL_refusesAny_0 rfl ?_
    refine j_iconst G dL_refusesAny_1 (v := 2) rfl ?_
    refine j_irem G dL_refusesAny_2 (by omega) (by omega) ?_
    refine j_if_ne (tgt := 15) G dL_refusesAny_3 (by decide) (by omega) (fun c3 => absurd c3 (by omega)) (fun c3 => ?_)
    refine j_iconst G dL_refusesAny_6 (v := (-1)) rfl ?_
    refine j_iload_n G 1 dL_refusesAny_7 rfl ?_
    refine j_bipush G dL_refusesAny_8 (v := 99) rfl ?_
    refine j_irem G dL_refusesAny_10 (by omega) (by omega) ?_
    refine j_isub G dL_refusesAny_11 ?_
    refine j_goto (tgt := 22) G dL_refusesAny_12 (by decide) ?_
    refine j_istore_n (lv' := [(2, .int (jI ((-1) - (x % 99)))), (0, .ref h), (1, .int (jI x))]) G dL_refusesAny_22 (by decide) rfl ?_
    refine j_iload_n G 2 dL_refusesAny_23 rfl ?_
    refine j_iconst G dL_refusesAny_24 (v := 2) rfl ?_
    refine j_irem G dL_refusesAny_25 (by omega) (by omega) ?_
    refine j_if_ne (tgt := 38) G dL_refusesAny_26 (by decide) (by omega) (fun c26 => absurd c26 (by omega)) (fun c26 => ?_)
    refine j_iconst G dL_refusesAny_29 (v := (-1)) rfl ?_
    refine j_iload_n G 2 dL_refusesAny_30 rfl ?_
    refine j_bipush G dL_refusesAny_31 (v := 99) rfl ?_
    refine j_irem G dL_refusesAny_33 (by omega) (by omega) ?_
    refine j_isub G dL_refusesAny_34 ?_
    refine j_goto (tgt := 44) G dL_refusesAny_35 (by decide) ?_
    refine j_istore_n (lv' := [(3, .int (jI ((-1) - (x % 99)))), (2, .int (jI ((-1) - (x % 99)))), (0, .ref h), (1, .int (jI x))]) G dL_refusesAny_44 (by decide) rfl ?_
    refine j_iload_n G 3 dL_refusesAny_45 rfl ?_
    refine j_iconst G dL_refusesAny_46 (v := 2) rfl ?_
    refine j_irem G dL_refusesAny_47 (by omega) (by omega) ?_
    refine j_if_ne (tgt := 60) G dL_refusesAny_48 (by decide) (by omega) (fun c48 => absurd c48 (by omega)) (fun c48 => ?_)
    refine j_iconst G dL_refusesAny_51 (v := (-1)) rfl ?_
    refine j_iload_n G 3 dL_refusesAny_52 rfl ?_
    refine j_bipush G dL_refusesAny_53 (v := 99) rfl ?_
    refine j_irem G dL_refusesAny_55 (by omega) (by omega) ?_
    refine j_isub G dL_refusesAny_56 ?_
    refine j_goto (tgt := 67) G dL_refusesAny_57 (by decide) ?_
    refine j_istore (lv' := [(4, .int (jI ((-1) - (x % 99)))), (3, .int (jI ((-1) - (x % 99)))), (2, .int (jI ((-1) - (x % 99)))), (0, .ref h), (1, .int (jI x))]) G dL_refusesAny_67 (by decide) rfl ?_
    refine j_aload_n G 3 dL_refusesAny_69 rfl ?_
    refine j_iload_n G 2 dL_refusesAny_70 rfl ?_
    refine j_bipush G dL_refusesAny_71 (v := 100) rfl ?_
    refine jn_grow (r0 := (-1)) G dL_refusesAny_73 (goodIn_up _ gvX4_grow) ⟨by decide, by decide⟩ (Nat.le_of_ble_eq_true rfl) ⟨Nat.zero_le _, Nat.zero_le _⟩ (by exact hI) (by exact hsz) (by omega) (by omega) (by unfold F_grow; rw [if_neg (by omega)]) (by omega) (fun e_1 => ?_)
    refine j_iconst G dL_refusesAny_76 (v := (-1)) rfl ?_
    refine j_icmp_ne (tgt := 481) G dL_refusesAny_77 (by decide) (by omega) (by omega) (fun c77 => absurd c77 (by omega)) (fun c77 => ?_)
    refine j_aload_n G 3 dL_refusesAny_80 rfl ?_
    refine j_iconst G dL_refusesAny_81 (v := 0) rfl ?_
    refine j_iload_n G 4 dL_refusesAny_82 rfl ?_
    refine j_iconst G dL_refusesAny_83 (v := 2) rfl ?_
    refine j_irem G dL_refusesAny_84 (by omega) (by omega) ?_
    refine j_if_ne (tgt := 92) G dL_refusesAny_85 (by decide) (by omega) (fun c85 => absurd c85 (by omega)) (fun c85 => ?_)
    refine j_iconst G dL_refusesAny_88 (v := (-1)) rfl ?_
    refine j_goto (tgt := 94) G dL_refusesAny_89 (by decide) ?_
    refine jn_grow (r0 := (-2)) G dL_refusesAny_94 (goodIn_up _ gvX4_grow) ⟨by decide, by decide⟩ (Nat.le_of_ble_eq_true rfl) ⟨Nat.zero_le _, Nat.zero_le _⟩ (by exact hI) (by exact hsz) (by omega) (by omega) (by unfold F_grow; rw [if_pos (by omega), if_neg (by omega)]) (by omega) (fun e_2 => ?_)
    refine j_bipush G dL_refusesAny_97 (v := (-2)) rfl ?_
    refine j_icmp_ne (tgt := 481) G dL_refusesAny_99 (by decide) (by omega) (by omega) (fun c99 => absurd c99 (by omega)) (fun c99 => ?_)
    refine j_aload_n G 3 dL_refusesAny_102 rfl ?_
    refine j_iload_n G 4 dL_refusesAny_103 rfl ?_
    refine j_bipush G dL_refusesAny_104 (v := 64) rfl ?_
    refine j_irem G dL_refusesAny_106 (by omega) (by omega) ?_
    refine j_aload_n G 3 dL_refusesAny_107 rfl ?_
    refine j_iload_n G 4 dL_refusesAny_108 rfl ?_
    refine j_bipush G dL_refusesAny_109 (v := 64) rfl ?_
    refine j_irem G dL_refusesAny_111 (by omega) (by omega) ?_
    refine j_iconst G dL_refusesAny_112 (v := 0) rfl ?_
    refine jo_plot (r0 := z (28 + (x % 64))) G dL_refusesAny_113 (goodIn_up _ gvX4_plot) ⟨by decide, by decide⟩ (Nat.le_of_ble_eq_true rfl) ⟨Nat.zero_le _, Nat.zero_le _⟩ (by exact hI) (by omega) (by omega) (by exact fp0 (by omega)) (fun e_3 => ?_)
    have f113_ := bp0 hI (p := (x % 64)) (by omega)
    refine jn_grow (r0 := (-5)) G dL_refusesAny_116 (goodIn_up _ gvX4_grow) ⟨by decide, by decide⟩ (Nat.le_of_ble_eq_true rfl) ⟨Nat.zero_le _, Nat.zero_le _⟩ (by exact hI) (by exact hsz) (by omega) (by omega) (by unfold F_grow; rw [if_pos (by omega), if_pos (by omega), if_pos rfl]) (by omega) (fun e_4 => ?_)
    refine j_bipush G dL_refusesAny_119 (v := (-5)) rfl ?_
    refine j_icmp_ne (tgt := 481) G dL_refusesAny_121 (by decide) (by omega) (by omega) (fun c121 => absurd c121 (by omega)) (fun c121 => ?_)
    refine j_aload_n G 3 dL_refusesAny_124 rfl ?_
    refine j_iload_n G 4 dL_refusesAny_125 rfl ?_
    refine j_iconst G dL_refusesAny_126 (v := 2) rfl ?_
    refine j_irem G dL_refusesAny_127 (by omega) (by omega) ?_
    refine j_if_ne (tgt := 135) G dL_refusesAny_128 (by decide) (by omega) (fun c128 => absurd c128 (by omega)) (fun c128 => ?_)
    refine j_iconst G dL_refusesAny_131 (v := 0) rfl ?_
    refine j_goto (tgt := 137) G dL_refusesAny_132 (by decide) ?_
    refine jn_rain (r0 := (-2)) G dL_refusesAny_137 (goodIn_up _ gvX4_rain) ⟨by decide, by decide⟩ (Nat.le_of_ble_eq_true rfl) ⟨Nat.zero_le _, Nat.zero_le _⟩ (by exact hI) (by exact hsz) (by omega) (by unfold F_rain; rw [if_neg (by omega)]) (by omega) (fun e_5 => ?_)
    refine j_bipush G dL_refusesAny_140 (v := (-2)) rfl ?_
    refine j_icmp_ne (tgt := 481) G dL_refusesAny_142 (by decide) (by omega) (by omega) (fun c142 => absurd c142 (by omega)) (fun c142 => ?_)
    refine j_aload_n G 3 dL_refusesAny_145 rfl ?_
    refine j_iload_n G 4 dL_refusesAny_146 rfl ?_
    refine j_iconst G dL_refusesAny_147 (v := 2) rfl ?_
    refine j_irem G dL_refusesAny_148 (by omega) (by omega) ?_
    refine j_if_ne (tgt := 156) G dL_refusesAny_149 (by decide) (by omega) (fun c149 => absurd c149 (by omega)) (fun c149 => ?_)
    refine j_iconst G dL_refusesAny_152 (v := 0) rfl ?_
    refine j_goto (tgt := 158) G dL_refusesAny_153 (by decide) ?_
    refine jn_endDays (r0 := (-2)) G dL_refusesAny_158 (goodIn_up _ gvX4_endDays) ⟨by decide, by decide⟩ (Nat.le_of_ble_eq_true rfl) ⟨Nat.zero_le _, Nat.zero_le _⟩ (by exact hI) (by exact hsz) (by omega) (by unfold F_end; rw [if_neg (by omega)]) (by omega) (fun e_6 => ?_)
    refine j_bipush G dL_refusesAny_161 (v := (-2)) rfl ?_
    refine j_icmp_ne (tgt := 481) G dL_refusesAny_163 (by decide) (by omega) (by omega) (fun c163 => absurd c163 (by omega)) (fun c163 => ?_)
    refine j_aload_n G 3 dL_refusesAny_166 rfl ?_
    refine j_iload_n G 4 dL_refusesAny_167 rfl ?_
    refine j_iconst G dL_refusesAny_168 (v := 2) rfl ?_
    refine j_irem G dL_refusesAny_169 (by omega) (by omega) ?_
    refine j_if_ne (tgt := 177) G dL_refusesAny_170 (by decide) (by omega) (fun c170 => absurd c170 (by omega)) (fun c170 => ?_)
    refine j_iconst G dL_refusesAny_173 (v := (-1)) rfl ?_
    refine j_goto (tgt := 178) G dL_refusesAny_174 (by decide) ?_
    refine j_bipush G dL_refusesAny_178 (v := 99) rfl ?_
    refine jn_set (r0 := (-1)) G dL_refusesAny_180 (goodIn_up _ gvX4_set) ⟨by decide, by decide⟩ (Nat.le_of_ble_eq_true rfl) ⟨Nat.zero_le _, Nat.zero_le _⟩ (by exact hI) (by exact hsz) (by omega) (by omega) (by unfold F_set; rw [if_neg (by omega)]) (by omega) (fun e_7 => ?_)
    refine j_iconst G dL_refusesAny_183 (v := (-1)) rfl ?_
    refine j_icmp_ne (tgt := 481) G dL_refusesAny_184 (by decide) (by omega) (by omega) (fun c184 => absurd c184 (by omega)) (fun c184 => ?_)
    refine j_aload_n G 3 dL_refusesAny_187 rfl ?_
    refine j_iconst G dL_refusesAny_188 (v := 0) rfl ?_
    refine j_iload_n G 4 dL_refusesAny_189 rfl ?_
    refine j_iconst G dL_refusesAny_190 (v := 2) rfl ?_
    refine j_irem G dL_refusesAny_191 (by omega) (by omega) ?_
    refine j_if_ne (tgt := 199) G dL_refusesAny_192 (by decide) (by omega) (fun c192 => absurd c192 (by omega)) (fun c192 => ?_)
    refine j_iconst G dL_refusesAny_195 (v := 0) rfl ?_
    refine j_goto (tgt := 201) G dL_refusesAny_196 (by decide) ?_
    refine jn_set (r0 := (-2)) G dL_refusesAny_201 (goodIn_up _ gvX4_set) ⟨by decide, by decide⟩ (Nat.le_of_ble_eq_true rfl) ⟨Nat.zero_le _, Nat.zero_le _⟩ (by exact hI) (by exact hsz) (by omega) (by omega) (by unfold F_set; rw [if_pos (by omega), if_neg (by decide)]) (by omega) (fun e_8 => ?_)
    refine j_bipush G dL_refusesAny_204 (v := (-2)) rfl ?_
    refine j_icmp_ne (tgt := 481) G dL_refusesAny_206 (by decide) (by omega) (by omega) (fun c206 => absurd c206 (by omega)) (fun c206 => ?_)
    refine j_aload_n G 3 dL_refusesAny_209 rfl ?_
    refine j_iconst G dL_refusesAny_210 (v := 1) rfl ?_
    refine j_iload_n G 4 dL_refusesAny_211 rfl ?_
    refine j_iconst G dL_refusesAny_212 (v := 2) rfl ?_
    refine j_irem G dL_refusesAny_213 (by omega) (by omega) ?_
    refine j_if_ne (tgt := 221) G dL_refusesAny_214 (by decide) (by omega) (fun c214 => absurd c214 (by omega)) (fun c214 => ?_)
    refine j_iconst G dL_refusesAny_217 (v := (-1)) rfl ?_
    refine j_goto (tgt := 222) G dL_refusesAny_218 (by decide) ?_
    refine jn_set (r0 := (-2)) G dL_refusesAny_222 (goodIn_up _ gvX4_set) ⟨by decide, by decide⟩ (Nat.le_of_ble_eq_true rfl) ⟨Nat.zero_le _, Nat.zero_le _⟩ (by exact hI) (by exact hsz) (by omega) (by omega) (by unfold F_set; rw [if_pos (by omega), if_neg (by decide)]) (by omega) (fun e_9 => ?_)
    refine j_bipush G dL_refusesAny_225 (v := (-2)) rfl ?_
    refine j_icmp_ne (tgt := 481) G dL_refusesAny_227 (by decide) (by omega) (by omega) (fun c227 => absurd c227 (by omega)) (fun c227 => ?_)
    refine j_aload_n G 3 dL_refusesAny_230 rfl ?_
    refine j_iconst G dL_refusesAny_231 (v := 2) rfl ?_
    refine j_iload_n G 4 dL_refusesAny_232 rfl ?_
    refine j_iconst G dL_refusesAny_233 (v := 2) rfl ?_
    refine j_irem G dL_refusesAny_234 (by omega) (by omega) ?_
    refine j_if_ne (tgt := 242) G dL_refusesAny_235 (by decide) (by omega) (fun c235 => absurd c235 (by omega)) (fun c235 => ?_)
    refine j_iconst G dL_refusesAny_238 (v := 0) rfl ?_
    refine j_goto (tgt := 244) G dL_refusesAny_239 (by decide) ?_
    refine jn_set (r0 := (-2)) G dL_refusesAny_244 (goodIn_up _ gvX4_set) ⟨by decide, by decide⟩ (Nat.le_of_ble_eq_true rfl) ⟨Nat.zero_le _, Nat.zero_le _⟩ (by exact hI) (by exact hsz) (by omega) (by omega) (by unfold F_set; rw [if_pos (by omega), if_neg (by decide)]) (by omega) (fun e_10 => ?_)
    refine j_bipush G dL_refusesAny_247 (v := (-2)) rfl ?_
    refine j_icmp_ne (tgt := 481) G dL_refusesAny_249 (by decide) (by omega) (by omega) (fun c249 => absurd c249 (by omega)) (fun c249 => ?_)
    refine j_aload_n G 3 dL_refusesAny_252 rfl ?_
    refine j_iload_n G 4 dL_refusesAny_253 rfl ?_
    refine j_iconst G dL_refusesAny_254 (v := 3) rfl ?_
    refine j_irem G dL_refusesAny_255 (by omega) (by omega) ?_
    refine j_aload_n G 3 dL_refusesAny_256 rfl ?_
    refine j_bipush G dL_refusesAny_257 (v := 12) rfl ?_
    refine j_iload_n G 4 dL_refusesAny_259 rfl ?_
    refine j_iconst G dL_refusesAny_260 (v := 3) rfl ?_
    refine j_irem G dL_refusesAny_261 (by omega) (by omega) ?_
    refine j_iadd G dL_refusesAny_262 ?_
    refine jo_count (r0 := z (x % 3)) G dL_refusesAny_263 (goodIn_up _ gvX4_count) ⟨by decide, by decide⟩ (Nat.le_of_ble_eq_true rfl) ⟨Nat.zero_le _, Nat.zero_le _⟩ (by exact hI) (by omega) (by exact count_set (by omega)) (fun e_11 => ?_)
    have f263 := set_in hI (i := x % 3) (by omega)
    have f263b := sLo_b (x % 3)
    have f263c := sHi_b (x % 3)
    refine jn_set (r0 := (-5)) G dL_refusesAny_266 (goodIn_up _ gvX4_set) ⟨by decide, by decide⟩ (Nat.le_of_ble_eq_true rfl) ⟨Nat.zero_le _, Nat.zero_le _⟩ (by exact hI) (by exact hsz) (by omega) (by omega) (by unfold F_set; rw [if_pos (by omega), if_pos f263, if_pos rfl]) (by omega) (fun e_12 => ?_)
    refine j_bipush G dL_refusesAny_269 (v := (-5)) rfl ?_
    refine j_icmp_ne (tgt := 481) G dL_refusesAny_271 (by decide) (by omega) (by omega) (fun c271 => absurd c271 (by omega)) (fun c271 => ?_)
    refine j_aload_n G 3 dL_refusesAny_274 rfl ?_
    refine j_iload_n G 1 dL_refusesAny_275 rfl ?_
    refine j_iconst G dL_refusesAny_276 (v := 0) rfl ?_
    refine jn_go (r0 := (-1)) G dL_refusesAny_277 (goodIn_up _ gvX4_go) ⟨by decide, by decide⟩ (Nat.le_of_ble_eq_true rfl) ⟨Nat.zero_le _, Nat.zero_le _⟩ (by exact hI) (by exact hsz) (by omega) (by omega) (by unfold F_go; rw [if_neg (by omega)]) (by omega) (fun e_13 => ?_)
    refine j_iconst G dL_refusesAny_280 (v := (-1)) rfl ?_
    refine j_icmp_ne (tgt := 481) G dL_refusesAny_281 (by decide) (by omega) (by omega) (fun c281 => absurd c281 (by omega)) (fun c281 => ?_)
    refine j_aload_n G 3 dL_refusesAny_284 rfl ?_
    refine j_iconst G dL_refusesAny_285 (v := 0) rfl ?_
    refine j_iload_n G 2 dL_refusesAny_286 rfl ?_
    refine jn_go (r0 := (-1)) G dL_refusesAny_287 (goodIn_up _ gvX4_go) ⟨by decide, by decide⟩ (Nat.le_of_ble_eq_true rfl) ⟨Nat.zero_le _, Nat.zero_le _⟩ (by exact hI) (by exact hsz) (by omega) (by omega) (by unfold F_go; rw [if_neg (by omega)]) (by omega) (fun e_14 => ?_)
    refine j_iconst G dL_refusesAny_290 (v := (-1)) rfl ?_
    refine j_icmp_ne (tgt := 481) G dL_refusesAny_291 (by decide) (by omega) (by omega) (fun c291 => absurd c291 (by omega)) (fun c291 => ?_)
    refine j_aload_n G 3 dL_refusesAny_294 rfl ?_
    refine j_iload_n G 4 dL_refusesAny_295 rfl ?_
    refine j_iconst G dL_refusesAny_296 (v := 3) rfl ?_
    refine j_irem G dL_refusesAny_297 (by omega) (by omega) ?_
    refine j_aload_n G 3 dL_refusesAny_298 rfl ?_
    refine j_iload_n G 4 dL_refusesAny_299 rfl ?_
    refine j_iconst G dL_refusesAny_300 (v := 3) rfl ?_
    refine j_irem G dL_refusesAny_301 (by omega) (by omega) ?_
    refine j_iconst G dL_refusesAny_302 (v := 0) rfl ?_
    refine jo_crew (r0 := z (15 + 4 * (x % 3))) G dL_refusesAny_303 (goodIn_up _ gvX4_crew) ⟨by decide, by decide⟩ (Nat.le_of_ble_eq_true rfl) ⟨Nat.zero_le _, Nat.zero_le _⟩ (by exact hI) (by omega) (by omega) (by exact fc0 (by omega)) (fun e_15 => ?_)
    have f303_ := bc0 hI (k := (x % 3)) (by omega)
    have f303b := bc1 hI (k := x % 3) (by omega)
    refine jn_go (r0 := (-5)) G dL_refusesAny_306 (goodIn_up _ gvX4_go) ⟨by decide, by decide⟩ (Nat.le_of_ble_eq_true rfl) ⟨Nat.zero_le _, Nat.zero_le _⟩ (by exact hI) (by exact hsz) (by omega) (by omega) (by unfold F_go; rw [if_pos (by omega), if_neg (by rw [zWay_0 rfl]; omega), if_pos rfl]) (by omega) (fun e_16 => ?_)
    refine j_bipush G dL_refusesAny_309 (v := (-5)) rfl ?_
    refine j_icmp_ne (tgt := 481) G dL_refusesAny_311 (by decide) (by omega) (by omega) (fun c311 => absurd c311 (by omega)) (fun c311 => ?_)
    refine j_aload_n G 3 dL_refusesAny_314 rfl ?_
    refine j_iload_n G 1 dL_refusesAny_315 rfl ?_
    refine jn_fell (r0 := (-1)) G dL_refusesAny_316 (goodIn_up _ gvX4_fell) ⟨by decide, by decide⟩ (Nat.le_of_ble_eq_true rfl) ⟨Nat.zero_le _, Nat.zero_le _⟩ (by exact hI) (by exact hsz) (by omega) (by unfold F_fell; rw [if_neg (by omega)]) (by omega) (fun e_17 => ?_)
    refine j_iconst G dL_refusesAny_319 (v := (-1)) rfl ?_
    refine j_icmp_ne (tgt := 481) G dL_refusesAny_320 (by decide) (by omega) (by omega) (fun c320 => absurd c320 (by omega)) (fun c320 => ?_)
    have lp348 : ∀ (e348 : oE), J x_ 0 0 (oW Y h ad aq e348 z zs ik sz S) 348 [(0, .ref h), (1, .int (jI x)), (2, .int (jI ((-1) - (x % 99)))), (3, .int (jI ((-1) - (x % 99)))), (4, .int (jI ((-1) - (x % 99))))] [] := by
      intro e348
      have lp387 : ∀ (e387 : oE), J x_ 0 0 (oW Y h ad aq e387 z zs ik sz S) 387 [(0, .ref h), (1, .int (jI x)), (2, .int (jI ((-1) - (x % 99)))), (3, .int (jI ((-1) - (x % 99)))), (4, .int (jI ((-1) - (x % 99))))] [] := by
        intro e387
        refine j_aload_n G 0 dL_refusesAny_387 rfl ?_
        refine j_iload G 4 dL_refusesAny_388 rfl ?_
        refine j_bipush G dL_refusesAny_390 (v := 9) rfl ?_
        refine jn_hint (r0 := (-1)) G dL_refusesAny_392 (goodIn_up _ gvX4_hint) ⟨by decide, by decide⟩ (Nat.le_of_ble_eq_true rfl) ⟨Nat.zero_le _, Nat.zero_le _⟩ (by exact hI) (by exact hsz) (by omega) (by omega) (by unfold F_hint; rw [if_neg (by omega)]) (by omega) (fun e_18 => ?_)
        refine j_iconst G dL_refusesAny_395 (v := (-1)) rfl ?_
        refine j_icmp_ne (tgt := 481) G dL_refusesAny_396 (by decide) (by omega) (by omega) (fun c396 => absurd c396 (by omega)) (fun c396 => ?_)
        refine j_aload_n G 0 dL_refusesAny_399 rfl ?_
        refine j_iconst G dL_refusesAny_400 (v := 0) rfl ?_
        refine j_iload G 4 dL_refusesAny_401 rfl ?_
        refine jn_hint (r0 := (-2)) G dL_refusesAny_403 (goodIn_up _ gvX4_hint) ⟨by decide, by decide⟩ (Nat.le_of_ble_eq_true rfl) ⟨Nat.zero_le _, Nat.zero_le _⟩ (by exact hI) (by exact hsz) (by omega) (by omega) (by unfold F_hint; rw [if_pos (by omega), if_neg (by omega)]) (by omega) (fun e_19 => ?_)
        refine j_bipush G dL_refusesAny_406 (v := (-2)) rfl ?_
        refine j_icmp_ne (tgt := 481) G dL_refusesAny_408 (by decide) (by omega) (by omega) (fun c408 => absurd c408 (by omega)) (fun c408 => ?_)
        have lp449 : ∀ (e449 : oE), J x_ 0 0 (oW Y h ad aq e449 z zs ik sz S) 449 [(0, .ref h), (1, .int (jI x)), (2, .int (jI ((-1) - (x % 99)))), (3, .int (jI ((-1) - (x % 99)))), (4, .int (jI ((-1) - (x % 99))))] [] := by
          intro e449
          refine j_aload_n G 0 dL_refusesAny_449 rfl ?_
          refine j_iload G 4 dL_refusesAny_450 rfl ?_
          refine jn_takeBack (r0 := (-1)) G dL_refusesAny_452 (goodIn_up _ gvX4_takeBack) ⟨by decide, by decide⟩ (Nat.le_of_ble_eq_true rfl) ⟨Nat.zero_le _, Nat.zero_le _⟩ (by exact hI) (by exact hsz) (by omega) (by unfold F_back; rw [if_neg (by omega)]) (by omega) (fun e_20 => ?_)
          refine j_iconst G dL_refusesAny_455 (v := (-1)) rfl ?_
          refine j_icmp_ne (tgt := 481) G dL_refusesAny_456 (by decide) (by omega) (by omega) (fun c456 => absurd c456 (by omega)) (fun c456 => ?_)
          have lp477 : ∀ (e477 : oE), J x_ 0 0 (oW Y h ad aq e477 z zs ik sz S) 477 [(0, .ref h), (1, .int (jI x)), (2, .int (jI ((-1) - (x % 99)))), (3, .int (jI ((-1) - (x % 99)))), (4, .int (jI ((-1) - (x % 99))))] [] := by
            intro e477
            refine j_iconst G dL_refusesAny_477 (v := 1) rfl ?_
            refine j_goto (tgt := 482) G dL_refusesAny_478 (by decide) ?_
            refine j_istore (lv' := [(5, .int (jI 1)), (0, .ref h), (1, .int (jI x)), (2, .int (jI ((-1) - (x % 99)))), (3, .int (jI ((-1) - (x % 99)))), (4, .int (jI ((-1) - (x % 99))))]) G dL_refusesAny_482 (by decide) rfl ?_
            refine j_iload G 0 dL_refusesAny_484 rfl ?_
            refine j_if_eq (tgt := 695) G dL_refusesAny_486 (by decide) (by omega) (fun c486 => absurd c486 (by omega)) (fun c486 => ?_)
            refine j_aload_n G 1 dL_refusesAny_489 rfl ?_
            refine j_iload_n G 3 dL_refusesAny_490 rfl ?_
            refine j_bipush G dL_refusesAny_491 (v := 9) rfl ?_
            refine jo_plot (r0 := (-1)) G dL_refusesAny_493 (goodIn_up _ gvX4_plot) ⟨by decide, by decide⟩ (Nat.le_of_ble_eq_true rfl) ⟨Nat.zero_le _, Nat.zero_le _⟩ (by exact hI) (by omega) (by omega) (by unfold F_plot; rw [if_neg (by omega)]) (fun e_21 => ?_)
            refine j_iconst G dL_refusesAny_496 (v := (-1)) rfl ?_
            refine j_icmp_ne (tgt := 695) G dL_refusesAny_497 (by decide) (by omega) (by omega) (fun c497 => absurd c497 (by omega)) (fun c497 => ?_)
            refine j_aload_n G 1 dL_refusesAny_500 rfl ?_
            refine j_iconst G dL_refusesAny_501 (v := 0) rfl ?_
            refine j_iload_n G 2 dL_refusesAny_502 rfl ?_
            refine j_iconst G dL_refusesAny_503 (v := 2) rfl ?_
            refine j_irem G dL_refusesAny_504 (by omega) (by omega) ?_
            refine j_if_ne (tgt := 512) G dL_refusesAny_505 (by decide) (by omega) (fun c505 => absurd c505 (by omega)) (fun c505 => ?_)
            refine j_iconst G dL_refusesAny_508 (v := (-1)) rfl ?_
            refine j_goto (tgt := 514) G dL_refusesAny_509 (by decide) ?_
            refine jo_plot (r0 := (-2)) G dL_refusesAny_514 (goodIn_up _ gvX4_plot) ⟨by decide, by decide⟩ (Nat.le_of_ble_eq_true rfl) ⟨Nat.zero_le _, Nat.zero_le _⟩ (by exact hI) (by omega) (by omega) (by rfl) (fun e_22 => ?_)
            refine j_bipush G dL_refusesAny_517 (v := (-2)) rfl ?_
            refine j_icmp_ne (tgt := 695) G dL_refusesAny_519 (by decide) (by omega) (by omega) (fun c519 => absurd c519 (by omega)) (fun c519 => ?_)
            refine j_aload_n G 1 dL_refusesAny_522 rfl ?_
            refine j_iload_n G 4 dL_refusesAny_523 rfl ?_
            refine j_bipush G dL_refusesAny_524 (v := 9) rfl ?_
            refine jo_crew (r0 := (-1)) G dL_refusesAny_526 (goodIn_up _ gvX4_crew) ⟨by decide, by decide⟩ (Nat.le_of_ble_eq_true rfl) ⟨Nat.zero_le _, Nat.zero_le _⟩ (by exact hI) (by omega) (by omega) (by unfold F_crew; rw [if_neg (by omega)]) (fun e_23 => ?_)
            refine j_iconst G dL_refusesAny_529 (v := (-1)) rfl ?_
            refine j_icmp_ne (tgt := 695) G dL_refusesAny_530 (by decide) (by omega) (by omega) (fun c530 => absurd c530 (by omega)) (fun c530 => ?_)
            refine j_aload_n G 1 dL_refusesAny_533 rfl ?_
            refine j_iconst G dL_refusesAny_534 (v := 0) rfl ?_
            refine j_iload_n G 2 dL_refusesAny_535 rfl ?_
            refine j_iconst G dL_refusesAny_536 (v := 2) rfl ?_
            refine j_irem G dL_refusesAny_537 (by omega) (by omega) ?_
            refine j_if_ne (tgt := 545) G dL_refusesAny_538 (by decide) (by omega) (fun c538 => absurd c538 (by omega)) (fun c538 => ?_)
            refine j_iconst G dL_refusesAny_541 (v := (-1)) rfl ?_
            refine j_goto (tgt := 546) G dL_refusesAny_542 (by decide) ?_
            refine jo_crew (r0 := (-2)) G dL_refusesAny_546 (goodIn_up _ gvX4_crew) ⟨by decide, by decide⟩ (Nat.le_of_ble_eq_true rfl) ⟨Nat.zero_le _, Nat.zero_le _⟩ (by exact hI) (by omega) (by omega) (by rfl) (fun e_24 => ?_)
            refine j_bipush G dL_refusesAny_549 (v := (-2)) rfl ?_
            refine j_icmp_ne (tgt := 695) G dL_refusesAny_551 (by decide) (by omega) (by omega) (fun c551 => absurd c551 (by omega)) (fun c551 => ?_)
            refine j_aload_n G 1 dL_refusesAny_554 rfl ?_
            refine j_iload G 5 dL_refusesAny_555 rfl ?_
            refine j_bipush G dL_refusesAny_557 (v := 9) rfl ?_
            refine jo_row (r0 := (-1)) G dL_refusesAny_559 (goodIn_up _ gvX4_row) ⟨by decide, by decide⟩ (Nat.le_of_ble_eq_true rfl) ⟨Nat.zero_le _, Nat.zero_le _⟩ (by exact hI) (by omega) (by omega) (by unfold F_row; rw [if_neg (by omega)]) (fun e_25 => ?_)
            refine j_iconst G dL_refusesAny_562 (v := (-1)) rfl ?_
            refine j_icmp_ne (tgt := 695) G dL_refusesAny_563 (by decide) (by omega) (by omega) (fun c563 => absurd c563 (by omega)) (fun c563 => ?_)
            refine j_aload_n G 1 dL_refusesAny_566 rfl ?_
            refine j_iconst G dL_refusesAny_567 (v := 0) rfl ?_
            refine j_iload_n G 2 dL_refusesAny_568 rfl ?_
            refine j_iconst G dL_refusesAny_569 (v := 2) rfl ?_
            refine j_irem G dL_refusesAny_570 (by omega) (by omega) ?_
            refine j_if_ne (tgt := 578) G dL_refusesAny_571 (by decide) (by omega) (fun c571 => absurd c571 (by omega)) (fun c571 => ?_)
            refine j_iconst G dL_refusesAny_574 (v := (-1)) rfl ?_
            refine j_goto (tgt := 579) G dL_refusesAny_575 (by decide) ?_
            refine jo_row (r0 := (-2)) G dL_refusesAny_579 (goodIn_up _ gvX4_row) ⟨by decide, by decide⟩ (Nat.le_of_ble_eq_true rfl) ⟨Nat.zero_le _, Nat.zero_le _⟩ (by exact hI) (by omega) (by omega) (by rfl) (fun e_26 => ?_)
            refine j_bipush G dL_refusesAny_582 (v := (-2)) rfl ?_
            refine j_icmp_ne (tgt := 695) G dL_refusesAny_584 (by decide) (by omega) (by omega) (fun c584 => absurd c584 (by omega)) (fun c584 => ?_)
            refine j_aload_n G 1 dL_refusesAny_587 rfl ?_
            refine j_iload_n G 4 dL_refusesAny_588 rfl ?_
            refine j_iconst G dL_refusesAny_589 (v := 0) rfl ?_
            refine jo_way (r0 := (-1)) G dL_refusesAny_590 (goodIn_up _ gvX4_way) ⟨by decide, by decide⟩ (Nat.le_of_ble_eq_true rfl) ⟨Nat.zero_le _, Nat.zero_le _⟩ (by exact hI) (by omega) (by omega) (by unfold F_way; rw [if_neg (by omega)]) (fun e_27 => ?_)
            refine j_iconst G dL_refusesAny_593 (v := (-1)) rfl ?_
            refine j_icmp_ne (tgt := 695) G dL_refusesAny_594 (by decide) (by omega) (by omega) (fun c594 => absurd c594 (by omega)) (fun c594 => ?_)
            refine j_aload_n G 1 dL_refusesAny_597 rfl ?_
            refine j_iconst G dL_refusesAny_598 (v := 0) rfl ?_
            refine j_iload_n G 3 dL_refusesAny_599 rfl ?_
            refine jo_way (r0 := (-1)) G dL_refusesAny_600 (goodIn_up _ gvX4_way) ⟨by decide, by decide⟩ (Nat.le_of_ble_eq_true rfl) ⟨Nat.zero_le _, Nat.zero_le _⟩ (by exact hI) (by omega) (by omega) (by unfold F_way; rw [if_neg (by omega)]) (fun e_28 => ?_)
            refine j_iconst G dL_refusesAny_603 (v := (-1)) rfl ?_
            refine j_icmp_ne (tgt := 695) G dL_refusesAny_604 (by decide) (by omega) (by omega) (fun c604 => absurd c604 (by omega)) (fun c604 => ?_)
            refine j_aload_n G 1 dL_refusesAny_607 rfl ?_
            refine j_iload_n G 4 dL_refusesAny_608 rfl ?_
            refine j_iconst G dL_refusesAny_609 (v := 0) rfl ?_
            refine jo_reason (r0 := (-1)) G dL_refusesAny_610 (goodIn_up _ gvX4_reason) ⟨by decide, by decide⟩ (Nat.le_of_ble_eq_true rfl) ⟨Nat.zero_le _, Nat.zero_le _⟩ (by exact hI) (by omega) (by omega) (by unfold F_reason; rw [if_neg (by omega)]) (fun e_29 => ?_)
            refine j_iconst G dL_refusesAny_613 (v := (-1)) rfl ?_
            refine j_icmp_ne (tgt := 695) G dL_refusesAny_614 (by decide) (by omega) (by omega) (fun c614 => absurd c614 (by omega)) (fun c614 => ?_)
            refine j_aload_n G 1 dL_refusesAny_617 rfl ?_
            refine j_iconst G dL_refusesAny_618 (v := 0) rfl ?_
            refine j_iload_n G 3 dL_refusesAny_619 rfl ?_
            refine jo_reason (r0 := (-1)) G dL_refusesAny_620 (goodIn_up _ gvX4_reason) ⟨by decide, by decide⟩ (Nat.le_of_ble_eq_true rfl) ⟨Nat.zero_le _, Nat.zero_le _⟩ (by exact hI) (by omega) (by omega) (by unfold F_reason; rw [if_neg (by omega)]) (fun e_30 => ?_)
            refine j_iconst G dL_refusesAny_623 (v := (-1)) rfl ?_
            refine j_icmp_ne (tgt := 695) G dL_refusesAny_624 (by decide) (by omega) (by omega) (fun c624 => absurd c624 (by omega)) (fun c624 => ?_)
            refine j_aload_n G 1 dL_refusesAny_627 rfl ?_
            refine j_iload_n G 4 dL_refusesAny_628 rfl ?_
            refine jo_best (r0 := (-1)) G dL_refusesAny_629 (goodIn_up _ gvX4_best) ⟨by decide, by decide⟩ (Nat.le_of_ble_eq_true rfl) ⟨Nat.zero_le _, Nat.zero_le _⟩ (by exact hI) (by omega) (by unfold F_best; rw [if_neg (by omega)]) (fun e_31 => ?_)
            refine j_iconst G dL_refusesAny_632 (v := (-1)) rfl ?_
            refine j_icmp_ne (tgt := 695) G dL_refusesAny_633 (by decide) (by omega) (by omega) (fun c633 => absurd c633 (by omega)) (fun c633 => ?_)
            refine j_aload_n G 1 dL_refusesAny_636 rfl ?_
            refine j_iload G 5 dL_refusesAny_637 rfl ?_
            refine j_bipush G dL_refusesAny_639 (v := 9) rfl ?_
            refine jo_ifTold (r0 := (-1)) G dL_refusesAny_641 (goodIn_up _ gvX4_ifTold) ⟨by decide, by decide⟩ (Nat.le_of_ble_eq_true rfl) ⟨Nat.zero_le _, Nat.zero_le _⟩ (by exact hI) (by omega) (by omega) (by unfold F_told; rw [if_neg (by omega)]) (fun e_32 => ?_)
            refine j_iconst G dL_refusesAny_644 (v := (-1)) rfl ?_
            refine j_icmp_ne (tgt := 695) G dL_refusesAny_645 (by decide) (by omega) (by omega) (fun c645 => absurd c645 (by omega)) (fun c645 => ?_)
            refine j_aload_n G 1 dL_refusesAny_648 rfl ?_
            refine j_iconst G dL_refusesAny_649 (v := 0) rfl ?_
            refine j_iload G 5 dL_refusesAny_650 rfl ?_
            refine jo_ifTold (r0 := (-2)) G dL_refusesAny_652 (goodIn_up _ gvX4_ifTold) ⟨by decide, by decide⟩ (Nat.le_of_ble_eq_true rfl) ⟨Nat.zero_le _, Nat.zero_le _⟩ (by exact hI) (by omega) (by omega) (by unfold F_told; rw [if_pos (by omega), if_neg (by omega)]) (fun e_33 => ?_)
            refine j_bipush G dL_refusesAny_655 (v := (-2)) rfl ?_
            refine j_icmp_ne (tgt := 695) G dL_refusesAny_657 (by decide) (by omega) (by omega) (fun c657 => absurd c657 (by omega)) (fun c657 => ?_)
            refine j_aload_n G 1 dL_refusesAny_660 rfl ?_
            refine j_iload_n G 2 dL_refusesAny_661 rfl ?_
            refine j_iconst G dL_refusesAny_662 (v := 2) rfl ?_
            refine j_irem G dL_refusesAny_663 (by omega) (by omega) ?_
            refine j_if_ne (tgt := 671) G dL_refusesAny_664 (by decide) (by omega) (fun c664 => absurd c664 (by omega)) (fun c664 => ?_)
            refine j_iconst G dL_refusesAny_667 (v := (-1)) rfl ?_
            refine j_goto (tgt := 673) G dL_refusesAny_668 (by decide) ?_
            refine jo_count (r0 := (-2)) G dL_refusesAny_673 (goodIn_up _ gvX4_count) ⟨by decide, by decide⟩ (Nat.le_of_ble_eq_true rfl) ⟨Nat.zero_le _, Nat.zero_le _⟩ (by exact hI) (by omega) (by rfl) (fun e_34 => ?_)
            refine j_bipush G dL_refusesAny_676 (v := (-2)) rfl ?_
            refine j_icmp_ne (tgt := 695) G dL_refusesAny_678 (by decide) (by omega) (by omega) (fun c678 => absurd c678 (by omega)) (fun c678 => ?_)
            refine j_aload_n G 1 dL_refusesAny_681 rfl ?_
            refine j_iconst G dL_refusesAny_682 (v := 2) rfl ?_
            refine jo_stopped (r0 := (-2)) G dL_refusesAny_683 (goodIn_up _ gvX4_stopped) ⟨by decide, by decide⟩ (Nat.le_of_ble_eq_true rfl) ⟨Nat.zero_le _, Nat.zero_le _⟩ (by omega) (by rfl) (fun e_35 => ?_)
            refine j_bipush G dL_refusesAny_686 (v := (-2)) rfl ?_
            refine j_icmp_ne (tgt := 695) G dL_refusesAny_688 (by decide) (by omega) (by omega) (fun c688 => absurd c688 (by omega)) (fun c688 => ?_)
            refine j_iconst G dL_refusesAny_691 (v := 1) rfl ?_
            refine j_goto (tgt := 696) G dL_refusesAny_692 (by decide) ?_
            refine j_istore (lv' := [(5, .int (jI 1)), (0, .ref h), (1, .int (jI x)), (2, .int (jI ((-1) - (x % 99)))), (3, .int (jI ((-1) - (x % 99)))), (4, .int (jI ((-1) - (x % 99))))]) G dL_refusesAny_696 (by decide) rfl ?_
            refine j_iload G 0 dL_refusesAny_698 rfl ?_
            refine j_if_eq (tgt := 723) G dL_refusesAny_700 (by decide) (by omega) (fun c700 => absurd c700 (by omega)) (fun c700 => ?_)
            refine j_aload_n G 1 dL_refusesAny_703 rfl ?_
            refine jo_clearText (r0 := 0) G dL_refusesAny_704 (goodIn_up _ gvX4_clearText) ⟨by decide, by decide⟩ (Nat.le_of_ble_eq_true rfl) ⟨Nat.zero_le _, Nat.zero_le _⟩  (by rfl) (fun e_36 => ?_)
            refine j_if_ne (tgt := 723) G dL_refusesAny_707 (by decide) (by omega) (fun c707 => absurd c707 (by omega)) (fun c707 => ?_)
            refine j_aload_n G 1 dL_refusesAny_710 rfl ?_
            refine jn_perform G dL_refusesAny_711 (goodIn_up _ gvX4_perform) ⟨by decide, by decide⟩ (Nat.le_of_ble_eq_true rfl) ⟨Nat.zero_le _, Nat.zero_le _⟩ (by exact hI) (by exact hsz) (fun e_37 => ?_)
            refine j_bipush G dL_refusesAny_714 (v := (-100)) rfl ?_
            refine j_icmp_ne (tgt := 723) G dL_refusesAny_716 (by decide) (by omega) (by omega) (fun c716 => absurd c716 (by omega)) (fun c716 => ?_)
            refine j_iconst G dL_refusesAny_719 (v := 1) rfl ?_
            refine j_goto (tgt := 724) G dL_refusesAny_720 (by decide) ?_
            exact j_reti (r := 1) G dL_refusesAny_724 (by rfl) (jLe.rf _) (kr0 _ _ ⟨e_37, rfl, rfl⟩)
          refine j_aload_n G 0 dL_refusesAny_459 rfl ?_
          refine j_iconst G dL_refusesAny_460 (v := 5) rfl ?_
          refine jo_count (r0 := pAll (tZ z)) G dL_refusesAny_461 (goodIn_up _ gvX4_count) ⟨by decide, by decide⟩ (Nat.le_of_ble_eq_true rfl) ⟨Nat.zero_le _, Nat.zero_le _⟩ (by exact hI) (by omega) (by rfl) (fun e_38 => ?_)
          have f461_ := bn5 hI
          refine j_iconst G dL_refusesAny_464 (v := 1) rfl ?_
          refine j_icmp_eq (tgt := 477) G dL_refusesAny_465 (by decide) (by omega) (by omega) (fun c465 => ?_) (fun c465 => ?_)
          · exact lp477 e_38
          · refine j_aload_n G 0 dL_refusesAny_468 rfl ?_
            refine jn_storm (r0 := (-4)) G dL_refusesAny_469 (goodIn_up _ gvX4_storm) ⟨by decide, by decide⟩ (Nat.le_of_ble_eq_true rfl) ⟨Nat.zero_le _, Nat.zero_le _⟩ (by exact hI) (by exact hsz) (by unfold F_storm; rw [if_pos (by omega)]) (by omega) (fun e_39 => ?_)
            refine j_bipush G dL_refusesAny_472 (v := (-4)) rfl ?_
            refine j_icmp_ne (tgt := 481) G dL_refusesAny_474 (by decide) (by omega) (by omega) (fun c474 => absurd c474 (by omega)) (fun c474 => ?_)
            exact lp477 e_39
        refine j_aload_n G 0 dL_refusesAny_411 rfl ?_
        refine j_iconst G dL_refusesAny_412 (v := 0) rfl ?_
        refine j_iconst G dL_refusesAny_413 (v := 0) rfl ?_
        refine jo_row (r0 := z (7 + 0)) G dL_refusesAny_414 (goodIn_up _ gvX4_row) ⟨by decide, by decide⟩ (Nat.le_of_ble_eq_true rfl) ⟨Nat.zero_le _, Nat.zero_le _⟩ (by exact hI) (by omega) (by omega) (by exact fr0 (by omega)) (fun e_40 => ?_)
        have f414_ := br0 hI (r := 0) (by omega)
        refine j_if_ge (tgt := 433) G dL_refusesAny_417 (by decide) (by omega) (fun c417 => ?_) (fun c417 => ?_)
        · refine j_aload_n G 0 dL_refusesAny_433 rfl ?_
          refine j_iconst G dL_refusesAny_434 (v := 0) rfl ?_
          refine j_aload_n G 0 dL_refusesAny_435 rfl ?_
          refine j_iconst G dL_refusesAny_436 (v := 0) rfl ?_
          refine j_iconst G dL_refusesAny_437 (v := 0) rfl ?_
          refine jo_row (r0 := z (7 + 0)) G dL_refusesAny_438 (goodIn_up _ gvX4_row) ⟨by decide, by decide⟩ (Nat.le_of_ble_eq_true rfl) ⟨Nat.zero_le _, Nat.zero_le _⟩ (by exact hI) (by omega) (by omega) (by exact fr0 (by omega)) (fun e_41 => ?_)
          have f438_ := br0 hI (r := 0) (by omega)
          refine jn_hint (r0 := (-4)) G dL_refusesAny_441 (goodIn_up _ gvX4_hint) ⟨by decide, by decide⟩ (Nat.le_of_ble_eq_true rfl) ⟨Nat.zero_le _, Nat.zero_le _⟩ (by exact hI) (by exact hsz) (by omega) (by omega) (by unfold F_hint; rw [if_pos (by omega), if_pos (by omega), if_pos (Or.inl (by omega))]) (by omega) (fun e_42 => ?_)
          refine j_bipush G dL_refusesAny_444 (v := (-4)) rfl ?_
          refine j_icmp_ne (tgt := 481) G dL_refusesAny_446 (by decide) (by omega) (by omega) (fun c446 => absurd c446 (by omega)) (fun c446 => ?_)
          exact lp449 e_42
        · refine j_aload_n G 0 dL_refusesAny_420 rfl ?_
          refine j_iconst G dL_refusesAny_421 (v := 0) rfl ?_
          refine jn_takeBack (r0 := (-5)) G dL_refusesAny_422 (goodIn_up _ gvX4_takeBack) ⟨by decide, by decide⟩ (Nat.le_of_ble_eq_true rfl) ⟨Nat.zero_le _, Nat.zero_le _⟩ (by exact hI) (by exact hsz) (by omega) (by unfold F_back; rw [if_pos (by omega), if_pos (by omega)]) (by omega) (fun e_43 => ?_)
          refine j_bipush G dL_refusesAny_425 (v := (-5)) rfl ?_
          refine j_icmp_ne (tgt := 481) G dL_refusesAny_427 (by decide) (by omega) (by omega) (fun c427 => absurd c427 (by omega)) (fun c427 => ?_)
          refine j_goto (tgt := 449) G dL_refusesAny_430 (by decide) ?_
          exact lp449 e_43
      refine j_aload_n G 0 dL_refusesAny_348 rfl ?_
      refine j_iconst G dL_refusesAny_349 (v := 0) rfl ?_
      refine j_iconst G dL_refusesAny_350 (v := 1) rfl ?_
      refine jo_crew (r0 := z (16 + 4 * 0)) G dL_refusesAny_351 (goodIn_up _ gvX4_crew) ⟨by decide, by decide⟩ (Nat.le_of_ble_eq_true rfl) ⟨Nat.zero_le _, Nat.zero_le _⟩ (by exact hI) (by omega) (by omega) (by exact fc1 (by omega)) (fun e_44 => ?_)
      have f351_ := bc1 hI (k := 0) (by omega)
      refine j_aload_n G 0 dL_refusesAny_354 rfl ?_
      refine j_bipush G dL_refusesAny_355 (v := 14) rfl ?_
      refine jo_count (r0 := z 2) G dL_refusesAny_357 (goodIn_up _ gvX4_count) ⟨by decide, by decide⟩ (Nat.le_of_ble_eq_true rfl) ⟨Nat.zero_le _, Nat.zero_le _⟩ (by exact hI) (by omega) (by rfl) (fun e_45 => ?_)
      have f357_ := hI.s2
      refine j_icmp_lt (tgt := 387) G dL_refusesAny_360 (by decide) (by omega) (by omega) (fun c360 => ?_) (fun c360 => ?_)
      · exact lp387 e_45
      · refine j_aload_n G 0 dL_refusesAny_363 rfl ?_
        refine j_aload_n G 0 dL_refusesAny_364 rfl ?_
        refine j_iconst G dL_refusesAny_365 (v := 0) rfl ?_
        refine j_iconst G dL_refusesAny_366 (v := 0) rfl ?_
        refine jo_crew (r0 := z (15 + 4 * 0)) G dL_refusesAny_367 (goodIn_up _ gvX4_crew) ⟨by decide, by decide⟩ (Nat.le_of_ble_eq_true rfl) ⟨Nat.zero_le _, Nat.zero_le _⟩ (by exact hI) (by omega) (by omega) (by exact fc0 (by omega)) (fun e_46 => ?_)
        have f367_ := bc0 hI (k := 0) (by omega)
        have f367 := bp0 hI (p := z (15 + 4 * 0)) (by omega)
        refine j_iconst G dL_refusesAny_370 (v := 0) rfl ?_
        refine jo_plot (r0 := z (28 + (z (15 + 4 * 0)))) G dL_refusesAny_371 (goodIn_up _ gvX4_plot) ⟨by decide, by decide⟩ (Nat.le_of_ble_eq_true rfl) ⟨Nat.zero_le _, Nat.zero_le _⟩ (by exact hI) (by omega) (by omega) (by exact fp0 (by omega)) (fun e_47 => ?_)
        have f371_ := bp0 hI (p := (z (15 + 4 * 0))) (by omega)
        refine j_if_gt (tgt := 387) G dL_refusesAny_374 (by decide) (by omega) (fun c374 => ?_) (fun c374 => ?_)
        · exact lp387 e_47
        · have f377 := bc1 hI (k := 0) (by omega)
          refine j_aload_n G 0 dL_refusesAny_377 rfl ?_
          refine j_iconst G dL_refusesAny_378 (v := 0) rfl ?_
          refine jn_fell (r0 := (-5)) G dL_refusesAny_379 (goodIn_up _ gvX4_fell) ⟨by decide, by decide⟩ (Nat.le_of_ble_eq_true rfl) ⟨Nat.zero_le _, Nat.zero_le _⟩ (by exact hI) (by exact hsz) (by omega) (by unfold F_fell; rw [if_pos (by omega), if_neg (by omega), if_pos (by omega)]) (by omega) (fun e_48 => ?_)
          refine j_bipush G dL_refusesAny_382 (v := (-5)) rfl ?_
          refine j_icmp_ne (tgt := 481) G dL_refusesAny_384 (by decide) (by omega) (by omega) (fun c384 => absurd c384 (by omega)) (fun c384 => ?_)
          exact lp387 e_48
    refine j_aload_n G 3 dL_refusesAny_323 rfl ?_
    refine j_iconst G dL_refusesAny_324 (v := 0) rfl ?_
    refine j_iconst G dL_refusesAny_325 (v := 1) rfl ?_
    refine jo_crew (r0 := z (16 + 4 * 0)) G dL_refusesAny_326 (goodIn_up _ gvX4_crew) ⟨by decide, by decide⟩ (Nat.le_of_ble_eq_true rfl) ⟨Nat.zero_le _, Nat.zero_le _⟩ (by exact hI) (by omega) (by omega) (by exact fc1 (by omega)) (fun e_49 => ?_)
    have f326_ := bc1 hI (k := 0) (by omega)
    refine j_aload_n G 3 dL_refusesAny_329 rfl ?_
    refine j_bipush G dL_refusesAny_330 (v := 14) rfl ?_
    refine jo_count (r0 := z 2) G dL_refusesAny_332 (goodIn_up _ gvX4_count) ⟨by decide, by decide⟩ (Nat.le_of_ble_eq_true rfl) ⟨Nat.zero_le _, Nat.zero_le _⟩ (by exact hI) (by omega) (by rfl) (fun e_50 => ?_)
    have f332_ := hI.s2
    refine j_icmp_ge (tgt := 348) G dL_refusesAny_335 (by decide) (by omega) (by omega) (fun c335 => ?_) (fun c335 => ?_)
    · refine j_lv [3, 4, 2, 1, 0] (lv' := [(0, .ref h), (1, .int (jI x)), (2, .int (jI ((-1) - (x % 99)))), (3, .int (jI ((-1) - (x % 99)))), (4, .int (jI ((-1) - (x % 99))))]) rfl ?_
      exact lp348 e_50
    · refine j_aload_n G 3 dL_refusesAny_338 rfl ?_
      refine j_iconst G dL_refusesAny_339 (v := 0) rfl ?_
      refine jn_fell (r0 := (-4)) G dL_refusesAny_340 (goodIn_up _ gvX4_fell) ⟨by decide, by decide⟩ (Nat.le_of_ble_eq_true rfl) ⟨Nat.zero_le _, Nat.zero_le _⟩ (by exact hI) (by exact hsz) (by omega) (by unfold F_fell; rw [if_pos (by omega), if_pos (by omega)]) (by omega) (fun e_51 => ?_)
      refine j_bipush G dL_refusesAny_343 (v := (-4)) rfl ?_
      refine j_icmp_ne (tgt := 481) G dL_refusesAny_345 (by decide) (by omega) (by omega) (fun c345 => absurd c345 (by omega)) (fun c345 => ?_)
      refine j_lv [3, 4, 2, 1, 0] (lv' := [(0, .ref h), (1, .int (jI x)), (2, .int (jI ((-1) - (x % 99)))), (3, .int (jI ((-1) - (x % 99)))), (4, .int (jI ((-1) - (x % 99))))]) rfl ?_
      exact lp348 e_51
  · refine j_iload_n G 1 dL_refusesAny_0 rfl ?_
    refine j_iconst G dL_refusesAny_1 (v := 2) rfl ?_
    refine j_irem G dL_refusesAny_2 (by omega) (by omega) ?_
    refine j_if_ne (tgt := 15) G dL_refusesAny_3 (by decide) (by omega) (fun c3 => ?_) (fun c3 => absurd c3 (by omega))
    refine j_bipush G dL_refusesAny_15 (v := 64) rfl ?_
    refine j_iload_n G 1 dL_refusesAny_17 rfl ?_
    refine j_bipush G dL_refusesAny_18 (v := 99) rfl ?_
    refine j_irem G dL_refusesAny_20 (by omega) (by omega) ?_
    refine j_iadd G dL_refusesAny_21 ?_
    refine j_istore_n (lv' := [(2, .int (jI (64 + (x % 99)))), (0, .ref h), (1, .int (jI x))]) G dL_refusesAny_22 (by decide) rfl ?_
    refine j_iload_n G 2 dL_refusesAny_23 rfl ?_
    refine j_iconst G dL_refusesAny_24 (v := 2) rfl ?_
    refine j_irem G dL_refusesAny_25 (by omega) (by omega) ?_
    refine j_if_ne (tgt := 38) G dL_refusesAny_26 (by decide) (by omega) (fun c26 => ?_) (fun c26 => absurd c26 (by omega))
    refine j_iconst G dL_refusesAny_38 (v := 3) rfl ?_
    refine j_iload_n G 2 dL_refusesAny_39 rfl ?_
    refine j_bipush G dL_refusesAny_40 (v := 99) rfl ?_
    refine j_irem G dL_refusesAny_42 (by omega) (by omega) ?_
    refine j_iadd G dL_refusesAny_43 ?_
    refine j_istore_n (lv' := [(3, .int (jI (3 + (x % 99)))), (2, .int (jI (64 + (x % 99)))), (0, .ref h), (1, .int (jI x))]) G dL_refusesAny_44 (by decide) rfl ?_
    refine j_iload_n G 3 dL_refusesAny_45 rfl ?_
    refine j_iconst G dL_refusesAny_46 (v := 2) rfl ?_
    refine j_irem G dL_refusesAny_47 (by omega) (by omega) ?_
    refine j_if_ne (tgt := 60) G dL_refusesAny_48 (by decide) (by omega) (fun c48 => ?_) (fun c48 => absurd c48 (by omega))
    refine j_bipush G dL_refusesAny_60 (v := 8) rfl ?_
    refine j_iload_n G 3 dL_refusesAny_62 rfl ?_
    refine j_bipush G dL_refusesAny_63 (v := 99) rfl ?_
    refine j_irem G dL_refusesAny_65 (by omega) (by omega) ?_
    refine j_iadd G dL_refusesAny_66 ?_
    refine j_istore (lv' := [(4, .int (jI (8 + (x % 99)))), (3, .int (jI (3 + (x % 99)))), (2, .int (jI (64 + (x % 99)))), (0, .ref h), (1, .int (jI x))]) G dL_refusesAny_67 (by decide) rfl ?_
    refine j_aload_n G 3 dL_refusesAny_69 rfl ?_
    refine j_iload_n G 2 dL_refusesAny_70 rfl ?_
    refine j_bipush G dL_refusesAny_71 (v := 100) rfl ?_
    refine jn_grow (r0 := (-1)) G dL_refusesAny_73 (goodIn_up _ gvX4_grow) ⟨by decide, by decide⟩ (Nat.le_of_ble_eq_true rfl) ⟨Nat.zero_le _, Nat.zero_le _⟩ (by exact hI) (by exact hsz) (by omega) (by omega) (by unfold F_grow; rw [if_neg (by omega)]) (by omega) (fun e_1 => ?_)
    refine j_iconst G dL_refusesAny_76 (v := (-1)) rfl ?_
    refine j_icmp_ne (tgt := 481) G dL_refusesAny_77 (by decide) (by omega) (by omega) (fun c77 => absurd c77 (by omega)) (fun c77 => ?_)
    refine j_aload_n G 3 dL_refusesAny_80 rfl ?_
    refine j_iconst G dL_refusesAny_81 (v := 0) rfl ?_
    refine j_iload_n G 4 dL_refusesAny_82 rfl ?_
    refine j_iconst G dL_refusesAny_83 (v := 2) rfl ?_
    refine j_irem G dL_refusesAny_84 (by omega) (by omega) ?_
    refine j_if_ne (tgt := 92) G dL_refusesAny_85 (by decide) (by omega) (fun c85 => ?_) (fun c85 => absurd c85 (by omega))
    refine j_bipush G dL_refusesAny_92 (v := 100) rfl ?_
    refine jn_grow (r0 := (-2)) G dL_refusesAny_94 (goodIn_up _ gvX4_grow) ⟨by decide, by decide⟩ (Nat.le_of_ble_eq_true rfl) ⟨Nat.zero_le _, Nat.zero_le _⟩ (by exact hI) (by exact hsz) (by omega) (by omega) (by unfold F_grow; rw [if_pos (by omega), if_neg (by omega)]) (by omega) (fun e_2 => ?_)
    refine j_bipush G dL_refusesAny_97 (v := (-2)) rfl ?_
    refine j_icmp_ne (tgt := 481) G dL_refusesAny_99 (by decide) (by omega) (by omega) (fun c99 => absurd c99 (by omega)) (fun c99 => ?_)
    refine j_aload_n G 3 dL_refusesAny_102 rfl ?_
    refine j_iload_n G 4 dL_refusesAny_103 rfl ?_
    refine j_bipush G dL_refusesAny_104 (v := 64) rfl ?_
    refine j_irem G dL_refusesAny_106 (by omega) (by omega) ?_
    refine j_aload_n G 3 dL_refusesAny_107 rfl ?_
    refine j_iload_n G 4 dL_refusesAny_108 rfl ?_
    refine j_bipush G dL_refusesAny_109 (v := 64) rfl ?_
    refine j_irem G dL_refusesAny_111 (by omega) (by omega) ?_
    refine j_iconst G dL_refusesAny_112 (v := 0) rfl ?_
    refine jo_plot (r0 := z (28 + (x % 64))) G dL_refusesAny_113 (goodIn_up _ gvX4_plot) ⟨by decide, by decide⟩ (Nat.le_of_ble_eq_true rfl) ⟨Nat.zero_le _, Nat.zero_le _⟩ (by exact hI) (by omega) (by omega) (by exact fp0 (by omega)) (fun e_3 => ?_)
    have f113_ := bp0 hI (p := (x % 64)) (by omega)
    refine jn_grow (r0 := (-5)) G dL_refusesAny_116 (goodIn_up _ gvX4_grow) ⟨by decide, by decide⟩ (Nat.le_of_ble_eq_true rfl) ⟨Nat.zero_le _, Nat.zero_le _⟩ (by exact hI) (by exact hsz) (by omega) (by omega) (by unfold F_grow; rw [if_pos (by omega), if_pos (by omega), if_pos rfl]) (by omega) (fun e_4 => ?_)
    refine j_bipush G dL_refusesAny_119 (v := (-5)) rfl ?_
    refine j_icmp_ne (tgt := 481) G dL_refusesAny_121 (by decide) (by omega) (by omega) (fun c121 => absurd c121 (by omega)) (fun c121 => ?_)
    refine j_aload_n G 3 dL_refusesAny_124 rfl ?_
    refine j_iload_n G 4 dL_refusesAny_125 rfl ?_
    refine j_iconst G dL_refusesAny_126 (v := 2) rfl ?_
    refine j_irem G dL_refusesAny_127 (by omega) (by omega) ?_
    refine j_if_ne (tgt := 135) G dL_refusesAny_128 (by decide) (by omega) (fun c128 => ?_) (fun c128 => absurd c128 (by omega))
    refine j_bipush G dL_refusesAny_135 (v := 10) rfl ?_
    refine jn_rain (r0 := (-2)) G dL_refusesAny_137 (goodIn_up _ gvX4_rain) ⟨by decide, by decide⟩ (Nat.le_of_ble_eq_true rfl) ⟨Nat.zero_le _, Nat.zero_le _⟩ (by exact hI) (by exact hsz) (by omega) (by unfold F_rain; rw [if_neg (by omega)]) (by omega) (fun e_5 => ?_)
    refine j_bipush G dL_refusesAny_140 (v := (-2)) rfl ?_
    refine j_icmp_ne (tgt := 481) G dL_refusesAny_142 (by decide) (by omega) (by omega) (fun c142 => absurd c142 (by omega)) (fun c142 => ?_)
    refine j_aload_n G 3 dL_refusesAny_145 rfl ?_
    refine j_iload_n G 4 dL_refusesAny_146 rfl ?_
    refine j_iconst G dL_refusesAny_147 (v := 2) rfl ?_
    refine j_irem G dL_refusesAny_148 (by omega) (by omega) ?_
    refine j_if_ne (tgt := 156) G dL_refusesAny_149 (by decide) (by omega) (fun c149 => ?_) (fun c149 => absurd c149 (by omega))
    refine j_bipush G dL_refusesAny_156 (v := 100) rfl ?_
    refine jn_endDays (r0 := (-2)) G dL_refusesAny_158 (goodIn_up _ gvX4_endDays) ⟨by decide, by decide⟩ (Nat.le_of_ble_eq_true rfl) ⟨Nat.zero_le _, Nat.zero_le _⟩ (by exact hI) (by exact hsz) (by omega) (by unfold F_end; rw [if_neg (by omega)]) (by omega) (fun e_6 => ?_)
    refine j_bipush G dL_refusesAny_161 (v := (-2)) rfl ?_
    refine j_icmp_ne (tgt := 481) G dL_refusesAny_163 (by decide) (by omega) (by omega) (fun c163 => absurd c163 (by omega)) (fun c163 => ?_)
    refine j_aload_n G 3 dL_refusesAny_166 rfl ?_
    refine j_iload_n G 4 dL_refusesAny_167 rfl ?_
    refine j_iconst G dL_refusesAny_168 (v := 2) rfl ?_
    refine j_irem G dL_refusesAny_169 (by omega) (by omega) ?_
    refine j_if_ne (tgt := 177) G dL_refusesAny_170 (by decide) (by omega) (fun c170 => ?_) (fun c170 => absurd c170 (by omega))
    refine j_iconst G dL_refusesAny_177 (v := 3) rfl ?_
    refine j_bipush G dL_refusesAny_178 (v := 99) rfl ?_
    refine jn_set (r0 := (-1)) G dL_refusesAny_180 (goodIn_up _ gvX4_set) ⟨by decide, by decide⟩ (Nat.le_of_ble_eq_true rfl) ⟨Nat.zero_le _, Nat.zero_le _⟩ (by exact hI) (by exact hsz) (by omega) (by omega) (by unfold F_set; rw [if_neg (by omega)]) (by omega) (fun e_7 => ?_)
    refine j_iconst G dL_refusesAny_183 (v := (-1)) rfl ?_
    refine j_icmp_ne (tgt := 481) G dL_refusesAny_184 (by decide) (by omega) (by omega) (fun c184 => absurd c184 (by omega)) (fun c184 => ?_)
    refine j_aload_n G 3 dL_refusesAny_187 rfl ?_
    refine j_iconst G dL_refusesAny_188 (v := 0) rfl ?_
    refine j_iload_n G 4 dL_refusesAny_189 rfl ?_
    refine j_iconst G dL_refusesAny_190 (v := 2) rfl ?_
    refine j_irem G dL_refusesAny_191 (by omega) (by omega) ?_
    refine j_if_ne (tgt := 199) G dL_refusesAny_192 (by decide) (by omega) (fun c192 => ?_) (fun c192 => absurd c192 (by omega))
    refine j_bipush G dL_refusesAny_199 (v := 31) rfl ?_
    refine jn_set (r0 := (-2)) G dL_refusesAny_201 (goodIn_up _ gvX4_set) ⟨by decide, by decide⟩ (Nat.le_of_ble_eq_true rfl) ⟨Nat.zero_le _, Nat.zero_le _⟩ (by exact hI) (by exact hsz) (by omega) (by omega) (by unfold F_set; rw [if_pos (by omega), if_neg (by decide)]) (by omega) (fun e_8 => ?_)
    refine j_bipush G dL_refusesAny_204 (v := (-2)) rfl ?_
    refine j_icmp_ne (tgt := 481) G dL_refusesAny_206 (by decide) (by omega) (by omega) (fun c206 => absurd c206 (by omega)) (fun c206 => ?_)
    refine j_aload_n G 3 dL_refusesAny_209 rfl ?_
    refine j_iconst G dL_refusesAny_210 (v := 1) rfl ?_
    refine j_iload_n G 4 dL_refusesAny_211 rfl ?_
    refine j_iconst G dL_refusesAny_212 (v := 2) rfl ?_
    refine j_irem G dL_refusesAny_213 (by omega) (by omega) ?_
    refine j_if_ne (tgt := 221) G dL_refusesAny_214 (by decide) (by omega) (fun c214 => ?_) (fun c214 => absurd c214 (by omega))
    refine j_iconst G dL_refusesAny_221 (v := 3) rfl ?_
    refine jn_set (r0 := (-2)) G dL_refusesAny_222 (goodIn_up _ gvX4_set) ⟨by decide, by decide⟩ (Nat.le_of_ble_eq_true rfl) ⟨Nat.zero_le _, Nat.zero_le _⟩ (by exact hI) (by exact hsz) (by omega) (by omega) (by unfold F_set; rw [if_pos (by omega), if_neg (by decide)]) (by omega) (fun e_9 => ?_)
    refine j_bipush G dL_refusesAny_225 (v := (-2)) rfl ?_
    refine j_icmp_ne (tgt := 481) G dL_refusesAny_227 (by decide) (by omega) (by omega) (fun c227 => absurd c227 (by omega)) (fun c227 => ?_)
    refine j_aload_n G 3 dL_refusesAny_230 rfl ?_
    refine j_iconst G dL_refusesAny_231 (v := 2) rfl ?_
    refine j_iload_n G 4 dL_refusesAny_232 rfl ?_
    refine j_iconst G dL_refusesAny_233 (v := 2) rfl ?_
    refine j_irem G dL_refusesAny_234 (by omega) (by omega) ?_
    refine j_if_ne (tgt := 242) G dL_refusesAny_235 (by decide) (by omega) (fun c235 => ?_) (fun c235 => absurd c235 (by omega))
    refine j_bipush G dL_refusesAny_242 (v := 10) rfl ?_
    refine jn_set (r0 := (-2)) G dL_refusesAny_244 (goodIn_up _ gvX4_set) ⟨by decide, by decide⟩ (Nat.le_of_ble_eq_true rfl) ⟨Nat.zero_le _, Nat.zero_le _⟩ (by exact hI) (by exact hsz) (by omega) (by omega) (by unfold F_set; rw [if_pos (by omega), if_neg (by decide)]) (by omega) (fun e_10 => ?_)
    refine j_bipush G dL_refusesAny_247 (v := (-2)) rfl ?_
    refine j_icmp_ne (tgt := 481) G dL_refusesAny_249 (by decide) (by omega) (by omega) (fun c249 => absurd c249 (by omega)) (fun c249 => ?_)
    refine j_aload_n G 3 dL_refusesAny_252 rfl ?_
    refine j_iload_n G 4 dL_refusesAny_253 rfl ?_
    refine j_iconst G dL_refusesAny_254 (v := 3) rfl ?_
    refine j_irem G dL_refusesAny_255 (by omega) (by omega) ?_
    refine j_aload_n G 3 dL_refusesAny_256 rfl ?_
    refine j_bipush G dL_refusesAny_257 (v := 12) rfl ?_
    refine j_iload_n G 4 dL_refusesAny_259 rfl ?_
    refine j_iconst G dL_refusesAny_260 (v := 3) rfl ?_
    refine j_irem G dL_refusesAny_261 (by omega) (by omega) ?_
    refine j_iadd G dL_refusesAny_262 ?_
    refine jo_count (r0 := z (x % 3)) G dL_refusesAny_263 (goodIn_up _ gvX4_count) ⟨by decide, by decide⟩ (Nat.le_of_ble_eq_true rfl) ⟨Nat.zero_le _, Nat.zero_le _⟩ (by exact hI) (by omega) (by exact count_set (by omega)) (fun e_11 => ?_)
    have f263 := set_in hI (i := x % 3) (by omega)
    have f263b := sLo_b (x % 3)
    have f263c := sHi_b (x % 3)
    refine jn_set (r0 := (-5)) G dL_refusesAny_266 (goodIn_up _ gvX4_set) ⟨by decide, by decide⟩ (Nat.le_of_ble_eq_true rfl) ⟨Nat.zero_le _, Nat.zero_le _⟩ (by exact hI) (by exact hsz) (by omega) (by omega) (by unfold F_set; rw [if_pos (by omega), if_pos f263, if_pos rfl]) (by omega) (fun e_12 => ?_)
    refine j_bipush G dL_refusesAny_269 (v := (-5)) rfl ?_
    refine j_icmp_ne (tgt := 481) G dL_refusesAny_271 (by decide) (by omega) (by omega) (fun c271 => absurd c271 (by omega)) (fun c271 => ?_)
    refine j_aload_n G 3 dL_refusesAny_274 rfl ?_
    refine j_iload_n G 1 dL_refusesAny_275 rfl ?_
    refine j_iconst G dL_refusesAny_276 (v := 0) rfl ?_
    refine jn_go (r0 := (-1)) G dL_refusesAny_277 (goodIn_up _ gvX4_go) ⟨by decide, by decide⟩ (Nat.le_of_ble_eq_true rfl) ⟨Nat.zero_le _, Nat.zero_le _⟩ (by exact hI) (by exact hsz) (by omega) (by omega) (by unfold F_go; rw [if_neg (by omega)]) (by omega) (fun e_13 => ?_)
    refine j_iconst G dL_refusesAny_280 (v := (-1)) rfl ?_
    refine j_icmp_ne (tgt := 481) G dL_refusesAny_281 (by decide) (by omega) (by omega) (fun c281 => absurd c281 (by omega)) (fun c281 => ?_)
    refine j_aload_n G 3 dL_refusesAny_284 rfl ?_
    refine j_iconst G dL_refusesAny_285 (v := 0) rfl ?_
    refine j_iload_n G 2 dL_refusesAny_286 rfl ?_
    refine jn_go (r0 := (-1)) G dL_refusesAny_287 (goodIn_up _ gvX4_go) ⟨by decide, by decide⟩ (Nat.le_of_ble_eq_true rfl) ⟨Nat.zero_le _, Nat.zero_le _⟩ (by exact hI) (by exact hsz) (by omega) (by omega) (by unfold F_go; rw [if_neg (by omega)]) (by omega) (fun e_14 => ?_)
    refine j_iconst G dL_refusesAny_290 (v := (-1)) rfl ?_
    refine j_icmp_ne (tgt := 481) G dL_refusesAny_291 (by decide) (by omega) (by omega) (fun c291 => absurd c291 (by omega)) (fun c291 => ?_)
    refine j_aload_n G 3 dL_refusesAny_294 rfl ?_
    refine j_iload_n G 4 dL_refusesAny_295 rfl ?_
    refine j_iconst G dL_refusesAny_296 (v := 3) rfl ?_
    refine j_irem G dL_refusesAny_297 (by omega) (by omega) ?_
    refine j_aload_n G 3 dL_refusesAny_298 rfl ?_
    refine j_iload_n G 4 dL_refusesAny_299 rfl ?_
    refine j_iconst G dL_refusesAny_300 (v := 3) rfl ?_
    refine j_irem G dL_refusesAny_301 (by omega) (by omega) ?_
    refine j_iconst G dL_refusesAny_302 (v := 0) rfl ?_
    refine jo_crew (r0 := z (15 + 4 * (x % 3))) G dL_refusesAny_303 (goodIn_up _ gvX4_crew) ⟨by decide, by decide⟩ (Nat.le_of_ble_eq_true rfl) ⟨Nat.zero_le _, Nat.zero_le _⟩ (by exact hI) (by omega) (by omega) (by exact fc0 (by omega)) (fun e_15 => ?_)
    have f303_ := bc0 hI (k := (x % 3)) (by omega)
    have f303b := bc1 hI (k := x % 3) (by omega)
    refine jn_go (r0 := (-5)) G dL_refusesAny_306 (goodIn_up _ gvX4_go) ⟨by decide, by decide⟩ (Nat.le_of_ble_eq_true rfl) ⟨Nat.zero_le _, Nat.zero_le _⟩ (by exact hI) (by exact hsz) (by omega) (by omega) (by unfold F_go; rw [if_pos (by omega), if_neg (by rw [zWay_0 rfl]; omega), if_pos rfl]) (by omega) (fun e_16 => ?_)
    refine j_bipush G dL_refusesAny_309 (v := (-5)) rfl ?_
    refine j_icmp_ne (tgt := 481) G dL_refusesAny_311 (by decide) (by omega) (by omega) (fun c311 => absurd c311 (by omega)) (fun c311 => ?_)
    refine j_aload_n G 3 dL_refusesAny_314 rfl ?_
    refine j_iload_n G 1 dL_refusesAny_315 rfl ?_
    refine jn_fell (r0 := (-1)) G dL_refusesAny_316 (goodIn_up _ gvX4_fell) ⟨by decide, by decide⟩ (Nat.le_of_ble_eq_true rfl) ⟨Nat.zero_le _, Nat.zero_le _⟩ (by exact hI) (by exact hsz) (by omega) (by unfold F_fell; rw [if_neg (by omega)]) (by omega) (fun e_17 => ?_)
    refine j_iconst G dL_refusesAny_319 (v := (-1)) rfl ?_
    refine j_icmp_ne (tgt := 481) G dL_refusesAny_320 (by decide) (by omega) (by omega) (fun c320 => absurd c320 (by omega)) (fun c320 => ?_)
    have lp348 : ∀ (e348 : oE), J x_ 0 0 (oW Y h ad aq e348 z zs ik sz S) 348 [(0, .ref h), (1, .int (jI x)), (2, .int (jI (64 + (x % 99)))), (3, .int (jI (3 + (x % 99)))), (4, .int (jI (8 + (x % 99))))] [] := by
      intro e348
      have lp387 : ∀ (e387 : oE), J x_ 0 0 (oW Y h ad aq e387 z zs ik sz S) 387 [(0, .ref h), (1, .int (jI x)), (2, .int (jI (64 + (x % 99)))), (3, .int (jI (3 + (x % 99)))), (4, .int (jI (8 + (x % 99))))] [] := by
        intro e387
        refine j_aload_n G 0 dL_refusesAny_387 rfl ?_
        refine j_iload G 4 dL_refusesAny_388 rfl ?_
        refine j_bipush G dL_refusesAny_390 (v := 9) rfl ?_
        refine jn_hint (r0 := (-1)) G dL_refusesAny_392 (goodIn_up _ gvX4_hint) ⟨by decide, by decide⟩ (Nat.le_of_ble_eq_true rfl) ⟨Nat.zero_le _, Nat.zero_le _⟩ (by exact hI) (by exact hsz) (by omega) (by omega) (by unfold F_hint; rw [if_neg (by omega)]) (by omega) (fun e_18 => ?_)
        refine j_iconst G dL_refusesAny_395 (v := (-1)) rfl ?_
        refine j_icmp_ne (tgt := 481) G dL_refusesAny_396 (by decide) (by omega) (by omega) (fun c396 => absurd c396 (by omega)) (fun c396 => ?_)
        refine j_aload_n G 0 dL_refusesAny_399 rfl ?_
        refine j_iconst G dL_refusesAny_400 (v := 0) rfl ?_
        refine j_iload G 4 dL_refusesAny_401 rfl ?_
        refine jn_hint (r0 := (-2)) G dL_refusesAny_403 (goodIn_up _ gvX4_hint) ⟨by decide, by decide⟩ (Nat.le_of_ble_eq_true rfl) ⟨Nat.zero_le _, Nat.zero_le _⟩ (by exact hI) (by exact hsz) (by omega) (by omega) (by unfold F_hint; rw [if_pos (by omega), if_neg (by omega)]) (by omega) (fun e_19 => ?_)
        refine j_bipush G dL_refusesAny_406 (v := (-2)) rfl ?_
        refine j_icmp_ne (tgt := 481) G dL_refusesAny_408 (by decide) (by omega) (by omega) (fun c408 => absurd c408 (by omega)) (fun c408 => ?_)
        have lp449 : ∀ (e449 : oE), J x_ 0 0 (oW Y h ad aq e449 z zs ik sz S) 449 [(0, .ref h), (1, .int (jI x)), (2, .int (jI (64 + (x % 99)))), (3, .int (jI (3 + (x % 99)))), (4, .int (jI (8 + (x % 99))))] [] := by
          intro e449
          refine j_aload_n G 0 dL_refusesAny_449 rfl ?_
          refine j_iload G 4 dL_refusesAny_450 rfl ?_
          refine jn_takeBack (r0 := (-1)) G dL_refusesAny_452 (goodIn_up _ gvX4_takeBack) ⟨by decide, by decide⟩ (Nat.le_of_ble_eq_true rfl) ⟨Nat.zero_le _, Nat.zero_le _⟩ (by exact hI) (by exact hsz) (by omega) (by unfold F_back; rw [if_neg (by omega)]) (by omega) (fun e_20 => ?_)
          refine j_iconst G dL_refusesAny_455 (v := (-1)) rfl ?_
          refine j_icmp_ne (tgt := 481) G dL_refusesAny_456 (by decide) (by omega) (by omega) (fun c456 => absurd c456 (by omega)) (fun c456 => ?_)
          have lp477 : ∀ (e477 : oE), J x_ 0 0 (oW Y h ad aq e477 z zs ik sz S) 477 [(0, .ref h), (1, .int (jI x)), (2, .int (jI (64 + (x % 99)))), (3, .int (jI (3 + (x % 99)))), (4, .int (jI (8 + (x % 99))))] [] := by
            intro e477
            refine j_iconst G dL_refusesAny_477 (v := 1) rfl ?_
            refine j_goto (tgt := 482) G dL_refusesAny_478 (by decide) ?_
            refine j_istore (lv' := [(5, .int (jI 1)), (0, .ref h), (1, .int (jI x)), (2, .int (jI (64 + (x % 99)))), (3, .int (jI (3 + (x % 99)))), (4, .int (jI (8 + (x % 99))))]) G dL_refusesAny_482 (by decide) rfl ?_
            refine j_iload G 0 dL_refusesAny_484 rfl ?_
            refine j_if_eq (tgt := 695) G dL_refusesAny_486 (by decide) (by omega) (fun c486 => absurd c486 (by omega)) (fun c486 => ?_)
            refine j_aload_n G 1 dL_refusesAny_489 rfl ?_
            refine j_iload_n G 3 dL_refusesAny_490 rfl ?_
            refine j_bipush G dL_refusesAny_491 (v := 9) rfl ?_
            refine jo_plot (r0 := (-1)) G dL_refusesAny_493 (goodIn_up _ gvX4_plot) ⟨by decide, by decide⟩ (Nat.le_of_ble_eq_true rfl) ⟨Nat.zero_le _, Nat.zero_le _⟩ (by exact hI) (by omega) (by omega) (by unfold F_plot; rw [if_neg (by omega)]) (fun e_21 => ?_)
            refine j_iconst G dL_refusesAny_496 (v := (-1)) rfl ?_
            refine j_icmp_ne (tgt := 695) G dL_refusesAny_497 (by decide) (by omega) (by omega) (fun c497 => absurd c497 (by omega)) (fun c497 => ?_)
            refine j_aload_n G 1 dL_refusesAny_500 rfl ?_
            refine j_iconst G dL_refusesAny_501 (v := 0) rfl ?_
            refine j_iload_n G 2 dL_refusesAny_502 rfl ?_
            refine j_iconst G dL_refusesAny_503 (v := 2) rfl ?_
            refine j_irem G dL_refusesAny_504 (by omega) (by omega) ?_
            refine j_if_ne (tgt := 512) G dL_refusesAny_505 (by decide) (by omega) (fun c505 => ?_) (fun c505 => absurd c505 (by omega))
            refine j_bipush G dL_refusesAny_512 (v := 7) rfl ?_
            refine jo_plot (r0 := (-2)) G dL_refusesAny_514 (goodIn_up _ gvX4_plot) ⟨by decide, by decide⟩ (Nat.le_of_ble_eq_true rfl) ⟨Nat.zero_le _, Nat.zero_le _⟩ (by exact hI) (by omega) (by omega) (by rfl) (fun e_22 => ?_)
            refine j_bipush G dL_refusesAny_517 (v := (-2)) rfl ?_
            refine j_icmp_ne (tgt := 695) G dL_refusesAny_519 (by decide) (by omega) (by omega) (fun c519 => absurd c519 (by omega)) (fun c519 => ?_)
            refine j_aload_n G 1 dL_refusesAny_522 rfl ?_
            refine j_iload_n G 4 dL_refusesAny_523 rfl ?_
            refine j_bipush G dL_refusesAny_524 (v := 9) rfl ?_
            refine jo_crew (r0 := (-1)) G dL_refusesAny_526 (goodIn_up _ gvX4_crew) ⟨by decide, by decide⟩ (Nat.le_of_ble_eq_true rfl) ⟨Nat.zero_le _, Nat.zero_le _⟩ (by exact hI) (by omega) (by omega) (by unfold F_crew; rw [if_neg (by omega)]) (fun e_23 => ?_)
            refine j_iconst G dL_refusesAny_529 (v := (-1)) rfl ?_
            refine j_icmp_ne (tgt := 695) G dL_refusesAny_530 (by decide) (by omega) (by omega) (fun c530 => absurd c530 (by omega)) (fun c530 => ?_)
            refine j_aload_n G 1 dL_refusesAny_533 rfl ?_
            refine j_iconst G dL_refusesAny_534 (v := 0) rfl ?_
            refine j_iload_n G 2 dL_refusesAny_535 rfl ?_
            refine j_iconst G dL_refusesAny_536 (v := 2) rfl ?_
            refine j_irem G dL_refusesAny_537 (by omega) (by omega) ?_
            refine j_if_ne (tgt := 545) G dL_refusesAny_538 (by decide) (by omega) (fun c538 => ?_) (fun c538 => absurd c538 (by omega))
            refine j_iconst G dL_refusesAny_545 (v := 4) rfl ?_
            refine jo_crew (r0 := (-2)) G dL_refusesAny_546 (goodIn_up _ gvX4_crew) ⟨by decide, by decide⟩ (Nat.le_of_ble_eq_true rfl) ⟨Nat.zero_le _, Nat.zero_le _⟩ (by exact hI) (by omega) (by omega) (by rfl) (fun e_24 => ?_)
            refine j_bipush G dL_refusesAny_549 (v := (-2)) rfl ?_
            refine j_icmp_ne (tgt := 695) G dL_refusesAny_551 (by decide) (by omega) (by omega) (fun c551 => absurd c551 (by omega)) (fun c551 => ?_)
            refine j_aload_n G 1 dL_refusesAny_554 rfl ?_
            refine j_iload G 5 dL_refusesAny_555 rfl ?_
            refine j_bipush G dL_refusesAny_557 (v := 9) rfl ?_
            refine jo_row (r0 := (-1)) G dL_refusesAny_559 (goodIn_up _ gvX4_row) ⟨by decide, by decide⟩ (Nat.le_of_ble_eq_true rfl) ⟨Nat.zero_le _, Nat.zero_le _⟩ (by exact hI) (by omega) (by omega) (by unfold F_row; rw [if_neg (by omega)]) (fun e_25 => ?_)
            refine j_iconst G dL_refusesAny_562 (v := (-1)) rfl ?_
            refine j_icmp_ne (tgt := 695) G dL_refusesAny_563 (by decide) (by omega) (by omega) (fun c563 => absurd c563 (by omega)) (fun c563 => ?_)
            refine j_aload_n G 1 dL_refusesAny_566 rfl ?_
            refine j_iconst G dL_refusesAny_567 (v := 0) rfl ?_
            refine j_iload_n G 2 dL_refusesAny_568 rfl ?_
            refine j_iconst G dL_refusesAny_569 (v := 2) rfl ?_
            refine j_irem G dL_refusesAny_570 (by omega) (by omega) ?_
            refine j_if_ne (tgt := 578) G dL_refusesAny_571 (by decide) (by omega) (fun c571 => ?_) (fun c571 => absurd c571 (by omega))
            refine j_iconst G dL_refusesAny_578 (v := 3) rfl ?_
            refine jo_row (r0 := (-2)) G dL_refusesAny_579 (goodIn_up _ gvX4_row) ⟨by decide, by decide⟩ (Nat.le_of_ble_eq_true rfl) ⟨Nat.zero_le _, Nat.zero_le _⟩ (by exact hI) (by omega) (by omega) (by rfl) (fun e_26 => ?_)
            refine j_bipush G dL_refusesAny_582 (v := (-2)) rfl ?_
            refine j_icmp_ne (tgt := 695) G dL_refusesAny_584 (by decide) (by omega) (by omega) (fun c584 => absurd c584 (by omega)) (fun c584 => ?_)
            refine j_aload_n G 1 dL_refusesAny_587 rfl ?_
            refine j_iload_n G 4 dL_refusesAny_588 rfl ?_
            refine j_iconst G dL_refusesAny_589 (v := 0) rfl ?_
            refine jo_way (r0 := (-1)) G dL_refusesAny_590 (goodIn_up _ gvX4_way) ⟨by decide, by decide⟩ (Nat.le_of_ble_eq_true rfl) ⟨Nat.zero_le _, Nat.zero_le _⟩ (by exact hI) (by omega) (by omega) (by unfold F_way; rw [if_neg (by omega)]) (fun e_27 => ?_)
            refine j_iconst G dL_refusesAny_593 (v := (-1)) rfl ?_
            refine j_icmp_ne (tgt := 695) G dL_refusesAny_594 (by decide) (by omega) (by omega) (fun c594 => absurd c594 (by omega)) (fun c594 => ?_)
            refine j_aload_n G 1 dL_refusesAny_597 rfl ?_
            refine j_iconst G dL_refusesAny_598 (v := 0) rfl ?_
            refine j_iload_n G 3 dL_refusesAny_599 rfl ?_
            refine jo_way (r0 := (-1)) G dL_refusesAny_600 (goodIn_up _ gvX4_way) ⟨by decide, by decide⟩ (Nat.le_of_ble_eq_true rfl) ⟨Nat.zero_le _, Nat.zero_le _⟩ (by exact hI) (by omega) (by omega) (by unfold F_way; rw [if_neg (by omega)]) (fun e_28 => ?_)
            refine j_iconst G dL_refusesAny_603 (v := (-1)) rfl ?_
            refine j_icmp_ne (tgt := 695) G dL_refusesAny_604 (by decide) (by omega) (by omega) (fun c604 => absurd c604 (by omega)) (fun c604 => ?_)
            refine j_aload_n G 1 dL_refusesAny_607 rfl ?_
            refine j_iload_n G 4 dL_refusesAny_608 rfl ?_
            refine j_iconst G dL_refusesAny_609 (v := 0) rfl ?_
            refine jo_reason (r0 := (-1)) G dL_refusesAny_610 (goodIn_up _ gvX4_reason) ⟨by decide, by decide⟩ (Nat.le_of_ble_eq_true rfl) ⟨Nat.zero_le _, Nat.zero_le _⟩ (by exact hI) (by omega) (by omega) (by unfold F_reason; rw [if_neg (by omega)]) (fun e_29 => ?_)
            refine j_iconst G dL_refusesAny_613 (v := (-1)) rfl ?_
            refine j_icmp_ne (tgt := 695) G dL_refusesAny_614 (by decide) (by omega) (by omega) (fun c614 => absurd c614 (by omega)) (fun c614 => ?_)
            refine j_aload_n G 1 dL_refusesAny_617 rfl ?_
            refine j_iconst G dL_refusesAny_618 (v := 0) rfl ?_
            refine j_iload_n G 3 dL_refusesAny_619 rfl ?_
            refine jo_reason (r0 := (-1)) G dL_refusesAny_620 (goodIn_up _ gvX4_reason) ⟨by decide, by decide⟩ (Nat.le_of_ble_eq_true rfl) ⟨Nat.zero_le _, Nat.zero_le _⟩ (by exact hI) (by omega) (by omega) (by unfold F_reason; rw [if_neg (by omega)]) (fun e_30 => ?_)
            refine j_iconst G dL_refusesAny_623 (v := (-1)) rfl ?_
            refine j_icmp_ne (tgt := 695) G dL_refusesAny_624 (by decide) (by omega) (by omega) (fun c624 => absurd c624 (by omega)) (fun c624 => ?_)
            refine j_aload_n G 1 dL_refusesAny_627 rfl ?_
            refine j_iload_n G 4 dL_refusesAny_628 rfl ?_
            refine jo_best (r0 := (-1)) G dL_refusesAny_629 (goodIn_up _ gvX4_best) ⟨by decide, by decide⟩ (Nat.le_of_ble_eq_true rfl) ⟨Nat.zero_le _, Nat.zero_le _⟩ (by exact hI) (by omega) (by unfold F_best; rw [if_neg (by omega)]) (fun e_31 => ?_)
            refine j_iconst G dL_refusesAny_632 (v := (-1)) rfl ?_
            refine j_icmp_ne (tgt := 695) G dL_refusesAny_633 (by decide) (by omega) (by omega) (fun c633 => absurd c633 (by omega)) (fun c633 => ?_)
            refine j_aload_n G 1 dL_refusesAny_636 rfl ?_
            refine j_iload G 5 dL_refusesAny_637 rfl ?_
            refine j_bipush G dL_refusesAny_639 (v := 9) rfl ?_
            refine jo_ifTold (r0 := (-1)) G dL_refusesAny_641 (goodIn_up _ gvX4_ifTold) ⟨by decide, by decide⟩ (Nat.le_of_ble_eq_true rfl) ⟨Nat.zero_le _, Nat.zero_le _⟩ (by exact hI) (by omega) (by omega) (by unfold F_told; rw [if_neg (by omega)]) (fun e_32 => ?_)
            refine j_iconst G dL_refusesAny_644 (v := (-1)) rfl ?_
            refine j_icmp_ne (tgt := 695) G dL_refusesAny_645 (by decide) (by omega) (by omega) (fun c645 => absurd c645 (by omega)) (fun c645 => ?_)
            refine j_aload_n G 1 dL_refusesAny_648 rfl ?_
            refine j_iconst G dL_refusesAny_649 (v := 0) rfl ?_
            refine j_iload G 5 dL_refusesAny_650 rfl ?_
            refine jo_ifTold (r0 := (-2)) G dL_refusesAny_652 (goodIn_up _ gvX4_ifTold) ⟨by decide, by decide⟩ (Nat.le_of_ble_eq_true rfl) ⟨Nat.zero_le _, Nat.zero_le _⟩ (by exact hI) (by omega) (by omega) (by unfold F_told; rw [if_pos (by omega), if_neg (by omega)]) (fun e_33 => ?_)
            refine j_bipush G dL_refusesAny_655 (v := (-2)) rfl ?_
            refine j_icmp_ne (tgt := 695) G dL_refusesAny_657 (by decide) (by omega) (by omega) (fun c657 => absurd c657 (by omega)) (fun c657 => ?_)
            refine j_aload_n G 1 dL_refusesAny_660 rfl ?_
            refine j_iload_n G 2 dL_refusesAny_661 rfl ?_
            refine j_iconst G dL_refusesAny_662 (v := 2) rfl ?_
            refine j_irem G dL_refusesAny_663 (by omega) (by omega) ?_
            refine j_if_ne (tgt := 671) G dL_refusesAny_664 (by decide) (by omega) (fun c664 => ?_) (fun c664 => absurd c664 (by omega))
            refine j_bipush G dL_refusesAny_671 (v := 17) rfl ?_
            refine jo_count (r0 := (-2)) G dL_refusesAny_673 (goodIn_up _ gvX4_count) ⟨by decide, by decide⟩ (Nat.le_of_ble_eq_true rfl) ⟨Nat.zero_le _, Nat.zero_le _⟩ (by exact hI) (by omega) (by rfl) (fun e_34 => ?_)
            refine j_bipush G dL_refusesAny_676 (v := (-2)) rfl ?_
            refine j_icmp_ne (tgt := 695) G dL_refusesAny_678 (by decide) (by omega) (by omega) (fun c678 => absurd c678 (by omega)) (fun c678 => ?_)
            refine j_aload_n G 1 dL_refusesAny_681 rfl ?_
            refine j_iconst G dL_refusesAny_682 (v := 2) rfl ?_
            refine jo_stopped (r0 := (-2)) G dL_refusesAny_683 (goodIn_up _ gvX4_stopped) ⟨by decide, by decide⟩ (Nat.le_of_ble_eq_true rfl) ⟨Nat.zero_le _, Nat.zero_le _⟩ (by omega) (by rfl) (fun e_35 => ?_)
            refine j_bipush G dL_refusesAny_686 (v := (-2)) rfl ?_
            refine j_icmp_ne (tgt := 695) G dL_refusesAny_688 (by decide) (by omega) (by omega) (fun c688 => absurd c688 (by omega)) (fun c688 => ?_)
            refine j_iconst G dL_refusesAny_691 (v := 1) rfl ?_
            refine j_goto (tgt := 696) G dL_refusesAny_692 (by decide) ?_
            refine j_istore (lv' := [(5, .int (jI 1)), (0, .ref h), (1, .int (jI x)), (2, .int (jI (64 + (x % 99)))), (3, .int (jI (3 + (x % 99)))), (4, .int (jI (8 + (x % 99))))]) G dL_refusesAny_696 (by decide) rfl ?_
            refine j_iload G 0 dL_refusesAny_698 rfl ?_
            refine j_if_eq (tgt := 723) G dL_refusesAny_700 (by decide) (by omega) (fun c700 => absurd c700 (by omega)) (fun c700 => ?_)
            refine j_aload_n G 1 dL_refusesAny_703 rfl ?_
            refine jo_clearText (r0 := 0) G dL_refusesAny_704 (goodIn_up _ gvX4_clearText) ⟨by decide, by decide⟩ (Nat.le_of_ble_eq_true rfl) ⟨Nat.zero_le _, Nat.zero_le _⟩  (by rfl) (fun e_36 => ?_)
            refine j_if_ne (tgt := 723) G dL_refusesAny_707 (by decide) (by omega) (fun c707 => absurd c707 (by omega)) (fun c707 => ?_)
            refine j_aload_n G 1 dL_refusesAny_710 rfl ?_
            refine jn_perform G dL_refusesAny_711 (goodIn_up _ gvX4_perform) ⟨by decide, by decide⟩ (Nat.le_of_ble_eq_true rfl) ⟨Nat.zero_le _, Nat.zero_le _⟩ (by exact hI) (by exact hsz) (fun e_37 => ?_)
            refine j_bipush G dL_refusesAny_714 (v := (-100)) rfl ?_
            refine j_icmp_ne (tgt := 723) G dL_refusesAny_716 (by decide) (by omega) (by omega) (fun c716 => absurd c716 (by omega)) (fun c716 => ?_)
            refine j_iconst G dL_refusesAny_719 (v := 1) rfl ?_
            refine j_goto (tgt := 724) G dL_refusesAny_720 (by decide) ?_
            exact j_reti (r := 1) G dL_refusesAny_724 (by rfl) (jLe.rf _) (kr0 _ _ ⟨e_37, rfl, rfl⟩)
          refine j_aload_n G 0 dL_refusesAny_459 rfl ?_
          refine j_iconst G dL_refusesAny_460 (v := 5) rfl ?_
          refine jo_count (r0 := pAll (tZ z)) G dL_refusesAny_461 (goodIn_up _ gvX4_count) ⟨by decide, by decide⟩ (Nat.le_of_ble_eq_true rfl) ⟨Nat.zero_le _, Nat.zero_le _⟩ (by exact hI) (by omega) (by rfl) (fun e_38 => ?_)
          have f461_ := bn5 hI
          refine j_iconst G dL_refusesAny_464 (v := 1) rfl ?_
          refine j_icmp_eq (tgt := 477) G dL_refusesAny_465 (by decide) (by omega) (by omega) (fun c465 => ?_) (fun c465 => ?_)
          · exact lp477 e_38
          · refine j_aload_n G 0 dL_refusesAny_468 rfl ?_
            refine jn_storm (r0 := (-4)) G dL_refusesAny_469 (goodIn_up _ gvX4_storm) ⟨by decide, by decide⟩ (Nat.le_of_ble_eq_true rfl) ⟨Nat.zero_le _, Nat.zero_le _⟩ (by exact hI) (by exact hsz) (by unfold F_storm; rw [if_pos (by omega)]) (by omega) (fun e_39 => ?_)
            refine j_bipush G dL_refusesAny_472 (v := (-4)) rfl ?_
            refine j_icmp_ne (tgt := 481) G dL_refusesAny_474 (by decide) (by omega) (by omega) (fun c474 => absurd c474 (by omega)) (fun c474 => ?_)
            exact lp477 e_39
        refine j_aload_n G 0 dL_refusesAny_411 rfl ?_
        refine j_iconst G dL_refusesAny_412 (v := 0) rfl ?_
        refine j_iconst G dL_refusesAny_413 (v := 0) rfl ?_
        refine jo_row (r0 := z (7 + 0)) G dL_refusesAny_414 (goodIn_up _ gvX4_row) ⟨by decide, by decide⟩ (Nat.le_of_ble_eq_true rfl) ⟨Nat.zero_le _, Nat.zero_le _⟩ (by exact hI) (by omega) (by omega) (by exact fr0 (by omega)) (fun e_40 => ?_)
        have f414_ := br0 hI (r := 0) (by omega)
        refine j_if_ge (tgt := 433) G dL_refusesAny_417 (by decide) (by omega) (fun c417 => ?_) (fun c417 => ?_)
        · refine j_aload_n G 0 dL_refusesAny_433 rfl ?_
          refine j_iconst G dL_refusesAny_434 (v := 0) rfl ?_
          refine j_aload_n G 0 dL_refusesAny_435 rfl ?_
          refine j_iconst G dL_refusesAny_436 (v := 0) rfl ?_
          refine j_iconst G dL_refusesAny_437 (v := 0) rfl ?_
          refine jo_row (r0 := z (7 + 0)) G dL_refusesAny_438 (goodIn_up _ gvX4_row) ⟨by decide, by decide⟩ (Nat.le_of_ble_eq_true rfl) ⟨Nat.zero_le _, Nat.zero_le _⟩ (by exact hI) (by omega) (by omega) (by exact fr0 (by omega)) (fun e_41 => ?_)
          have f438_ := br0 hI (r := 0) (by omega)
          refine jn_hint (r0 := (-4)) G dL_refusesAny_441 (goodIn_up _ gvX4_hint) ⟨by decide, by decide⟩ (Nat.le_of_ble_eq_true rfl) ⟨Nat.zero_le _, Nat.zero_le _⟩ (by exact hI) (by exact hsz) (by omega) (by omega) (by unfold F_hint; rw [if_pos (by omega), if_pos (by omega), if_pos (Or.inl (by omega))]) (by omega) (fun e_42 => ?_)
          refine j_bipush G dL_refusesAny_444 (v := (-4)) rfl ?_
          refine j_icmp_ne (tgt := 481) G dL_refusesAny_446 (by decide) (by omega) (by omega) (fun c446 => absurd c446 (by omega)) (fun c446 => ?_)
          exact lp449 e_42
        · refine j_aload_n G 0 dL_refusesAny_420 rfl ?_
          refine j_iconst G dL_refusesAny_421 (v := 0) rfl ?_
          refine jn_takeBack (r0 := (-5)) G dL_refusesAny_422 (goodIn_up _ gvX4_takeBack) ⟨by decide, by decide⟩ (Nat.le_of_ble_eq_true rfl) ⟨Nat.zero_le _, Nat.zero_le _⟩ (by exact hI) (by exact hsz) (by omega) (by unfold F_back; rw [if_pos (by omega), if_pos (by omega)]) (by omega) (fun e_43 => ?_)
          refine j_bipush G dL_refusesAny_425 (v := (-5)) rfl ?_
          refine j_icmp_ne (tgt := 481) G dL_refusesAny_427 (by decide) (by omega) (by omega) (fun c427 => absurd c427 (by omega)) (fun c427 => ?_)
          refine j_goto (tgt := 449) G dL_refusesAny_430 (by decide) ?_
          exact lp449 e_43
      refine j_aload_n G 0 dL_refusesAny_348 rfl ?_
      refine j_iconst G dL_refusesAny_349 (v := 0) rfl ?_
      refine j_iconst G dL_refusesAny_350 (v := 1) rfl ?_
      refine jo_crew (r0 := z (16 + 4 * 0)) G dL_refusesAny_351 (goodIn_up _ gvX4_crew) ⟨by decide, by decide⟩ (Nat.le_of_ble_eq_true rfl) ⟨Nat.zero_le _, Nat.zero_le _⟩ (by exact hI) (by omega) (by omega) (by exact fc1 (by omega)) (fun e_44 => ?_)
      have f351_ := bc1 hI (k := 0) (by omega)
      refine j_aload_n G 0 dL_refusesAny_354 rfl ?_
      refine j_bipush G dL_refusesAny_355 (v := 14) rfl ?_
      refine jo_count (r0 := z 2) G dL_refusesAny_357 (goodIn_up _ gvX4_count) ⟨by decide, by decide⟩ (Nat.le_of_ble_eq_true rfl) ⟨Nat.zero_le _, Nat.zero_le _⟩ (by exact hI) (by omega) (by rfl) (fun e_45 => ?_)
      have f357_ := hI.s2
      refine j_icmp_lt (tgt := 387) G dL_refusesAny_360 (by decide) (by omega) (by omega) (fun c360 => ?_) (fun c360 => ?_)
      · exact lp387 e_45
      · refine j_aload_n G 0 dL_refusesAny_363 rfl ?_
        refine j_aload_n G 0 dL_refusesAny_364 rfl ?_
        refine j_iconst G dL_refusesAny_365 (v := 0) rfl ?_
        refine j_iconst G dL_refusesAny_366 (v := 0) rfl ?_
        refine jo_crew (r0 := z (15 + 4 * 0)) G dL_refusesAny_367 (goodIn_up _ gvX4_crew) ⟨by decide, by decide⟩ (Nat.le_of_ble_eq_true rfl) ⟨Nat.zero_le _, Nat.zero_le _⟩ (by exact hI) (by omega) (by omega) (by exact fc0 (by omega)) (fun e_46 => ?_)
        have f367_ := bc0 hI (k := 0) (by omega)
        have f367 := bp0 hI (p := z (15 + 4 * 0)) (by omega)
        refine j_iconst G dL_refusesAny_370 (v := 0) rfl ?_
        refine jo_plot (r0 := z (28 + (z (15 + 4 * 0)))) G dL_refusesAny_371 (goodIn_up _ gvX4_plot) ⟨by decide, by decide⟩ (Nat.le_of_ble_eq_true rfl) ⟨Nat.zero_le _, Nat.zero_le _⟩ (by exact hI) (by omega) (by omega) (by exact fp0 (by omega)) (fun e_47 => ?_)
        have f371_ := bp0 hI (p := (z (15 + 4 * 0))) (by omega)
        refine j_if_gt (tgt := 387) G dL_refusesAny_374 (by decide) (by omega) (fun c374 => ?_) (fun c374 => ?_)
        · exact lp387 e_47
        · have f377 := bc1 hI (k := 0) (by omega)
          refine j_aload_n G 0 dL_refusesAny_377 rfl ?_
          refine j_iconst G dL_refusesAny_378 (v := 0) rfl ?_
          refine jn_fell (r0 := (-5)) G dL_refusesAny_379 (goodIn_up _ gvX4_fell) ⟨by decide, by decide⟩ (Nat.le_of_ble_eq_true rfl) ⟨Nat.zero_le _, Nat.zero_le _⟩ (by exact hI) (by exact hsz) (by omega) (by unfold F_fell; rw [if_pos (by omega), if_neg (by omega), if_pos (by omega)]) (by omega) (fun e_48 => ?_)
          refine j_bipush G dL_refusesAny_382 (v := (-5)) rfl ?_
          refine j_icmp_ne (tgt := 481) G dL_refusesAny_384 (by decide) (by omega) (by omega) (fun c384 => absurd c384 (by omega)) (fun c384 => ?_)
          exact lp387 e_48
    refine j_aload_n G 3 dL_refusesAny_323 rfl ?_
    refine j_iconst G dL_refusesAny_324 (v := 0) rfl ?_
    refine j_iconst G dL_refusesAny_325 (v := 1) rfl ?_
    refine jo_crew (r0 := z (16 + 4 * 0)) G dL_refusesAny_326 (goodIn_up _ gvX4_crew) ⟨by decide, by decide⟩ (Nat.le_of_ble_eq_true rfl) ⟨Nat.zero_le _, Nat.zero_le _⟩ (by exact hI) (by omega) (by omega) (by exact fc1 (by omega)) (fun e_49 => ?_)
    have f326_ := bc1 hI (k := 0) (by omega)
    refine j_aload_n G 3 dL_refusesAny_329 rfl ?_
    refine j_bipush G dL_refusesAny_330 (v := 14) rfl ?_
    refine jo_count (r0 := z 2) G dL_refusesAny_332 (goodIn_up _ gvX4_count) ⟨by decide, by decide⟩ (Nat.le_of_ble_eq_true rfl) ⟨Nat.zero_le _, Nat.zero_le _⟩ (by exact hI) (by omega) (by rfl) (fun e_50 => ?_)
    have f332_ := hI.s2
    refine j_icmp_ge (tgt := 348) G dL_refusesAny_335 (by decide) (by omega) (by omega) (fun c335 => ?_) (fun c335 => ?_)
    · refine j_lv [3, 4, 2, 1, 0] (lv' := [(0, .ref h), (1, .int (jI x)), (2, .int (jI (64 + (x % 99)))), (3, .int (jI (3 + (x % 99)))), (4, .int (jI (8 + (x % 99))))]) rfl ?_
      exact lp348 e_50
    · refine j_aload_n G 3 dL_refusesAny_338 rfl ?_
      refine j_iconst G dL_refusesAny_339 (v := 0) rfl ?_
      refine jn_fell (r0 := (-4)) G dL_refusesAny_340 (goodIn_up _ gvX4_fell) ⟨by decide, by decide⟩ (Nat.le_of_ble_eq_true rfl) ⟨Nat.zero_le _, Nat.zero_le _⟩ (by exact hI) (by exact hsz) (by omega) (by unfold F_fell; rw [if_pos (by omega), if_pos (by omega)]) (by omega) (fun e_51 => ?_)
      refine j_bipush G dL_refusesAny_343 (v := (-4)) rfl ?_
      refine j_icmp_ne (tgt := 481) G dL_refusesAny_345 (by decide) (by omega) (by omega) (fun c345 => absurd c345 (by omega)) (fun c345 => ?_)
      refine j_lv [3, 4, 2, 1, 0] (lv' := [(0, .ref h), (1, .int (jI x)), (2, .int (jI (64 + (x % 99)))), (3, .int (jI (3 + (x % 99)))), (4, .int (jI (8 + (x % 99))))]) rfl ?_
      exact lp348 e_51
theorem jl_refusesAny {xc : Cx} {l : Launch} {D : va_G} {Y : Nat → ClassId} {cc : ByteArray} {own : String} {Ts : List Cond} {nL : Nat} {R0 : Room} {ret : Option FieldType} {nm : String} {kc nc pc index h : Nat} {lv : List (Nat × Value)} {st : List Value} {ad : Nat → Nat} {aq : Nat → Nat → Nat} {e : oE} {z zs : Int → Int} {ik sz : Int} {S : Nat → Int → Int} (G : jG xc l D Y cc own Ts nL R0 ret nm) {x : Int} (hdg : decode cc pc = .ok (.invokestatic index, 3)) (hT : GoodIn Ts (va_wsS own index yL_refusesAny wsU_refusesAny)) (hR : 8 ≤ R0.frames ∧ 187 ≤ R0.locals) (hW : (st.map fun v => v.category).sum ≤ 8) (hf : kc ≤ R0.cells ∧ nc ≤ R0.slots) (hI : Inv z) (hB : Bd 48 z) (hsz : 0 ≤ sz ∧ sz ≤ 4) (hx : 0 ≤ x ∧ x ≤ 2147483647) (kk : ∀ e2 : oE, J xc kc nc (oW Y h ad aq e2 z zs ik sz S) (pc + 3) lv (.int (jI 1) :: st)) : J xc kc nc (oW Y h ad aq e z zs ik sz S) pc lv (.int (jI x) :: .ref h :: st) := by
  refine j_callS (nA := 2) (As := [.ref h, .int (jI x)]) (st := st) (wc := oW Y h ad aq e z zs ik sz S) (wr := []) G (c_L_refusesAny l D Y h ad aq e z zs ik sz S x hI hB hsz hx) hdg rfl hT rfl rfl rfl (by decide +kernel) hR rfl (jLe.nil (jLe.rf _)) hW hf (fun v_ w_ hp_ => ?_)
  obtain ⟨e2, rfl, rfl⟩ := hp_
  rw [List.append_nil]
  exact kk e2

set_option maxHeartbeats 40000000 in
set_option maxRecDepth 100000 in
theorem c_L_refuses (l : Launch) (D : va_G) (Y : Nat → ClassId) (h : Nat) (ad : Nat → Nat) (aq : Nat → Nat → Nat) (e : oE) (z zs : Int → Int) (ik sz : Int) (S : Nat → Int → Int) (x : Int) (hI : Inv z) (hB : Bd 48 z) (hsz : 0 ≤ sz ∧ sz ≤ 4) (hx : 0 ≤ x ∧ x ≤ 2147483647) : jM l yL_refuses wsU_refuses { frames := 8, cells := 0, slots := 0, locals := 187 } D Y [.ref h, .int (jI x)] (oW Y h ad aq e z zs ik sz S) (fun v_ w_ => ∃ e2 : oE, v_ = some (.int (jI 1)) ∧ w_ = oW Y h ad aq e2 z zs ik sz S) 0 0 := by
  refine jM_of (cc := cL_refuses) (maxL := 5) (ret := some .boolean) (by decide) rfl (Nat.le_of_ble_eq_true rfl) (fun v w' h => by obtain ⟨_, h, _⟩ := h; exact Or.inr (Or.inl ⟨_, _, rfl, h, jI_z (Or.inr rfl)⟩)) ?_
  intro x_ G kr0
  have G : jG x_ l D Y cL_refuses RL wsU_refuses 5 ({ frames := 8, cells := 0, slots := 0, locals := 187 } : Room) (some .boolean) "refuses" := G
  show J x_ 0 0 (oW Y h ad aq e z zs ik sz S) 0 [(0, .ref h), (1, .int (jI x))] []
  refine j_aload_n G 0 dL_refuses_0 rfl ?_
  refine jl_seen G dL_refuses_1 (goodIn_up _ gsL_seen) ⟨by decide, by decide⟩ (Nat.le_of_ble_eq_true rfl) ⟨Nat.zero_le _, Nat.zero_le _⟩ hI hB (by exact hsz) (fun e_1 => ?_)
  refine j_lstore_n (lv' := [(2, .long (jL (seenZ z))), (0, .ref h), (1, .int (jI x))]) G dL_refuses_4 (by decide) rfl ?_
  refine j_aload_n G 1 dL_refuses_5 rfl ?_
  refine j_bipush G dL_refuses_6 (v := 15) rfl ?_
  refine jo_count (r0 := sz) G dL_refuses_8 (goodIn_up _ gvX4_count) ⟨by decide, by decide⟩ (Nat.le_of_ble_eq_true rfl) ⟨Nat.zero_le _, Nat.zero_le _⟩ (by exact hI) (by omega) (by rfl) (fun e_2 => ?_)
  have f8_ := hsz
  refine j_istore (lv' := [(4, .int (jI sz)), (2, .long (jL (seenZ z))), (0, .ref h), (1, .int (jI x))]) G dL_refuses_11 (by decide) rfl ?_
  refine j_aload_n G 2 dL_refuses_13 rfl ?_
  refine j_iload_n G 3 dL_refuses_14 rfl ?_
  refine jl_refusesAny G dL_refuses_15 (goodIn_up _ gsL_refusesAny) ⟨by decide, by decide⟩ (Nat.le_of_ble_eq_true rfl) ⟨Nat.zero_le _, Nat.zero_le _⟩ hI hB (by exact hsz) (by omega) (fun e_3 => ?_)
  refine j_if_eq (tgt := 45) G dL_refuses_18 (by decide) (by omega) (fun c18 => absurd c18 (by omega)) (fun c18 => ?_)
  refine j_aload_n G 2 dL_refuses_21 rfl ?_
  refine jl_seen G dL_refuses_22 (goodIn_up _ gsL_seen) ⟨by decide, by decide⟩ (Nat.le_of_ble_eq_true rfl) ⟨Nat.zero_le _, Nat.zero_le _⟩ hI hB (by exact hsz) (fun e_4 => ?_)
  refine j_lload_n G 1 dL_refuses_25 rfl ?_
  refine j_lcmp0 G dL_refuses_26 (by rfl) ?_
  refine j_if_ne (tgt := 45) G dL_refuses_27 (by decide) (by omega) (fun c27 => absurd c27 (by omega)) (fun c27 => ?_)
  refine j_aload_n G 2 dL_refuses_30 rfl ?_
  refine j_bipush G dL_refuses_31 (v := 15) rfl ?_
  refine jo_count (r0 := sz) G dL_refuses_33 (goodIn_up _ gvX4_count) ⟨by decide, by decide⟩ (Nat.le_of_ble_eq_true rfl) ⟨Nat.zero_le _, Nat.zero_le _⟩ (by exact hI) (by omega) (by rfl) (fun e_5 => ?_)
  have f33_ := hsz
  refine j_iload G 0 dL_refuses_36 rfl ?_
  refine j_icmp_ne (tgt := 45) G dL_refuses_38 (by decide) (by omega) (by omega) (fun c38 => absurd c38 (by omega)) (fun c38 => ?_)
  refine j_iconst G dL_refuses_41 (v := 1) rfl ?_
  refine j_goto (tgt := 46) G dL_refuses_42 (by decide) ?_
  exact j_reti (r := 1) G dL_refuses_46 (by rfl) (jLe.rf _) (kr0 _ _ ⟨e_5, rfl, rfl⟩)
theorem jl_refuses {xc : Cx} {l : Launch} {D : va_G} {Y : Nat → ClassId} {cc : ByteArray} {own : String} {Ts : List Cond} {nL : Nat} {R0 : Room} {ret : Option FieldType} {nm : String} {kc nc pc index h : Nat} {lv : List (Nat × Value)} {st : List Value} {ad : Nat → Nat} {aq : Nat → Nat → Nat} {e : oE} {z zs : Int → Int} {ik sz : Int} {S : Nat → Int → Int} (G : jG xc l D Y cc own Ts nL R0 ret nm) {x : Int} (hdg : decode cc pc = .ok (.invokestatic index, 3)) (hT : GoodIn Ts (va_wsS own index yL_refuses wsU_refuses)) (hR : 9 ≤ R0.frames ∧ 211 ≤ R0.locals) (hW : (st.map fun v => v.category).sum ≤ 8) (hf : kc ≤ R0.cells ∧ nc ≤ R0.slots) (hI : Inv z) (hB : Bd 48 z) (hsz : 0 ≤ sz ∧ sz ≤ 4) (hx : 0 ≤ x ∧ x ≤ 2147483647) (kk : ∀ e2 : oE, J xc kc nc (oW Y h ad aq e2 z zs ik sz S) (pc + 3) lv (.int (jI 1) :: st)) : J xc kc nc (oW Y h ad aq e z zs ik sz S) pc lv (.int (jI x) :: .ref h :: st) := by
  refine j_callS (nA := 2) (As := [.ref h, .int (jI x)]) (st := st) (wc := oW Y h ad aq e z zs ik sz S) (wr := []) G (c_L_refuses l D Y h ad aq e z zs ik sz S x hI hB hsz hx) hdg rfl hT rfl rfl rfl (by decide +kernel) hR rfl (jLe.nil (jLe.rf _)) hW hf (fun v_ w_ hp_ => ?_)
  obtain ⟨e2, rfl, rfl⟩ := hp_
  rw [List.append_nil]
  exact kk e2
