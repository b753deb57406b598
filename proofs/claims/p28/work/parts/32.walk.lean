/-! THE CLAIM OUT OF ONE WALK OF THE LAW'S BODY. Your part is whole_start (and what it stands on); all else here is the same for every law, but numbers. -/
def R_law : String := "StormFellingLaw"
def lw_P (b : Addr) (xs : List Int32) (args : Array Value) (s : State) : Prop := args = #[.ref b] ∧ s.IntsAt b xs ∧ xs.length ≤ 260 ∧ (Jvm.Cond.and given_1 narrow_1).before args s = true
def lw_Q (_ : Array Value) (s : State) (o : Outcome) (t : State) : Prop := o = .returned (some (.int 1)) ∧ Framed s o t [] 600000 7302250
def lw_Z (below : List Frame) (a : Array Value) (s : State) : State → Prop := fun t => ∃ o, t.status = .running ∧ Ended t below o ∧ lw_Q a s o t
/-- the law's own end, with 1 on the stack, nothing written that was there before, its room as the claim has it -/
theorem lw_ret {p : Program} {l : Launch} {e : Env} {s : State} {m : MethodId} {below : List Frame} {meth : Method} {c : Code} {b : Nat} (hx : p.tables.exec = Jvm.exec) (hb : c.code = code) (hr : meth.sig.returnType = ret) (hlocks : meth.locks = false) {pc : Nat} {H : Heap} {ls : Array Slot} (hdg : decode code pc = .ok (.ireturn, 1)) : W p l e room_1 s m #[Value.ref b] below meth c H [] 600000 7302250 (lw_Z below #[Value.ref b] s) (F0 m pc ls [.int 1]) := by
  intro T hT X
  obtain ⟨fs, hret, hrun, hended, hW, hframe⟩ := X.leave (v := some (.int 1)) (hlocks := hlocks) (fun h => by rw [hr] at h; cases h)
  have hmeth' : T.vm.method? m = some meth := X.method'
  refine ⟨T.setFrames fs, ?_, .returned (some (.int 1)), hrun, hended, rfl, ⟨_, rfl⟩, hW, hframe⟩
  jvm_step X.here [X.here.top, hx, hb, hdg, hmeth', hr, ret, narrow_b1]
  (try refine ⟨rfl, ?_⟩); (try refine ⟨rfl, ?_⟩)
  first | (intro acts; rw [hret _ acts rfl rfl rfl]) | rw [hret _ _ rfl rfl rfl]
  exact Steps.refl _
/-- what holds at the law's entry: the machine, the code, the tables' words (any of lw_tbl by 'hts w (by decide +kernel)'), the script of L ints xs at the cell b, what the Statement gives of the start (any of its parts by flat_of_before) -/
def lw_At (p : Program) (s : State) (m : MethodId) (meth : Method) (c : Code) (b L : Nat) (xs : Nat → Int32) : Prop :=
  p.tables.exec = Jvm.exec ∧ c.code = code ∧ meth.sig.returnType = ret ∧ c.maxLocals = 16 ∧ s.vm.findClass R_law = some m.cls ∧ (∀ w ∈ lw_tbl, w.before #[Value.ref b] s = true) ∧ va_X b L xs s s.heap ∧ b < s.heap.size ∧ meth.locks = false ∧ (Jvm.Cond.and given_1 narrow_1).before #[Value.ref b] s = true
theorem gL_law_X4_init : GoodIn wsL_law wsX4_init := gwX4_init

set_option maxHeartbeats 40000000 in
theorem c_L_cell (l : Launch) (D : va_G) (Y : Nat → ClassId) (b L : Nat) (xs : Nat → Int32) (q : Int) (hL : L ≤ 260) (hq : 0 ≤ q ∧ q ≤ 1000) : jMX l yL_cell wsU_cell { frames := 0, cells := 0, slots := 0, locals := 0 } D Y [.ref b, .int (jI q)] b L xs (fun v_ w_ => ∃ r : Int, (0 ≤ r ∧ r ≤ 2147483647) ∧ v_ = some (.int (jI r)) ∧ w_ = []) 0 0 := by
  refine jMX_of (cc := cL_cell) (maxL := 2) (ret := some .int) (by decide) rfl (Nat.le_of_ble_eq_true rfl) (fun v w' h => by obtain ⟨_, _, h, _⟩ := h; exact Or.inr (Or.inl ⟨_, _, rfl, h, rfl⟩)) ?_
  intro x_ G X kr0
  have G : jG x_ l D Y cL_cell RL wsU_cell 2 ({ frames := 0, cells := 0, slots := 0, locals := 0 } : Room) (some .int) "cell" := G
  show J x_ 0 0 ([]) 0 [(0, .ref b), (1, .int (jI q))] []
  refine j_iload_n G 1 dL_cell_0 rfl ?_
  refine j_aload_n G 0 dL_cell_1 rfl ?_
  refine j_slen G X dL_cell_2 ?_
  refine j_icmp_ge (tgt := 12) G dL_cell_3 (by decide) (by omega) (by omega) (fun c3 => ?_) (fun c3 => ?_)
  · refine j_ldc (v := 1294757372) G dL_cell_12 (List.mem_cons_of_mem _ (List.mem_of_getElem? (i := 419) rfl)) rfl ?_
    refine j_iload_n G 1 dL_cell_14 rfl ?_
    refine j_sipush G dL_cell_15 (v := 239) rfl ?_
    refine j_iadd G dL_cell_18 ?_
    refine j_imul G dL_cell_19 ?_
    refine j_ldc (v := 47017) G dL_cell_20 (List.mem_cons_of_mem _ (List.mem_of_getElem? (i := 420) rfl)) rfl ?_
    refine j_iadd G dL_cell_22 ?_
    refine j_ldc (v := 2147483647) G dL_cell_23 (List.mem_cons_of_mem _ (List.mem_of_getElem? (i := 421) rfl)) rfl ?_
    refine j_andMax G dL_cell_25 (fun v hv => ?_)
    exact j_reti (r := v) G dL_cell_26 (by rfl) (jLe.rf _) (kr0 _ _ ⟨v, hv, rfl, rfl⟩)
  · refine j_aload_n G 0 dL_cell_6 rfl ?_
    refine j_iload_n G 1 dL_cell_7 rfl ?_
    refine j_sld G X dL_cell_8 hL (by omega) ?_
    refine j_goto (tgt := 23) G dL_cell_9 (by decide) ?_
    refine j_ldc (v := 2147483647) G dL_cell_23 (List.mem_cons_of_mem _ (List.mem_of_getElem? (i := 421) rfl)) rfl ?_
    refine j_andMax G dL_cell_25 (fun v hv => ?_)
    exact j_reti (r := v) G dL_cell_26 (by rfl) (jLe.rf _) (kr0 _ _ ⟨v, hv, rfl, rfl⟩)

theorem up_b {sz : Int} (h : 0 ≤ sz ∧ sz ≤ 4) : 0 ≤ hUp sz ∧ hUp sz ≤ 4 := by have := (up_is h).2; omega
theorem dn_b {sz : Int} (h : 0 ≤ sz ∧ sz ≤ 4) : 0 ≤ hUp sz - 1 ∧ hUp sz - 1 ≤ 4 := by have := (up_is h).2; omega
set_option maxHeartbeats 40000000 in
set_option maxRecDepth 100000 in
theorem law_rest {x_ : Cx} {l : Launch} {D : va_G} {Y : Nat → ClassId} {nm : String} {rt : Option FieldType} {b L : Nat} {xs : Nat → Int32} (G : jG x_ l D Y cL_law RL wsL_law 16 room_1 rt nm) (X : jX x_ b L xs) (hL : L ≤ 260) (kend : ∀ {ws : va_W} (pc : Nat) (lv : List (Nat × Value)), decode cL_law pc = .ok (.ireturn, 1) → J x_ 71 1360 ws pc lv [.int (jI 1)]) (h : Nat) (ad : Nat → Nat) (aq : Nat → Nat → Nat) (e : oE) : J x_ 71 1360 (oW Y h ad aq e z0 z0 0 0 (fun _ => z0)) 8 [(1, .ref h), (0, .ref b)] [] := by
  have hB0 : Bd 48 z0 := z0_Bd.mono (by omega)
  have v0 : z0 0 = 8 := by decide
  have v1 : z0 1 = 0 := by decide
  have v2 : z0 2 = 3 := by decide
  have v3 : z0 3 = 0 := by decide
  have v4 : z0 (15 + 4 * 2) = 2 := by decide
  have v5 : z0 (16 + 4 * 2) = 8 := by decide
  refine j_aload_n G 0 dL_law_8 rfl ?_
  refine jo_undo (r0 := (-5)) G dL_law_9 gvX4_undo ⟨by decide, by decide⟩ (Nat.le_of_ble_eq_true rfl) ⟨Nat.le_of_ble_eq_true rfl, Nat.le_of_ble_eq_true rfl⟩ (by decide) (by intro i a b; omega) (by exact if_pos rfl) (fun e_1 => ?_)
  rw [show hTop 0 (fun _ => z0) z0 = z0 from if_pos rfl, show hDn 0 = 0 from if_pos rfl]
  refine j_bipush G dL_law_12 (v := (-5)) rfl ?_
  refine j_icmp_ne (tgt := 104) G dL_law_14 (by decide) (by omega) (by omega) (fun c14 => absurd c14 (by omega)) (fun c14 => ?_)
  refine j_aload_n G 0 dL_law_17 rfl ?_
  refine jn_restore G dL_law_18 gvX4_restore ⟨by decide, by decide⟩ (Nat.le_of_ble_eq_true rfl) ⟨Nat.le_of_ble_eq_true rfl, Nat.le_of_ble_eq_true rfl⟩ (by exact z0_inv) (by decide) (fun e_2 => ?_)
  refine j_bipush G dL_law_21 (v := (-5)) rfl ?_
  refine j_icmp_ne (tgt := 104) G dL_law_23 (by decide) (by omega) (by omega) (fun c23 => absurd c23 (by omega)) (fun c23 => ?_)
  refine j_aload_n G 0 dL_law_26 rfl ?_
  refine j_bipush G dL_law_27 (v := 12) rfl ?_
  refine jo_count (r0 := z0 0) G dL_law_29 gvX4_count ⟨by decide, by decide⟩ (Nat.le_of_ble_eq_true rfl) ⟨Nat.le_of_ble_eq_true rfl, Nat.le_of_ble_eq_true rfl⟩ (by exact z0_inv) (by omega) (by rfl) (fun e_3 => ?_)
  have f29_ := z0_inv.s0
  refine j_bipush G dL_law_32 (v := 8) rfl ?_
  refine j_icmp_ne (tgt := 104) G dL_law_34 (by decide) (by omega) (by omega) (fun c34 => absurd c34 (by omega)) (fun c34 => ?_)
  refine j_aload_n G 0 dL_law_37 rfl ?_
  refine j_bipush G dL_law_38 (v := 13) rfl ?_
  refine jo_count (r0 := z0 1) G dL_law_40 gvX4_count ⟨by decide, by decide⟩ (Nat.le_of_ble_eq_true rfl) ⟨Nat.le_of_ble_eq_true rfl, Nat.le_of_ble_eq_true rfl⟩ (by exact z0_inv) (by omega) (by rfl) (fun e_4 => ?_)
  have f40_ := z0_inv.s1
  refine j_if_ne (tgt := 104) G dL_law_43 (by decide) (by omega) (fun c43 => absurd c43 (by omega)) (fun c43 => ?_)
  refine j_aload_n G 0 dL_law_46 rfl ?_
  refine j_bipush G dL_law_47 (v := 14) rfl ?_
  refine jo_count (r0 := z0 2) G dL_law_49 gvX4_count ⟨by decide, by decide⟩ (Nat.le_of_ble_eq_true rfl) ⟨Nat.le_of_ble_eq_true rfl, Nat.le_of_ble_eq_true rfl⟩ (by exact z0_inv) (by omega) (by rfl) (fun e_5 => ?_)
  have f49_ := z0_inv.s2
  refine j_iconst G dL_law_52 (v := 3) rfl ?_
  refine j_icmp_ne (tgt := 104) G dL_law_53 (by decide) (by omega) (by omega) (fun c53 => absurd c53 (by omega)) (fun c53 => ?_)
  refine j_aload_n G 0 dL_law_56 rfl ?_
  refine j_iconst G dL_law_57 (v := 2) rfl ?_
  refine j_iconst G dL_law_58 (v := 0) rfl ?_
  refine jo_crew (r0 := z0 (15 + 4 * 2)) G dL_law_59 gvX4_crew ⟨by decide, by decide⟩ (Nat.le_of_ble_eq_true rfl) ⟨Nat.le_of_ble_eq_true rfl, Nat.le_of_ble_eq_true rfl⟩ (by exact z0_inv) (by omega) (by omega) (by exact fc0 (by omega)) (fun e_6 => ?_)
  have f59_ := bc0 z0_inv (k := 2) (by omega)
  refine j_iconst G dL_law_62 (v := 2) rfl ?_
  refine j_icmp_ne (tgt := 104) G dL_law_63 (by decide) (by omega) (by omega) (fun c63 => absurd c63 (by omega)) (fun c63 => ?_)
  refine j_aload_n G 0 dL_law_66 rfl ?_
  refine j_iconst G dL_law_67 (v := 2) rfl ?_
  refine j_iconst G dL_law_68 (v := 1) rfl ?_
  refine jo_crew (r0 := z0 (16 + 4 * 2)) G dL_law_69 gvX4_crew ⟨by decide, by decide⟩ (Nat.le_of_ble_eq_true rfl) ⟨Nat.le_of_ble_eq_true rfl, Nat.le_of_ble_eq_true rfl⟩ (by exact z0_inv) (by omega) (by omega) (by exact fc1 (by omega)) (fun e_7 => ?_)
  have f69_ := bc1 z0_inv (k := 2) (by omega)
  refine j_bipush G dL_law_72 (v := 8) rfl ?_
  refine j_icmp_ne (tgt := 104) G dL_law_74 (by decide) (by omega) (by omega) (fun c74 => absurd c74 (by omega)) (fun c74 => ?_)
  refine j_aload_n G 0 dL_law_77 rfl ?_
  refine j_iconst G dL_law_78 (v := 0) rfl ?_
  refine jl_refuses G dL_law_79 gsL_refuses ⟨by decide, by decide⟩ (Nat.le_of_ble_eq_true rfl) ⟨Nat.le_of_ble_eq_true rfl, Nat.le_of_ble_eq_true rfl⟩ z0_inv hB0 (by exact (by decide)) (by omega) (fun e_8 => ?_)
  refine j_if_eq (tgt := 104) G dL_law_82 (by decide) (by omega) (fun c82 => absurd c82 (by omega)) (fun c82 => ?_)
  refine j_aload_n G 0 dL_law_85 rfl ?_
  refine j_iconst G dL_law_86 (v := 1) rfl ?_
  refine jl_refuses G dL_law_87 gsL_refuses ⟨by decide, by decide⟩ (Nat.le_of_ble_eq_true rfl) ⟨Nat.le_of_ble_eq_true rfl, Nat.le_of_ble_eq_true rfl⟩ z0_inv hB0 (by exact (by decide)) (by omega) (fun e_9 => ?_)
  refine j_if_eq (tgt := 104) G dL_law_90 (by decide) (by omega) (fun c90 => absurd c90 (by omega)) (fun c90 => ?_)
  refine j_aload_n G 0 dL_law_93 rfl ?_
  refine jo_keep (r0 := z0 3) G dL_law_94 gvX4_keep ⟨by decide, by decide⟩ (Nat.le_of_ble_eq_true rfl) ⟨Nat.le_of_ble_eq_true rfl, Nat.le_of_ble_eq_true rfl⟩ (by exact z0_inv) (by rfl) (fun e_10 => ?_)
  refine j_if_ne (tgt := 104) G dL_law_97 (by decide) (by omega) (fun c97 => absurd c97 (by omega)) (fun c97 => ?_)
  refine j_iconst G dL_law_100 (v := 1) rfl ?_
  refine j_goto (tgt := 105) G dL_law_101 (by decide) ?_
  refine j_istore_n (lv' := [(2, .int (jI 1)), (1, .ref h), (0, .ref b)]) G dL_law_105 (by decide) rfl ?_
  refine j_aload_n G 1 dL_law_106 rfl ?_
  refine jl_seen G dL_law_107 gsL_seen ⟨by decide, by decide⟩ (Nat.le_of_ble_eq_true rfl) ⟨Nat.le_of_ble_eq_true rfl, Nat.le_of_ble_eq_true rfl⟩ z0_inv hB0 (by exact (by decide)) (fun e_11 => ?_)
  refine j_lstore_n (lv' := [(3, .long (jL (seenZ z0))), (2, .int (jI 1)), (1, .ref h), (0, .ref b)]) G dL_law_110 (by decide) rfl ?_
  refine j_iconst G dL_law_111 (v := 0) rfl ?_
  refine j_istore (lv' := [(5, .int (jI 0)), (3, .long (jL (seenZ z0))), (2, .int (jI 1)), (1, .ref h), (0, .ref b)]) G dL_law_112 (by decide) rfl ?_
  refine j_iconst G dL_law_114 (v := 0) rfl ?_
  refine j_istore (lv' := [(6, .int (jI 0)), (5, .int (jI 0)), (3, .long (jL (seenZ z0))), (2, .int (jI 1)), (1, .ref h), (0, .ref b)]) G dL_law_115 (by decide) rfl ?_
  have lp117 : ∀ (n_ : Nat) (n : Int) (dy : Int) (e : oE) (z : Int → Int) (zs : Int → Int) (sz : Int) (S : Nat → Int → Int), (0 ≤ n ∧ n ≤ 48) → (Inv z) → (Bd n z) → (Inv zs) → (Bd n zs) → (His n sz S) → (dy = zs 3) → (48 - n) < (n_ : Int) → J x_ 71 1360 (oW Y h ad aq e z zs 1 sz S) 117 [(0, .ref b), (1, .ref h), (2, .int (jI 1)), (3, .long (jL (seenZ zs))), (5, .int (jI dy)), (6, .int (jI n))] [] := by
    intro n_
    induction n_ with
    | zero =>
      intro n dy e z zs sz S hn hI hBn hIs hBs hH hdy hm_
      exact absurd hm_ (by omega)
    | succ n_ ih117 =>
      intro n dy e z zs sz S hn hI hBn hIs hBs hH hdy hm_
      refine j_iload G 5 dL_law_117 rfl ?_
      refine j_bipush G dL_law_119 (v := 48) rfl ?_
      refine j_icmp_ge (tgt := 418) G dL_law_121 (by decide) (by omega) (by omega) (fun c121 => ?_) (fun c121 => ?_)
      · refine j_iload_n G 2 dL_law_418 rfl ?_
        exact kend _ _ dL_law_419
      · have hsz := hH.1
        have hB : Bd 48 z := hBn.mono (by omega)
        have hBs48 : Bd 48 zs := hBs.mono (by omega)
        refine j_iload_n G 2 dL_law_124 rfl ?_
        refine j_if_eq (tgt := 418) G dL_law_125 (by decide) (by omega) (fun c125 => absurd c125 (by omega)) (fun c125 => ?_)
        refine j_aload_n G 0 dL_law_128 rfl ?_
        refine j_iload G 5 dL_law_129 rfl ?_
        refine j_callSX (nA := 2) (As := [.ref b, .int (jI n)]) (st := []) G X (c_L_cell l D Y b L xs n hL (by omega)) dL_law_131 rfl gsL_cell rfl rfl rfl (by decide +kernel) ⟨by decide, by decide⟩ rfl (Nat.le_of_ble_eq_true rfl) ⟨Nat.le_of_ble_eq_true rfl, Nat.le_of_ble_eq_true rfl⟩ (fun v_ w_ hp_ => ?_)
        obtain ⟨xx, hxx, rfl, rfl⟩ := hp_
        show J x_ 71 1360 (oW Y h ad aq e z zs 1 sz S) 134 [(0, .ref b), (1, .ref h), (2, .int (jI 1)), (3, .long (jL (seenZ zs))), (5, .int (jI dy)), (6, .int (jI n))] [.int (jI xx)]
        refine j_istore (lv' := [(7, .int (jI xx)), (0, .ref b), (1, .ref h), (2, .int (jI 1)), (3, .long (jL (seenZ zs))), (5, .int (jI dy)), (6, .int (jI n))]) G dL_law_134 (by decide) rfl ?_
        refine j_aload_n G 2 dL_law_136 rfl ?_
        refine jl_seen G dL_law_137 gsL_seen ⟨by decide, by decide⟩ (Nat.le_of_ble_eq_true rfl) ⟨Nat.le_of_ble_eq_true rfl, Nat.le_of_ble_eq_true rfl⟩ hI hB (by exact hsz) (fun e_13 => ?_)
        refine j_lstore (lv' := [(8, .long (jL (seenZ z))), (7, .int (jI xx)), (0, .ref b), (1, .ref h), (2, .int (jI 1)), (3, .long (jL (seenZ zs))), (5, .int (jI dy)), (6, .int (jI n))]) G dL_law_140 (by decide) rfl ?_
        refine j_aload_n G 3 dL_law_142 rfl ?_
        refine j_bipush G dL_law_143 (v := 15) rfl ?_
        refine jo_count (r0 := sz) G dL_law_145 gvX4_count ⟨by decide, by decide⟩ (Nat.le_of_ble_eq_true rfl) ⟨Nat.le_of_ble_eq_true rfl, Nat.le_of_ble_eq_true rfl⟩ (by exact hI) (by omega) (by rfl) (fun e_14 => ?_)
        have f145_ := hsz
        refine j_istore (lv' := [(10, .int (jI sz)), (8, .long (jL (seenZ z))), (7, .int (jI xx)), (0, .ref b), (1, .ref h), (2, .int (jI 1)), (3, .long (jL (seenZ zs))), (5, .int (jI dy)), (6, .int (jI n))]) G dL_law_148 (by decide) rfl ?_
        refine j_aload_n G 4 dL_law_150 rfl ?_
        refine j_iload G 2 dL_law_151 rfl ?_
        refine jl_act (n := n) G dL_law_153 gsL_act ⟨by decide, by decide⟩ (Nat.le_of_ble_eq_true rfl) ⟨Nat.le_of_ble_eq_true rfl, Nat.le_of_ble_eq_true rfl⟩ hI hBn (by omega) (by exact hsz) (by omega) (fun e_15 ra za hA_ => ?_)
        obtain ⟨hra, hza, hIa, hBa⟩ := hA_
        have hBa48 : Bd 48 za := hBa.mono (by omega)
        refine j_istore (lv' := [(11, .int (jI ra)), (10, .int (jI sz)), (8, .long (jL (seenZ z))), (7, .int (jI xx)), (0, .ref b), (1, .ref h), (2, .int (jI 1)), (3, .long (jL (seenZ zs))), (5, .int (jI dy)), (6, .int (jI n))]) G dL_law_156 (by decide) rfl ?_
        refine j_aload_n G 5 dL_law_158 rfl ?_
        refine j_bipush G dL_law_159 (v := 15) rfl ?_
        refine jo_count (r0 := hSz ra sz) G dL_law_161 gvX4_count ⟨by decide, by decide⟩ (Nat.le_of_ble_eq_true rfl) ⟨Nat.le_of_ble_eq_true rfl, Nat.le_of_ble_eq_true rfl⟩ (by exact hIa) (by omega) (by rfl) (fun e_16 => ?_)
        have f161_ := hSz_b (a := ra) hsz
        refine j_istore (lv' := [(12, .int (jI (hSz ra sz))), (11, .int (jI ra)), (10, .int (jI sz)), (8, .long (jL (seenZ z))), (7, .int (jI xx)), (0, .ref b), (1, .ref h), (2, .int (jI 1)), (3, .long (jL (seenZ zs))), (5, .int (jI dy)), (6, .int (jI n))]) G dL_law_164 (by decide) rfl ?_
        refine j_iload G 1 dL_law_166 rfl ?_
        refine j_bipush G dL_law_168 (v := (-9)) rfl ?_
        refine j_icmp_le (tgt := 272) G dL_law_170 (by decide) (by omega) (by omega) (fun c170 => absurd c170 (by omega)) (fun c170 => ?_)
        have lp217 : ∀ (e217 : oE), J x_ 71 1360 (oW Y h ad aq e217 za zs 1 (hSz ra sz) (hSt ra sz S z)) 217 [(0, .ref b), (1, .ref h), (3, .long (jL (seenZ zs))), (5, .int (jI dy)), (6, .int (jI n)), (7, .int (jI xx)), (8, .long (jL (seenZ z))), (10, .int (jI sz)), (11, .int (jI ra))] [] := by
          intro e217
          have lp246 : ∀ (e246 : oE), J x_ 71 1360 (oW Y h ad aq e246 za zs 1 (hSz ra sz) (hSt ra sz S z)) 246 [(0, .ref b), (1, .ref h), (3, .long (jL (seenZ zs))), (5, .int (jI dy)), (6, .int (jI n)), (7, .int (jI xx)), (8, .long (jL (seenZ z))), (10, .int (jI sz)), (11, .int (jI ra))] [] := by
            intro e246
            have lp268 : ∀ (e268 : oE), J x_ 71 1360 (oW Y h ad aq e268 za zs 1 (hSz ra sz) (hSt ra sz S z)) 268 [(0, .ref b), (1, .ref h), (3, .long (jL (seenZ zs))), (5, .int (jI dy)), (6, .int (jI n)), (7, .int (jI xx)), (8, .long (jL (seenZ z))), (10, .int (jI sz)), (11, .int (jI ra))] [] := by
              intro e268
              refine j_iconst G dL_law_268 (v := 1) rfl ?_
              refine j_goto (tgt := 273) G dL_law_269 (by decide) ?_
              refine j_istore_n (lv' := [(2, .int (jI 1)), (0, .ref b), (1, .ref h), (3, .long (jL (seenZ zs))), (5, .int (jI dy)), (6, .int (jI n)), (7, .int (jI xx)), (8, .long (jL (seenZ z))), (10, .int (jI sz)), (11, .int (jI ra))]) G dL_law_273 (by decide) rfl ?_
              refine j_iload_n G 0 dL_law_274 rfl ?_
              refine j_if_eq (tgt := 328) G dL_law_275 (by decide) (by omega) (fun c275 => absurd c275 (by omega)) (fun c275 => ?_)
              have lp328 : ∀ (e3 : oE) (z3 : Int → Int) (sz3 : Int) (S3 : Nat → Int → Int), (Inv z3) → (Bd (n + 1) z3) → (His (n + 1) sz3 S3) → J x_ 71 1360 (oW Y h ad aq e3 z3 zs 1 sz3 S3) 328 [(0, .ref b), (1, .ref h), (2, .int (jI 1)), (3, .long (jL (seenZ zs))), (5, .int (jI dy)), (6, .int (jI n))] [] := by
                intro e3 z3 sz3 S3 hI3 hB3 hH3
                refine j_iload_n G 2 dL_law_328 rfl ?_
                refine j_if_eq (tgt := 412) G dL_law_329 (by decide) (by omega) (fun c329 => absurd c329 (by omega)) (fun c329 => ?_)
                refine j_iload G 5 dL_law_332 rfl ?_
                refine j_bipush G dL_law_334 (v := 12) rfl ?_
                refine j_irem G dL_law_336 (by omega) (by omega) ?_
                refine j_bipush G dL_law_337 (v := 11) rfl ?_
                refine j_icmp_ne (tgt := 412) G dL_law_339 (by decide) (by omega) (by omega) (fun c339 => ?_) (fun c339 => ?_)
                · refine j_iinc (w := n + 1) (lv' := [(6, .int (jI (n + 1))), (0, .ref b), (1, .ref h), (2, .int (jI 1)), (3, .long (jL (seenZ zs))), (5, .int (jI dy))]) G 5 dL_law_412 rfl rfl (by decide) rfl ?_
                  refine j_goto (tgt := 117) G dL_law_415 (by decide) ?_
                  refine j_lv [1, 2, 3, 4, 5, 0] (lv' := [(0, .ref b), (1, .ref h), (2, .int (jI 1)), (3, .long (jL (seenZ zs))), (5, .int (jI dy)), (6, .int (jI (n + 1)))]) rfl ?_
                  exact ih117 (n + 1) dy e3 z3 zs sz3 S3 (by omega) (by exact hI3) (by exact hB3) (by first | exact hIs | exact hI3) (by first | exact hBs.mono (by omega) | exact hB3) (by first | exact hH3 | exact (by have q := (hH3.push hI3 hB3).down; rw [show hDn (hUp sz3) = hUp sz3 - 1 from if_neg (by omega)] at q; exact q)) (by first | exact hdy | rfl) (by omega)
                · have hB348 : Bd 48 z3 := hB3.mono (by omega)
                  have u4 := up_is hH3.1
                  have hds := hIs.da
                  refine j_aload_n G 1 dL_law_342 rfl ?_
                  refine jl_seen G dL_law_343 gsL_seen ⟨by decide, by decide⟩ (Nat.le_of_ble_eq_true rfl) ⟨Nat.le_of_ble_eq_true rfl, Nat.le_of_ble_eq_true rfl⟩ hI3 hB348 (by exact hH3.1) (fun e_17 => ?_)
                  refine j_lstore (lv' := [(13, .long (jL (seenZ z3))), (0, .ref b), (1, .ref h), (2, .int (jI 1)), (3, .long (jL (seenZ zs))), (5, .int (jI dy)), (6, .int (jI n))]) G dL_law_346 (by decide) rfl ?_
                  refine j_aload_n G 2 dL_law_348 rfl ?_
                  refine j_iconst G dL_law_349 (v := 0) rfl ?_
                  refine jo_count (r0 := z3 3) G dL_law_350 gvX4_count ⟨by decide, by decide⟩ (Nat.le_of_ble_eq_true rfl) ⟨Nat.le_of_ble_eq_true rfl, Nat.le_of_ble_eq_true rfl⟩ (by exact hI3) (by omega) (by rfl) (fun e_18 => ?_)
                  have f350_ := hI3.da
                  refine j_istore (lv' := [(15, .int (jI (z3 3))), (13, .long (jL (seenZ z3))), (0, .ref b), (1, .ref h), (2, .int (jI 1)), (3, .long (jL (seenZ zs))), (5, .int (jI dy)), (6, .int (jI n))]) G dL_law_353 (by decide) rfl ?_
                  refine j_aload_n G 3 dL_law_355 rfl ?_
                  refine ja_restore G dL_law_356 gvX4_restore ⟨by decide, by decide⟩ (Nat.le_of_ble_eq_true rfl) ⟨Nat.le_of_ble_eq_true rfl, Nat.le_of_ble_eq_true rfl⟩ (by exact hI3) (by exact hH3.1) (by exact hIs) (fun e_19 => ?_)
                  refine j_iload G 6 dL_law_359 rfl ?_
                  refine j_icmp_ne (tgt := 403) G dL_law_361 (by decide) (by omega) (by omega) (fun c361 => absurd c361 (by omega)) (fun c361 => ?_)
                  refine j_aload_n G 3 dL_law_364 rfl ?_
                  refine jl_seen G dL_law_365 gsL_seen ⟨by decide, by decide⟩ (Nat.le_of_ble_eq_true rfl) ⟨Nat.le_of_ble_eq_true rfl, Nat.le_of_ble_eq_true rfl⟩ hIs hBs48 (by exact (up_b hH3.1)) (fun e_20 => ?_)
                  refine j_lload_n G 5 dL_law_368 rfl ?_
                  refine j_lcmp0 G dL_law_369 (by rfl) ?_
                  refine j_if_ne (tgt := 403) G dL_law_370 (by decide) (by omega) (fun c370 => absurd c370 (by omega)) (fun c370 => ?_)
                  refine j_aload_n G 3 dL_law_373 rfl ?_
                  refine jo_undo (r0 := hUp sz3 - 1) G dL_law_374 gvX4_undo ⟨by decide, by decide⟩ (Nat.le_of_ble_eq_true rfl) ⟨Nat.le_of_ble_eq_true rfl, Nat.le_of_ble_eq_true rfl⟩ (by exact (up_b hH3.1)) (by intro i a b; exact ((hH3.push hI3 hB3).2 i a b).1) (by exact if_neg (by omega)) (fun e_21 => ?_)
                  rw [top_push sz3 S3 z3 zs hH3.1, show hDn (hUp sz3) = hUp sz3 - 1 from if_neg (by omega)]
                  refine j_if_lt (tgt := 403) G dL_law_377 (by decide) (by omega) (fun c377 => absurd c377 (by omega)) (fun c377 => ?_)
                  refine j_aload_n G 3 dL_law_380 rfl ?_
                  refine jl_seen G dL_law_381 gsL_seen ⟨by decide, by decide⟩ (Nat.le_of_ble_eq_true rfl) ⟨Nat.le_of_ble_eq_true rfl, Nat.le_of_ble_eq_true rfl⟩ hI3 hB348 (by exact (dn_b hH3.1)) (fun e_22 => ?_)
                  refine j_lload G 1 dL_law_384 rfl ?_
                  refine j_lcmp0 G dL_law_386 (by rfl) ?_
                  refine j_if_ne (tgt := 403) G dL_law_387 (by decide) (by omega) (fun c387 => absurd c387 (by omega)) (fun c387 => ?_)
                  refine j_aload_n G 3 dL_law_390 rfl ?_
                  refine jo_keep (r0 := z3 3) G dL_law_391 gvX4_keep ⟨by decide, by decide⟩ (Nat.le_of_ble_eq_true rfl) ⟨Nat.le_of_ble_eq_true rfl, Nat.le_of_ble_eq_true rfl⟩ (by exact hI3) (by rfl) (fun e_23 => ?_)
                  refine j_iload G 0 dL_law_394 rfl ?_
                  refine j_icmp_ne (tgt := 403) G dL_law_396 (by decide) (by omega) (by omega) (fun c396 => absurd c396 (by omega)) (fun c396 => ?_)
                  refine j_iconst G dL_law_399 (v := 1) rfl ?_
                  refine j_goto (tgt := 404) G dL_law_400 (by decide) ?_
                  refine j_istore_n (lv' := [(2, .int (jI 1)), (15, .int (jI (z3 3))), (13, .long (jL (seenZ z3))), (0, .ref b), (1, .ref h), (3, .long (jL (seenZ zs))), (5, .int (jI dy)), (6, .int (jI n))]) G dL_law_404 (by decide) rfl ?_
                  refine j_lload G 2 dL_law_405 rfl ?_
                  refine j_lstore_n (lv' := [(3, .long (jL (seenZ z3))), (2, .int (jI 1)), (15, .int (jI (z3 3))), (13, .long (jL (seenZ z3))), (0, .ref b), (1, .ref h), (5, .int (jI dy)), (6, .int (jI n))]) G dL_law_407 (by decide) rfl ?_
                  refine j_iload G 2 dL_law_408 rfl ?_
                  refine j_istore (lv' := [(5, .int (jI (z3 3))), (3, .long (jL (seenZ z3))), (2, .int (jI 1)), (15, .int (jI (z3 3))), (13, .long (jL (seenZ z3))), (0, .ref b), (1, .ref h), (6, .int (jI n))]) G dL_law_410 (by decide) rfl ?_
                  refine j_iinc (w := n + 1) (lv' := [(6, .int (jI (n + 1))), (5, .int (jI (z3 3))), (3, .long (jL (seenZ z3))), (2, .int (jI 1)), (15, .int (jI (z3 3))), (13, .long (jL (seenZ z3))), (0, .ref b), (1, .ref h)]) G 7 dL_law_412 rfl rfl (by decide) rfl ?_
                  refine j_goto (tgt := 117) G dL_law_415 (by decide) ?_
                  refine j_lv [6, 7, 3, 2, 1, 0] (lv' := [(0, .ref b), (1, .ref h), (2, .int (jI 1)), (3, .long (jL (seenZ z3))), (5, .int (jI (z3 3))), (6, .int (jI (n + 1)))]) rfl ?_
                  exact ih117 (n + 1) (z3 3) e_23 z3 z3 (hUp sz3 - 1) (hPush sz3 S3 z3) (by omega) (by exact hI3) (by exact hB3) (by first | exact hIs | exact hI3) (by first | exact hBs.mono (by omega) | exact hB3) (by first | exact hH3 | exact (by have q := (hH3.push hI3 hB3).down; rw [show hDn (hUp sz3) = hUp sz3 - 1 from if_neg (by omega)] at q; exact q)) (by first | exact hdy | rfl) (by omega)
              refine j_iload G 9 dL_law_278 rfl ?_
              refine j_if_lt (tgt := 328) G dL_law_280 (by decide) (by omega) (fun c280 => ?_) (fun c280 => ?_)
              · refine j_lv [1, 2, 0, 3, 4, 5] (lv' := [(0, .ref b), (1, .ref h), (2, .int (jI 1)), (3, .long (jL (seenZ zs))), (5, .int (jI dy)), (6, .int (jI n))]) rfl ?_
                exact lp328 e268 za (hSz ra sz) (hSt ra sz S z) (by first | exact hIa | exact hI) (by first | exact hBa | exact hBn.mono (by omega)) (by first | exact (hH.act hI hBn ra).mono (by omega) | exact (by have q := (hH.push hI hBn).down; rw [show hDn (hUp sz) = hUp sz - 1 from if_neg (by omega)] at q; exact q.mono (by omega)))
              · refine j_iload G 6 dL_law_283 rfl ?_
                refine j_bipush G dL_law_285 (v := 17) rfl ?_
                refine j_idiv G dL_law_287 (by omega) (by omega) ?_
                refine j_iconst G dL_law_288 (v := 4) rfl ?_
                refine j_irem G dL_law_289 (by omega) (by omega) ?_
                refine j_if_ne (tgt := 328) G dL_law_290 (by decide) (by omega) (fun c290 => ?_) (fun c290 => ?_)
                · refine j_lv [1, 2, 0, 3, 4, 5] (lv' := [(0, .ref b), (1, .ref h), (2, .int (jI 1)), (3, .long (jL (seenZ zs))), (5, .int (jI dy)), (6, .int (jI n))]) rfl ?_
                  exact lp328 e268 za (hSz ra sz) (hSt ra sz S z) (by first | exact hIa | exact hI) (by first | exact hBa | exact hBn.mono (by omega)) (by first | exact (hH.act hI hBn ra).mono (by omega) | exact (by have q := (hH.push hI hBn).down; rw [show hDn (hUp sz) = hUp sz - 1 from if_neg (by omega)] at q; exact q.mono (by omega)))
                · have u1 : hSz ra sz = hUp sz := if_pos (by omega)
                  have u3 : hSt ra sz S z = hPush sz S z := if_pos (by omega)
                  have u2 := up_is hsz
                  rw [u1, u3]
                  refine j_aload_n G 2 dL_law_293 rfl ?_
                  refine jo_undo (r0 := hUp sz - 1) G dL_law_294 gvX4_undo ⟨by decide, by decide⟩ (Nat.le_of_ble_eq_true rfl) ⟨Nat.le_of_ble_eq_true rfl, Nat.le_of_ble_eq_true rfl⟩ (by exact (up_b hsz)) (by intro i a b; exact ((hH.push hI hBn).2 i a b).1) (by exact if_neg (by omega)) (fun e_24 => ?_)
                  rw [top_push sz S z za hsz, show hDn (hUp sz) = hUp sz - 1 from if_neg (by omega)]
                  refine j_iload G 8 dL_law_297 rfl ?_
                  refine j_iconst G dL_law_299 (v := 4) rfl ?_
                  obtain ⟨tv_25, htv_25⟩ : ∃ v_ : Int, v_ = (if 4 ≤ sz then 3 else sz) := ⟨_, rfl⟩
                  suffices hj_26 : J x_ 71 1360 (oW Y h ad aq e_24 z zs 1 (hUp sz - 1) (hPush sz S z)) 309 [(2, .int (jI 1)), (0, .ref b), (1, .ref h), (3, .long (jL (seenZ zs))), (5, .int (jI dy)), (6, .int (jI n)), (7, .int (jI xx)), (8, .long (jL (seenZ z))), (10, .int (jI sz)), (11, .int (jI ra))] [.int (jI tv_25), .int (jI (hUp sz - 1))] by
                    refine j_icmp_ge (tgt := 308) G dL_law_300 (by decide) (by omega) (by omega) (fun c300 => ?_) (fun c300 => ?_)
                    · refine j_iconst G dL_law_308 (v := 3) rfl ?_
                      rw [if_pos (show 4 ≤ sz by omega)] at htv_25
                      subst htv_25
                      exact hj_26
                    · refine j_iload G 8 dL_law_303 rfl ?_
                      refine j_goto (tgt := 309) G dL_law_305 (by decide) ?_
                      rw [if_neg (show ¬ (4 ≤ sz) by omega)] at htv_25
                      subst htv_25
                      exact hj_26
                  refine j_icmp_ne (tgt := 326) G dL_law_309 (by decide) (by omega) (by omega) (fun c309 => absurd c309 (by omega)) (fun c309 => ?_)
                  refine j_aload_n G 2 dL_law_312 rfl ?_
                  refine jl_seen G dL_law_313 gsL_seen ⟨by decide, by decide⟩ (Nat.le_of_ble_eq_true rfl) ⟨Nat.le_of_ble_eq_true rfl, Nat.le_of_ble_eq_true rfl⟩ hI hB (by exact (dn_b hsz)) (fun e_27 => ?_)
                  refine j_lload G 7 dL_law_316 rfl ?_
                  refine j_lcmp0 G dL_law_318 (by rfl) ?_
                  refine j_if_ne (tgt := 326) G dL_law_319 (by decide) (by omega) (fun c319 => absurd c319 (by omega)) (fun c319 => ?_)
                  refine j_iconst G dL_law_322 (v := 1) rfl ?_
                  refine j_goto (tgt := 327) G dL_law_323 (by decide) ?_
                  refine j_istore_n (lv' := [(2, .int (jI 1)), (0, .ref b), (1, .ref h), (3, .long (jL (seenZ zs))), (5, .int (jI dy)), (6, .int (jI n)), (7, .int (jI xx)), (8, .long (jL (seenZ z))), (10, .int (jI sz)), (11, .int (jI ra))]) G dL_law_327 (by decide) rfl ?_
                  refine j_lv [1, 2, 0, 3, 4, 5] (lv' := [(0, .ref b), (1, .ref h), (2, .int (jI 1)), (3, .long (jL (seenZ zs))), (5, .int (jI dy)), (6, .int (jI n))]) rfl ?_
                  exact lp328 e_27 z (hUp sz - 1) (hPush sz S z) (by first | exact hIa | exact hI) (by first | exact hBa | exact hBn.mono (by omega)) (by first | exact (hH.act hI hBn ra).mono (by omega) | exact (by have q := (hH.push hI hBn).down; rw [show hDn (hUp sz) = hUp sz - 1 from if_neg (by omega)] at q; exact q.mono (by omega)))
            refine j_iload G 4 dL_law_246 rfl ?_
            refine j_bipush G dL_law_248 (v := 8) rfl ?_
            refine j_irem G dL_law_250 (by omega) (by omega) ?_
            refine j_bipush G dL_law_251 (v := 7) rfl ?_
            refine j_icmp_ne (tgt := 268) G dL_law_253 (by decide) (by omega) (by omega) (fun c253 => ?_) (fun c253 => ?_)
            · exact lp268 e246
            · refine j_aload_n G 1 dL_law_256 rfl ?_
              refine j_iload G 5 dL_law_257 rfl ?_
              refine j_bipush G dL_law_259 (v := 7) rfl ?_
              refine j_idiv G dL_law_261 (by omega) (by omega) ?_
              refine jl_refuses G dL_law_262 gsL_refuses ⟨by decide, by decide⟩ (Nat.le_of_ble_eq_true rfl) ⟨Nat.le_of_ble_eq_true rfl, Nat.le_of_ble_eq_true rfl⟩ hIa hBa48 (by exact hSz_b (a := ra) hsz) (by omega) (fun e_28 => ?_)
              refine j_if_eq (tgt := 272) G dL_law_265 (by decide) (by omega) (fun c265 => absurd c265 (by omega)) (fun c265 => ?_)
              exact lp268 e_28
          refine j_iload G 4 dL_law_217 rfl ?_
          refine j_iconst G dL_law_219 (v := 4) rfl ?_
          refine j_irem G dL_law_220 (by omega) (by omega) ?_
          refine j_iconst G dL_law_221 (v := 3) rfl ?_
          refine j_icmp_ne (tgt := 246) G dL_law_222 (by decide) (by omega) (by omega) (fun c222 => ?_) (fun c222 => ?_)
          · exact lp246 e217
          · refine j_aload_n G 1 dL_law_225 rfl ?_
            refine jl_arePlots G dL_law_226 gsL_arePlots ⟨by decide, by decide⟩ (Nat.le_of_ble_eq_true rfl) ⟨Nat.le_of_ble_eq_true rfl, Nat.le_of_ble_eq_true rfl⟩ hIa hBa48 (by exact hSz_b (a := ra) hsz) (fun e_29 => ?_)
            refine j_if_eq (tgt := 272) G dL_law_229 (by decide) (by omega) (fun c229 => absurd c229 (by omega)) (fun c229 => ?_)
            refine j_aload_n G 1 dL_law_232 rfl ?_
            refine jl_areRows G dL_law_233 gsL_areRows ⟨by decide, by decide⟩ (Nat.le_of_ble_eq_true rfl) ⟨Nat.le_of_ble_eq_true rfl, Nat.le_of_ble_eq_true rfl⟩ hIa hBa48 (by exact hSz_b (a := ra) hsz) (fun e_30 => ?_)
            refine j_if_eq (tgt := 272) G dL_law_236 (by decide) (by omega) (fun c236 => absurd c236 (by omega)) (fun c236 => ?_)
            refine j_aload_n G 1 dL_law_239 rfl ?_
            refine jl_areCrews G dL_law_240 gsL_areCrews ⟨by decide, by decide⟩ (Nat.le_of_ble_eq_true rfl) ⟨Nat.le_of_ble_eq_true rfl, Nat.le_of_ble_eq_true rfl⟩ hIa hBa48 (by exact hSz_b (a := ra) hsz) (fun e_31 => ?_)
            refine j_if_eq (tgt := 272) G dL_law_243 (by decide) (by omega) (fun c243 => absurd c243 (by omega)) (fun c243 => ?_)
            exact lp246 e_31
        refine j_iload G 1 dL_law_173 rfl ?_
        refine j_if_ge (tgt := 198) G dL_law_175 (by decide) (by omega) (fun c175 => ?_) (fun c175 => ?_)
        · have u1 : hSz ra sz = hUp sz := if_pos (by omega)
          have u2 := up_is hsz
          refine j_iload G 0 dL_law_198 rfl ?_
          refine j_iload G 2 dL_law_200 rfl ?_
          refine j_iconst G dL_law_202 (v := 4) rfl ?_
          obtain ⟨tv_32, htv_32⟩ : ∃ v_ : Int, v_ = (if 4 ≤ sz then 4 else sz + 1) := ⟨_, rfl⟩
          suffices hj_33 : J x_ 71 1360 (oW Y h ad aq e_16 za zs 1 (hSz ra sz) (hSt ra sz S z)) 214 [(12, .int (jI (hSz ra sz))), (11, .int (jI ra)), (10, .int (jI sz)), (8, .long (jL (seenZ z))), (7, .int (jI xx)), (0, .ref b), (1, .ref h), (2, .int (jI 1)), (3, .long (jL (seenZ zs))), (5, .int (jI dy)), (6, .int (jI n))] [.int (jI tv_32), .int (jI (hSz ra sz))] by
            refine j_icmp_ge (tgt := 213) G dL_law_203 (by decide) (by omega) (by omega) (fun c203 => ?_) (fun c203 => ?_)
            · refine j_iconst G dL_law_213 (v := 4) rfl ?_
              rw [if_pos (show 4 ≤ sz by omega)] at htv_32
              subst htv_32
              exact hj_33
            · refine j_iload G 2 dL_law_206 rfl ?_
              refine j_iconst G dL_law_208 (v := 1) rfl ?_
              refine j_iadd G dL_law_209 ?_
              refine j_goto (tgt := 214) G dL_law_210 (by decide) ?_
              rw [if_neg (show ¬ (4 ≤ sz) by omega)] at htv_32
              subst htv_32
              exact hj_33
          refine j_icmp_ne (tgt := 272) G dL_law_214 (by decide) (by omega) (by omega) (fun c214 => absurd c214 (by omega)) (fun c214 => ?_)
          refine j_lv [5, 6, 8, 9, 10, 4, 3, 2, 1] (lv' := [(0, .ref b), (1, .ref h), (3, .long (jL (seenZ zs))), (5, .int (jI dy)), (6, .int (jI n)), (7, .int (jI xx)), (8, .long (jL (seenZ z))), (10, .int (jI sz)), (11, .int (jI ra))]) rfl ?_
          exact lp217 e_16
        · have u0 : hSz ra sz = sz := if_neg (by omega)
          refine j_iload G 0 dL_law_178 rfl ?_
          refine j_iload G 2 dL_law_180 rfl ?_
          refine j_icmp_ne (tgt := 272) G dL_law_182 (by decide) (by omega) (by omega) (fun c182 => absurd c182 (by omega)) (fun c182 => ?_)
          refine j_aload_n G 6 dL_law_185 rfl ?_
          refine jl_seen G dL_law_186 gsL_seen ⟨by decide, by decide⟩ (Nat.le_of_ble_eq_true rfl) ⟨Nat.le_of_ble_eq_true rfl, Nat.le_of_ble_eq_true rfl⟩ hIa hBa48 (by exact hSz_b (a := ra) hsz) (fun e_34 => ?_)
          refine j_lload G 3 dL_law_189 rfl ?_
          refine j_lcmp0 G dL_law_191 (by rw [hza (by omega)]) ?_
          refine j_if_ne (tgt := 272) G dL_law_192 (by decide) (by omega) (fun c192 => absurd c192 (by omega)) (fun c192 => ?_)
          refine j_goto (tgt := 217) G dL_law_195 (by decide) ?_
          refine j_lv [5, 6, 8, 9, 10, 4, 3, 2, 1] (lv' := [(0, .ref b), (1, .ref h), (3, .long (jL (seenZ zs))), (5, .int (jI dy)), (6, .int (jI n)), (7, .int (jI xx)), (8, .long (jL (seenZ z))), (10, .int (jI sz)), (11, .int (jI ra))]) rfl ?_
          exact lp217 e_34
  refine j_lv [5, 4, 3, 2, 1, 0] (lv' := [(0, .ref b), (1, .ref h), (2, .int (jI 1)), (3, .long (jL (seenZ z0))), (5, .int (jI 0)), (6, .int (jI 0))]) rfl ?_
  exact lp117 (Int.toNat ((48 - 0) + 1)) 0 0 e_11 z0 z0 0 (fun _ => z0) (by omega) (by exact z0_inv) (by exact z0_Bd) (by exact z0_inv) (by exact z0_Bd) (by exact His.zero _ _) (by rfl) (by omega)

set_option maxHeartbeats 40000000 in
set_option maxRecDepth 100000 in
theorem law_walks {x_ : Cx} {l : Launch} {D : va_G} {Y : Nat → ClassId} {nm : String} {rt : Option FieldType} {b L : Nat} {xs : Nat → Int32} (G : jG x_ l D Y cL_law RL wsL_law 16 room_1 rt nm) (X : jX x_ b L xs) (hL : L ≤ 260) (kend : ∀ {ws : va_W} (pc : Nat) (lv : List (Nat × Value)), decode cL_law pc = .ok (.ireturn, 1) → J x_ 71 1360 ws pc lv [.int (jI 1)]) : J x_ 0 0 ([]) 0 [(0, .ref b)] [] := by
  have hinX4 := inlX4
  refine j_new (C := RX4) (T := TX4) (N := 9) (ci := 4) (fs := [.null, .null, .null, .int (jI 0), .null, .null, .null, .int (jI 0), .int (jI 0)]) G hinX4 tyX4 tyX4_ok (List.mem_of_getElem? (i := 0) rfl) (List.mem_of_getElem? (i := 1) rfl) (List.mem_of_getElem? (i := 2) rfl) rfl (fun j hj => by rcases (show j = 0 ∨ j = 1 ∨ j = 2 ∨ j = 3 ∨ j = 4 ∨ j = 5 ∨ j = 6 ∨ j = 7 ∨ j = 8 by omega) with e | e | e | e | e | e | e | e | e <;> subst e <;> rfl) (Nat.le_of_ble_eq_true rfl) (Nat.le_of_ble_eq_true rfl) dL_law_0 (fun a_1 => ?_)
  refine j_conv (ws' := [ob a_1 4 [.null, .null, .null, .int (jI 0), .null, .null, .null, .int (jI 0), .int (jI 0)]]) (jLe.pos [0] rfl rfl) ?_
  show J x_ 1 9 ([ob a_1 4 [.null, .null, .null, .int (jI 0), .null, .null, .null, .int (jI 0), .int (jI 0)]]) 3 [(0, .ref b)] [.ref a_1]
  refine j_dup G dL_law_3 rfl ?_
  refine j_callI (nA := 0) (As := []) (st := [.ref a_1]) (wc := [ob a_1 4 [.null, .null, .null, .int (jI 0), .null, .null, .null, .int (jI 0), .int (jI 0)]]) (wr := ([])) G (c_X4_init l D Y a_1) dL_law_4 rfl gL_law_X4_init rfl rfl rfl (List.mem_of_getElem? (i := 2) rfl) (List.mem_of_getElem? (i := 3) rfl) (List.mem_of_getElem? (i := 4) rfl) rfl ⟨by decide, by decide, by decide +kernel⟩ ⟨by decide, by decide⟩ rfl (jLe.rf _) (Nat.le_of_ble_eq_true rfl) ⟨(Nat.le_of_ble_eq_true rfl), (Nat.le_of_ble_eq_true rfl)⟩ (fun v_ w_ hp_ => ?_)
  obtain ⟨hw_2, hb_3, hs_4, hh_5, hp_6, hd_7, qw_8, qb_9, qs_10, qh_11, A_12, Q_13, qp_14, qd_15, rfl, rfl⟩ := hp_
  refine j_conv (ws' := sV Y a_1 hw_2 hb_3 hs_4 hh_5 hp_6 hd_7 0 0 0 ++ (wZ Y hw_2 qw_8 z0 ++ (wZ Y hb_3 qb_9 z0 ++ (wZ Y hs_4 qs_10 z0 ++ (gV Y hh_5 qh_11 0 (r4 (A_12 0) (A_12 1) (A_12 2) (A_12 3)) ++ (wZ Y (A_12 0) (Q_13 0) z0 ++ (wZ Y (A_12 1) (Q_13 1) z0 ++ (wZ Y (A_12 2) (Q_13 2) z0 ++ (wZ Y (A_12 3) (Q_13 3) z0 ++ (pV Y hp_6 qp_14 (fun _ => 0) (fun _ => 0) 0 ++ (dV Y hd_7 qd_15 (fun _ => 0) 0 0 0 0 0))))))))))) (jLe.pos [0, 1, 2, 3, 4, 5, 6, 7, 8, 9, 10, 11, 12, 13, 14, 15, 16, 17, 18, 19, 20, 21, 22, 23, 24, 25, 26, 27, 28, 29, 30, 31, 32, 33, 34, 35, 36, 37, 38, 39, 40, 41, 42, 43, 44, 45, 46, 47, 48, 49, 50, 51, 52, 53, 54, 55, 56, 57, 58, 59, 60, 61, 62, 63, 64, 65, 66, 67, 68, 69, 70] rfl rfl) ?_
  show J x_ 71 1360 (sV Y a_1 hw_2 hb_3 hs_4 hh_5 hp_6 hd_7 0 0 0 ++ (wZ Y hw_2 qw_8 z0 ++ (wZ Y hb_3 qb_9 z0 ++ (wZ Y hs_4 qs_10 z0 ++ (gV Y hh_5 qh_11 0 (r4 (A_12 0) (A_12 1) (A_12 2) (A_12 3)) ++ (wZ Y (A_12 0) (Q_13 0) z0 ++ (wZ Y (A_12 1) (Q_13 1) z0 ++ (wZ Y (A_12 2) (Q_13 2) z0 ++ (wZ Y (A_12 3) (Q_13 3) z0 ++ (pV Y hp_6 qp_14 (fun _ => 0) (fun _ => 0) 0 ++ (dV Y hd_7 qd_15 (fun _ => 0) 0 0 0 0 0))))))))))) 7 [(0, .ref b)] [.ref a_1]
  refine j_astore_n (lv' := [(1, .ref a_1), (0, .ref b)]) G dL_law_7 (by decide) rfl ?_
  exact law_rest G X hL kend a_1 (qOf [hw_2, hb_3, hs_4, hh_5, hp_6, hd_7, qh_11, qd_15]) (fun j => ([qw_8, qb_9, qs_10, qp_14] : List (Nat → Nat)).getD j (fun _ => 0)) (z0, A_12, Q_13, (fun _ => 0), (fun _ => 0), 0, 0, 0, 0, 0)
