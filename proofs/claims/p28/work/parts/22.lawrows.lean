/-! ===== rows for the law's own methods: longs, constants, the script ===== -/
section JR20
variable {x : Cx} {l0 : Launch} {D0 : va_G} {Y : Nat → ClassId} {cc : ByteArray} {own : String} {Ts : List Cond} {nL0 : Nat} {R0 : Room} {ret : Option FieldType} {nm : String} {k n : Nat} {ws : va_W} {pc : Nat} {lv : List (Nat × Value)} {st : List Value} {b L : Nat} {xs : Nat → Int32}
theorem j_ldc (G : jG x l0 D0 Y cc own Ts nL0 R0 ret nm) {index : Nat} {v : Int} {v' : Int32} (hdg : decode cc pc = .ok (.ldc index, 2)) (hin : Cond.constant own index v' ∈ Ts) (hv : v' = jI v) (kk : J x k n ws (pc + 2) lv (.int (jI v) :: st)) : J x k n ws pc lv st := by
  obtain ⟨p, l, e, R, s, m, args, below, meth, c, Q, D, A, nL⟩ := x
  obtain ⟨rfl, rfl, rfl, rfl, hx, hb, hml, hown, hts, hK, hN, hT', hA, hlk, hr, hnm⟩ := G
  subst hv
  intro H locs ls hP hD hS hl
  exact lv_ldc hx hb hown (hts _ hin) hdg (kk H locs ls hP hD hS hl)
theorem j_ldc2 (G : jG x l0 D0 Y cc own Ts nL0 R0 ret nm) {index : Nat} {v : Int} {v' : Int64} (hdg : decode cc pc = .ok (.ldc2_w index, 3)) (hin : Cond.constantLong own index v' ∈ Ts) (hv : v' = jL v) (kk : J x k n ws (pc + 3) lv (.long (jL v) :: st)) : J x k n ws pc lv st := by
  obtain ⟨p, l, e, R, s, m, args, below, meth, c, Q, D, A, nL⟩ := x
  obtain ⟨rfl, rfl, rfl, rfl, hx, hb, hml, hown, hts, hK, hN, hT', hA, hlk, hr, hnm⟩ := G
  subst hv
  intro H locs ls hP hD hS hl
  exact lv_ldc2 hx hb hown (hts _ hin) hdg (kk H locs ls hP hD hS hl)
theorem j_lload_n (G : jG x l0 D0 Y cc own Ts nL0 R0 ret nm) {q : Fin 4} {v : Int64} (i : Nat) (hdg : decode cc pc = .ok (.lload_n q, 1)) (hi : lv[i]? = some ((q : Nat), .long v)) (kk : J x k n ws (pc + 1) lv (.long v :: st)) : J x k n ws pc lv st := by
  obtain ⟨p, l, e, R, s, m, args, below, meth, c, Q, D, A, nL⟩ := x
  obtain ⟨rfl, rfl, rfl, rfl, hx, hb, hml, hown, hts, hK, hN, hT', hA, hlk, hr, hnm⟩ := G
  intro H locs ls hP hD hS hl
  exact lv_lload_n hx hb hdg rfl (lv_at hl i hi) (kk H locs ls hP hD hS hl)
theorem j_lload (G : jG x l0 D0 Y cc own Ts nL0 R0 ret nm) {q : Nat} {v : Int64} (i : Nat) (hdg : decode cc pc = .ok (.lload q, 2)) (hi : lv[i]? = some (q, .long v)) (kk : J x k n ws (pc + 2) lv (.long v :: st)) : J x k n ws pc lv st := by
  obtain ⟨p, l, e, R, s, m, args, below, meth, c, Q, D, A, nL⟩ := x
  obtain ⟨rfl, rfl, rfl, rfl, hx, hb, hml, hown, hts, hK, hN, hT', hA, hlk, hr, hnm⟩ := G
  intro H locs ls hP hD hS hl
  exact lv_lload hx hb hdg (lv_at hl i hi) (kk H locs ls hP hD hS hl)
theorem j_lstore_n (G : jG x l0 D0 Y cc own Ts nL0 R0 ret nm) {q : Fin 4} {v : Int64} {lv' : List (Nat × Value)} (hdg : decode cc pc = .ok (.lstore_n q, 1)) (hn : (q : Nat) + 1 < nL0) (hl' : ((q : Nat), Value.long v) :: lv.filter (fun r => !(r.1 == (q : Nat)) && (!(r.1 == (q : Nat) + 1) && !(r.1 + 1 == (q : Nat) && r.2.category == 2))) = lv') (kk : J x k n ws (pc + 1) lv' st) : J x k n ws pc lv (.long v :: st) := by
  obtain ⟨p, l, e, R, s, m, args, below, meth, c, Q, D, A, nL⟩ := x
  obtain ⟨rfl, rfl, rfl, rfl, hx, hb, hml, hown, hts, hK, hN, hT', hA, hlk, hr, hnm⟩ := G
  intro H locs ls hP hD hS hl
  exact lv_lstore_n hx hb hdg rfl hl hn hl' (fun ls' hl2 => kk H locs ls' hP hD hS hl2)
theorem j_lstore (G : jG x l0 D0 Y cc own Ts nL0 R0 ret nm) {q : Nat} {v : Int64} {lv' : List (Nat × Value)} (hdg : decode cc pc = .ok (.lstore q, 2)) (hn : q + 1 < nL0) (hl' : (q, Value.long v) :: lv.filter (fun r => !(r.1 == q) && (!(r.1 == q + 1) && !(r.1 + 1 == q && r.2.category == 2))) = lv') (kk : J x k n ws (pc + 2) lv' st) : J x k n ws pc lv (.long v :: st) := by
  obtain ⟨p, l, e, R, s, m, args, below, meth, c, Q, D, A, nL⟩ := x
  obtain ⟨rfl, rfl, rfl, rfl, hx, hb, hml, hown, hts, hK, hN, hT', hA, hlk, hr, hnm⟩ := G
  intro H locs ls hP hD hS hl
  exact lv_lstore hx hb hdg hl hn hl' (fun ls' hl2 => kk H locs ls' hP hD hS hl2)
theorem j_ladd (G : jG x l0 D0 Y cc own Ts nL0 R0 ret nm) {a b : Int} (hdg : decode cc pc = .ok (.ladd, 1)) (kk : J x k n ws (pc + 1) lv (.long (jL (a + b)) :: st)) : J x k n ws pc lv (.long (jL b) :: .long (jL a) :: st) := by
  obtain ⟨p, l, e, R, s, m, args, below, meth, c, Q, D, A, nL⟩ := x
  obtain ⟨rfl, rfl, rfl, rfl, hx, hb, hml, hown, hts, hK, hN, hT', hA, hlk, hr, hnm⟩ := G
  intro H locs ls hP hD hS hl
  exact lv_ladd hx hb hdg (by rw [show jL a + jL b = jL (a + b) from (Int64.ofInt_add a b).symm]; exact kk H locs ls hP hD hS hl)
theorem j_lcmp0 (G : jG x l0 D0 Y cc own Ts nL0 R0 ret nm) {a b : Int} (hdg : decode cc pc = .ok (.lcmp, 1)) (he : a = b) (kk : J x k n ws (pc + 1) lv (.int (jI 0) :: st)) : J x k n ws pc lv (.long (jL b) :: .long (jL a) :: st) := by
  subst he
  obtain ⟨p, l, e, R, s, m, args, below, meth, c, Q, D, A, nL⟩ := x
  obtain ⟨rfl, rfl, rfl, rfl, hx, hb, hml, hown, hts, hK, hN, hT', hA, hlk, hr, hnm⟩ := G
  intro H locs ls hP hD hS hl
  refine W.lcmp hx hb hdg ?_
  rw [(lg_cmp_eq (jL a) (jL a)).mpr rfl]
  exact kk H locs ls hP hD hS hl
/-- the script: an array of the law's caller -/
def jX (x : Cx) (b L : Nat) (xs : Nat → Int32) : Prop :=
  match x with
  | (_, _, _, _, s, _, _, _, _, _, _, _, A, _) => va_X b L xs s s.heap ∧ b < s.heap.size ∧ ¬ A b
theorem j_sld (G : jG x l0 D0 Y cc own Ts nL0 R0 ret nm) (X : jX x b L xs) (hdg : decode cc pc = .ok (.iaload, 1)) {i : Int} (hL : L ≤ 260) (hi : 0 ≤ i ∧ i < L) (kk : J x k n ws (pc + 1) lv (.int (jI (xs i.toNat).toInt) :: st)) : J x k n ws pc lv (.int (jI i) :: .ref b :: st) := by
  obtain ⟨p, l, e, R, s, m, args, below, meth, c, Q, D, A, nL⟩ := x
  obtain ⟨rfl, rfl, rfl, rfl, hx, hb, hml, hown, hts, hK, hN, hT', hA, hlk, hr, hnm⟩ := G
  obtain ⟨x1, x2, x3⟩ := X
  intro H locs ls hP hD hS hl
  refine va_sld hx hb x1 x2 x3 hS (jI_in hi (by omega)) hdg ?_
  have kk' := kk H locs ls hP hD hS hl
  rw [← jI_of (xs i.toNat)] at kk'
  rw [jI_cl (by omega)]
  exact kk'
theorem j_slen (G : jG x l0 D0 Y cc own Ts nL0 R0 ret nm) (X : jX x b L xs) (hdg : decode cc pc = .ok (.arraylength, 1)) (kk : J x k n ws (pc + 1) lv (.int (jI (L : Int)) :: st)) : J x k n ws pc lv (.ref b :: st) := by
  obtain ⟨p, l, e, R, s, m, args, below, meth, c, Q, D, A, nL⟩ := x
  obtain ⟨rfl, rfl, rfl, rfl, hx, hb, hml, hown, hts, hK, hN, hT', hA, hlk, hr, hnm⟩ := G
  obtain ⟨x1, x2, x3⟩ := X
  intro H locs ls hP hD hS hl
  exact va_slen hx hb x1 x2 x3 hS hdg (kk H locs ls hP hD hS hl)
theorem andMax (x : Int32) : 0 ≤ (x &&& jI 2147483647).toInt ∧ (x &&& jI 2147483647).toInt ≤ 2147483647 := by
  have h : (x.toBitVec &&& (jI 2147483647).toBitVec).toNat ≤ 2147483647 := by
    rw [BitVec.toNat_and]
    exact Nat.and_le_right
  have e := BitVec.toInt_eq_toNat_of_lt (x := x.toBitVec &&& (jI 2147483647).toBitVec) (by omega)
  show 0 ≤ (x.toBitVec &&& (jI 2147483647).toBitVec).toInt ∧ (x.toBitVec &&& (jI 2147483647).toBitVec).toInt ≤ 2147483647
  omega
theorem j_andMax (G : jG x l0 D0 Y cc own Ts nL0 R0 ret nm) {a : Int} (hdg : decode cc pc = .ok (.iand, 1)) (kk : ∀ v : Int, 0 ≤ v ∧ v ≤ 2147483647 → J x k n ws (pc + 1) lv (.int (jI v) :: st)) : J x k n ws pc lv (.int (jI 2147483647) :: .int (jI a) :: st) := by
  obtain ⟨p, l, e, R, s, m, args, below, meth, c, Q, D, A, nL⟩ := x
  obtain ⟨rfl, rfl, rfl, rfl, hx, hb, hml, hown, hts, hK, hN, hT', hA, hlk, hr, hnm⟩ := G
  intro H locs ls hP hD hS hl
  refine lv_iand hx hb hdg ?_
  rw [jI_of (jI a &&& jI 2147483647)]
  exact kk _ (andMax (jI a)) H locs ls hP hD hS hl
/-- the method's end with a long -/
def jEL (x : Cx) (k n : Nat) (cc : ByteArray) (w : va_W) (v : Int64) : Prop := ∀ (pc : Nat) (lv : List (Nat × Value)), decode cc pc = .ok (.lreturn, 1) → J x k n w pc lv [.long v]
end JR20
theorem jM_ofL {l : Launch} {y : MethodName} {wsl ws' : List Cond} {rm : Room} {D : va_G} {Y : Nat → ClassId} {as : List Value} {w : va_W} {post : Option Value → va_W → Prop} {mc ms : Nat} {cc : ByteArray} {maxL : Nat}
    (hy : plainFor y = true) (hw : wsl = Cond.code y cc maxL (some .long) :: ws') (hlen : (lg_sl as).length ≤ maxL)
    (body : ∀ x : Cx, jG x l D Y cc y.cls wsl maxL (headSpec wsl rm).room (some .long) y.name → (∀ (v : Int64) w', post (some (.long v)) w' → jEL x mc ms cc w' v) → J x 0 0 w 0 (lv_args 0 as) []) : jM l y wsl rm D Y as w post mc ms := by
  intro sz
  refine va_MetF (cc := cc) (maxL := maxL) (ret := some .long) hy hw ?_
  intro p e s m args below meth c s₁ B hml hv
  obtain ⟨rfl, hsz, hP, hK, hN, hT, hD0⟩ := hv
  have hts := atoms_spec (ws := wsl) B.pre
  have hown : s.vm.findClass y.cls = some m.cls := findClass_of_methodNamed B.named
  have hin : meth.name = y.name := (name_of_methodNamed B.named B.method).1
  subst hsz
  have hl := lv_entry as (n := maxL) hlen
  rw [lg_entry_eq]
  refine body (p, l, e, (headSpec wsl rm).room, s, m, as.toArray, below, meth, c, _, D, va_A w s.heap.size, maxL) ⟨rfl, rfl, rfl, rfl, B.exec, B.bytes, hml, hown, hts, hK, hN, hT, fun q h => Or.inr h, B.notSynchronized, B.returns, hin⟩ ?_ s.heap [] _ hP hD0.self va_S.rf hl
  intro v w' hpost pc lv hdg H locs ls hP' hD' hS' hl'
  have hq : ∀ t : State, t.heap = H → s.WarmedH t.vm → jQ post D (va_A w s.heap.size) as.toArray s (.returned (some (.long v))) t := fun t ht _ => ⟨some (.long v), w', rfl, hpost, by rw [ht]; exact hP', hD', hS'.F ht⟩
  have hlk : meth.locks = false := B.notSynchronized
  exact W.lret B.exec B.bytes B.returns hq hS'.2.2 hdg hlk
theorem j_retl {x : Cx} {l0 : Launch} {D0 : va_G} {Y : Nat → ClassId} {cc : ByteArray} {own : String} {Ts : List Cond} {nL0 : Nat} {R0 : Room} {ret : Option FieldType} {nm : String} {k n : Nat} {ws : va_W} {pc : Nat} {lv : List (Nat × Value)} {e r : Int} (_G : jG x l0 D0 Y cc own Ts nL0 R0 ret nm) (hdg : decode cc pc = .ok (.lreturn, 1)) (he : e = r) (kr : jEL x k n cc ws (jL r)) : J x k n ws pc lv [.long (jL e)] := by
  subst he
  exact kr pc lv hdg
/-! a method that reads the script -/
def jPX (D : va_G) (Y : Nat → ClassId) (sz : Nat) (as : List Value) (b L : Nat) (xs : Nat → Int32) : Array Value → State → Prop := va_Pc as (fun U => U.heap.size = sz ∧ va_P D vwCl [] U.heap ∧ va_K D vwCl (TY Y) U ∧ NW U ∧ ST (va_A [] sz) U U.heap ∧ va_D (fun _ => True) [] ∧ va_X b L xs U U.heap ∧ b < sz)
def jMX (l : Launch) (y : MethodName) (wsl : List Cond) (rm : Room) (D : va_G) (Y : Nat → ClassId) (as : List Value) (b L : Nat) (xs : Nat → Int32) (post : Option Value → va_W → Prop) (mc ms : Nat) : Prop :=
  ∀ sz : Nat, Met l y wsl rm (jPX D Y sz as b L xs) (jQ post D (va_A [] sz)) mc ms (va_A [] sz)
theorem jMX_of {l : Launch} {y : MethodName} {wsl ws' : List Cond} {rm : Room} {D : va_G} {Y : Nat → ClassId} {as : List Value} {b L : Nat} {xs : Nat → Int32} {post : Option Value → va_W → Prop} {mc ms : Nat} {cc : ByteArray} {maxL : Nat} {ret : Option FieldType}
    (hy : plainFor y = true) (hw : wsl = Cond.code y cc maxL ret :: ws') (hlen : (lg_sl as).length ≤ maxL) (hfit : ∀ v w', post v w' → jFit ret v)
    (body : ∀ x : Cx, jG x l D Y cc y.cls wsl maxL (headSpec wsl rm).room ret y.name → jX x b L xs → (∀ v w', post v w' → jE x mc ms cc w' v) → J x 0 0 [] 0 (lv_args 0 as) []) : jMX l y wsl rm D Y as b L xs post mc ms := by
  intro sz
  refine va_MetF (cc := cc) (maxL := maxL) (ret := ret) hy hw ?_
  intro p e s m args below meth c s₁ B hml hv
  obtain ⟨rfl, hsz, hP, hK, hN, hT, hD0, hX, hbl⟩ := hv
  have hts := atoms_spec (ws := wsl) B.pre
  have hown : s.vm.findClass y.cls = some m.cls := findClass_of_methodNamed B.named
  have hin : meth.name = y.name := (name_of_methodNamed B.named B.method).1
  subst hsz
  have hl := lv_entry as (n := maxL) hlen
  rw [lg_entry_eq]
  have hnb : ¬ va_A [] s.heap.size b := by
    intro h
    rcases h with ⟨k, e', h⟩ | h
    · simp at h
    · exact absurd h (Nat.not_le_of_lt hbl)
  refine body (p, l, e, (headSpec wsl rm).room, s, m, as.toArray, below, meth, c, _, D, va_A [] s.heap.size, maxL) ⟨rfl, rfl, rfl, rfl, B.exec, B.bytes, hml, hown, hts, hK, hN, hT, fun q h => Or.inr h, B.notSynchronized, B.returns, hin⟩ ⟨hX, hbl, hnb⟩ ?_ s.heap [] _ hP hD0.self va_S.rf hl
  intro v w' hpost pc lv hdg H locs ls hP' hD' hS' hl'
  have hq : ∀ t : State, t.heap = H → s.WarmedH t.vm → jQ post D (va_A [] s.heap.size) as.toArray s (.returned v) t := fun t ht _ => ⟨v, w', rfl, hpost, by rw [ht]; exact hP', hD', hS'.F ht⟩
  have hlk : meth.locks = false := B.notSynchronized
  rcases hfit v w' hpost with ⟨hr, hv⟩ | ⟨ty, i, hr, hv, hn⟩ | ⟨nm, a, hr, hv⟩
  · subst hv
    exact W.vret B.exec B.bytes (B.returns.trans hr) hq hS'.2.2 hdg hlk
  · subst hv
    exact W.zret B.exec B.bytes (B.returns.trans hr) hn hq hS'.2.2 hdg hlk
  · subst hv
    exact W.aret B.exec B.bytes (B.returns.trans hr) (Or.inl ⟨nm, rfl⟩) (Or.inr ⟨a, rfl⟩) hq hS'.2.2 hdg hlk
theorem jPX_blind (D : va_G) (Y : Nat → ClassId) (sz : Nat) (as : List Value) (b L : Nat) (xs : Nat → Int32) : FrameBlind (jPX D Y sz as b L xs) := fun a U g mk q => by
  obtain ⟨h0, h1, h2, h3, h4, h5, h6, h7, h8⟩ := q
  exact ⟨h0, h1, h2, va_K.moved (u := U) (U := U.calling g mk a) (Vm.Alike.refl U.vm) h3, NW.same (u := U) (U := U.calling g mk a) rfl h4, ST.go (u := U) (U := U.calling g mk a) h5 (Vm.Alike.refl U.vm) (fun _ _ _ => rfl) (fun _ h => h), h6, va_X.moved (u := U) (U := U.calling g mk a) (Vm.Alike.refl U.vm) h7, h8⟩
section JR21
variable {x : Cx} {l0 : Launch} {D0 : va_G} {Y : Nat → ClassId} {cc : ByteArray} {own : String} {Ts : List Cond} {nL0 : Nat} {R0 : Room} {ret : Option FieldType} {nm : String} {k n : Nat} {ws : va_W} {pc : Nat} {lv : List (Nat × Value)} {st st0 : List Value}
variable {y : MethodName} {wsl ws' : List Cond} {rm : Room} {post : Option Value → va_W → Prop} {mc ms index nA maxL : Nat} {cb : ByteArray} {rt : Option FieldType} {As : List Value} {b L : Nat} {xs : Nat → Int32}
theorem j_callSX (G : jG x l0 D0 Y cc own Ts nL0 R0 ret nm) (X : jX x b L xs) (hM : jMX l0 y wsl rm D0 Y As b L xs post mc ms) (hdg : decode cc pc = .ok (.invokestatic index, 3)) (hst : st0 = As.reverse ++ st) (hT : GoodIn Ts (va_wsS own index y wsl)) (hw : wsl = Cond.code y cb maxL rt :: ws') (hrc : rm.cells = mc) (hrs : rm.slots = ms)
    (hd : y.cls ≠ "java/lang/invoke/MethodHandle" ∧ y.cls ≠ "java/lang/invoke/VarHandle" ∧ (parseMethodDescriptor y.desc).map (fun d => d.parameters.length) = some nA) (hR : rm.frames + 1 ≤ R0.frames ∧ 8 + (maxL + 11) + rm.locals ≤ R0.locals) (hn : As.length = nA) (hW : (st.map fun v => v.category).sum ≤ 8) (hf : k + mc ≤ R0.cells ∧ n + ms ≤ R0.slots)
    (kk : ∀ v w', post v w' → J x (k + mc) (n + ms) (w' ++ ws) (pc + 3) lv (v.toList ++ st)) : J x k n ws pc lv st0 := by
  obtain ⟨p, l, e, R, s, m, args, below, meth, c, Q, D, A, nL⟩ := x
  obtain ⟨rfl, rfl, rfl, rfl, hx, hb, hml, hown, hts, hK, hN, hT', hA, hlk, hr, hnm⟩ := G
  obtain ⟨x1, x2, x3⟩ := X
  intro H locs ls hP hD hS hl
  subst hst
  refine jcall_W (wc := []) (wr := ws) (va_runS (As := As) (rest := st) ⟨hx, hb, hml, hown, hts⟩ (hM H.size) (va_cwS nA hts hT hw hrc hrs hd hR) ⟨jPX_blind _ _ _ _ _ _ _, ?_⟩ rfl hn hl.1 rfl (lv_room hW) hdg hf) hS hA hP hD
    (fun v w' H1 locs1 hp h1 h2 h3 => kk v w' hp H1 locs1 ls h1 h2 h3 hl)
  intro U hU hWm
  obtain ⟨e1, e2, e3, e4, e5, e6, e7⟩ := jP_at (wc := []) (wr := ws) hP hD hS hA hK hN hT' As U hU hWm
  refine ⟨e1, e2, e3, e4, e5, e6, e7, ?_, Nat.lt_of_lt_of_le x2 hS.1⟩
  rw [hU]
  exact va_X.moved hWm.alike (x1.kept (hS.2.1 b x2 x3))
end JR21
